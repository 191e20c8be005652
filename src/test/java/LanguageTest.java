import java.io.IOException;
import java.lang.reflect.Constructor;
import java.lang.reflect.Field;
import java.lang.reflect.Method;
import java.lang.reflect.Modifier;
import java.nio.file.Files;
import java.nio.file.Path;
import java.util.ArrayList;
import java.util.List;
import java.util.regex.Matcher;
import java.util.regex.Pattern;

/** What of LANGUAGE.md can be seen from the class and its text: it is run where .ci/run runs it. */
public final class LanguageTest {
    private static final List<String> FACE = List.of("feed", "end", "read", "about", "word", "count");
    private static final List<String> THROWN = List.of(
        "IndexOutOfBoundsException", "IllegalArgumentException", "UnsupportedOperationException");
    private static final String[] NOT_THERE = {
        "import", "package", "synchronized", "assert", "finally", "try", "catch", "native", "volatile", "transient",
        "Object", "System.out", "Thread", "hashCode", "getClass", "null", "double", "float", "instanceof"};

    public static void main(String[] args) throws IOException {
        String text = withoutCommentsAndTexts(Files.readString(Path.of("src/main/java/TermReader.java")));
        classesInside();
        for (Class<?> each : allClasses()) {
            staticFieldsAreFinal(each);
            sizes(each);
        }
        privateNames();
        wordsThatAreNotThere(text);
        whatIsThrown(text);
        methodsAreShort(text);
        Checks.finish();
    }

    private static List<Class<?>> allClasses() {
        List<Class<?>> all = new ArrayList<>(List.of(TermReader.class.getDeclaredClasses()));
        all.add(TermReader.class);
        return all;
    }

    private static void no(String what, boolean found) {
        Checks.due(what, found ? 1 : 0, 0);
    }

    // Rules 1, 2 and 11.
    private static void classesInside() {
        no("more than twelve classes", allClasses().size() > 12);
        for (Class<?> each : TermReader.class.getDeclaredClasses()) {
            int modifiers = each.getModifiers();
            no(each + " is not static", !Modifier.isStatic(modifiers));
            no(each + " is seen outside", Modifier.isPublic(modifiers) || Modifier.isProtected(modifiers));
            no(each + " has classes inside", each.getDeclaredClasses().length > 0);
        }
    }

    // Rule 5.
    private static void staticFieldsAreFinal(Class<?> each) {
        for (Field field : each.getDeclaredFields()) {
            boolean isStatic = Modifier.isStatic(field.getModifiers());
            no(field + " can change", isStatic && !Modifier.isFinal(field.getModifiers()));
        }
    }

    // Rule 11.
    private static void sizes(Class<?> each) {
        int fields = 0;
        for (Field field : each.getDeclaredFields()) {
            fields += Modifier.isStatic(field.getModifiers()) ? 0 : 1;
        }
        no(each + " has more than twenty fields", fields > 20);
        for (Method method : each.getDeclaredMethods()) {
            no(method + " has more than seven parameters", method.getParameterCount() > 7);
        }
        for (Constructor<?> constructor : each.getDeclaredConstructors()) {
            no(constructor + " has more than seven parameters", constructor.getParameterCount() > 7);
        }
    }

    // Rule 1: the public names are for the face alone.
    private static void privateNames() {
        for (Class<?> each : allClasses()) {
            for (Method method : each.getDeclaredMethods()) {
                boolean ofTheFace = each == TermReader.class && Modifier.isPublic(method.getModifiers());
                no(method + " bears a public name", !ofTheFace && FACE.contains(method.getName()));
            }
        }
    }

    private static void wordsThatAreNotThere(String text) {
        for (String word : NOT_THERE) {
            no(word, Pattern.compile("\\b" + Pattern.quote(word) + "\\b").matcher(text).find());
        }
        no("a lambda", text.contains("->"));
        no("a method reference", text.contains("::"));
        no("a text that is joined by +", Pattern.compile("\"\\s*\\+|\\+\\s*\"").matcher(text).find());
    }

    // Rule 6: a written text or none.
    private static void whatIsThrown(String text) {
        Matcher thrown = Pattern.compile("\\bthrow\\b(.*)").matcher(text);
        Pattern due = Pattern.compile(" new (\\w+)\\((\"\")?\\);");
        while (thrown.find()) {
            Matcher written = due.matcher(thrown.group(1));
            no("throw" + thrown.group(1), !written.matches() || !THROWN.contains(written.group(1)));
        }
    }

    // Rule 11, by how far what opens them stands from the margin.
    private static void methodsAreShort(String text) {
        String[] lines = text.split("\n");
        for (int i = 0; i < lines.length; i++) {
            if (lines[i].matches("( {4}| {8})[\\w\\[\\] ]+\\([^;]*\\{") && !lines[i].matches(" +(if|for|while|switch) .*")) {
                String margin = lines[i].substring(0, lines[i].length() - lines[i].stripLeading().length());
                int last = i;
                while (!lines[last].equals(margin + "}")) {
                    last++;
                }
                no(lines[i].strip() + " has more than sixty lines", last - i > 60);
            }
        }
    }

    private static String withoutCommentsAndTexts(String text) {
        return text
            .replaceAll("\"(\\\\.|[^\"\\\\\n])*\"", "\"\"")
            .replaceAll("'(\\\\.|[^'\\\\])'", "0")
            .replaceAll("(?s)/\\*.*?\\*/", "")
            .replaceAll("//[^\n]*", "");
    }
}

import java.util.ArrayList;
import java.util.List;

/** Every sequence of so many signs. */
final class Sequences {
    private Sequences() {
    }

    static List<List<String>> of(String[] signs, int length) {
        int all = 1;
        for (int i = 0; i < length; i++) {
            all *= signs.length;
        }
        List<List<String>> sequences = new ArrayList<>();
        for (int number = 0; number < all; number++) {
            List<String> sequence = new ArrayList<>();
            int rest = number;
            for (int i = 0; i < length; i++) {
                sequence.add(signs[rest % signs.length]);
                rest /= signs.length;
            }
            sequences.add(sequence);
        }
        return sequences;
    }
}

import java.util.ArrayList;
import java.util.List;

/** Numbers that are refused: the first ones on each side, and such as a narrower type would take. */
final class Wrong {
    static final Class<IndexOutOfBoundsException> INDEX = IndexOutOfBoundsException.class;
    static final Class<IllegalArgumentException> ARGUMENT = IllegalArgumentException.class;
    static final Class<IllegalStateException> STATE = IllegalStateException.class;

    private Wrong() {
    }

    /** Numbers of members, or of throws, where there are so many. */
    static List<Integer> numbers(int count) {
        return outside(0, count - 1);
    }

    /** Amounts, where 1 to the most is taken. */
    static List<Integer> amounts(int most) {
        return outside(1, most);
    }

    static List<Integer> shoulders() {
        return outside(0, 1);
    }

    /** 8 and 30 are where a full order and a full ledger end. */
    private static List<Integer> outside(int least, int most) {
        List<Integer> wrong = new ArrayList<>();
        for (int number : new int[] {least - 1, most + 1, 0, 1, 29, -most, -30, -8, 8, 30, 31, 100, 256 + least, 65536 + least,
                -256 + least, -65536 + least, Integer.MIN_VALUE, Integer.MIN_VALUE + least,
                Integer.MAX_VALUE - 1, Integer.MAX_VALUE}) {
            if (number < least || number > most) {
                wrong.add(number);
            }
        }
        return wrong;
    }
}

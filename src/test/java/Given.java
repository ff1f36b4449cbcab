import java.util.function.Consumer;
import java.util.function.Supplier;

/** Objects that tests begin with, what tests do with a proof, and all that can be seen of an object. */
final class Given {
    static final int P = 2147483579;
    static final int Q = 1073741789;
    static final int MAX = Integer.MAX_VALUE;
    static final int MIN = Integer.MIN_VALUE;

    private Given() {
    }

    static FoldedProof shaped(int kind, int n, int m) {
        FoldedProof x = new FoldedProof();
        x.shape(kind, n, m);
        return x;
    }

    static FoldedProof range(int n, int... values) {
        FoldedProof x = shaped(0, n, values.length);
        for (int j = 0; j < values.length; j++) {
            x.party(j, values[j], 1000 + j, 2000 + j);
        }
        return x;
    }

    /** The value 42 is a product, and its left factor is the value 6. */
    static FoldedProof circuit() {
        FoldedProof x = shaped(1, 2, 2);
        x.party(0, 42, 11, 9);
        x.party(1, 6, 12, 0);
        x.multiply(0, 6, 7);
        x.weigh(0, 2, 0, 1);
        x.weigh(0, 3, 0, 1);
        x.weigh(11, 0, 0, 1);
        x.weigh(11, 3, 1, 1);
        return x;
    }

    static FoldedProof proved(FoldedProof x) {
        x.prove();
        return x;
    }

    /** Types what it can of a text, and tells how many characters were taken. */
    static int type(FoldedProof x, String text) {
        int taken = 0;
        for (int k = 0; k < text.length(); k++) {
            taken += x.type(text.charAt(k)) ? 1 : 0;
        }
        return taken;
    }

    static void putNumber(FoldedProof x, int k, long number) {
        for (int b = 0; b < 4; b++) {
            x.change(4 * k + b, (int) (number >> 8 * b));
        }
    }

    static long number(FoldedProof x, int k) {
        long number = 0;
        for (int b = 3; b >= 0; b--) {
            number = number << 8 | x.byteAt(4 * k + b);
        }
        return number;
    }

    static String bytes(FoldedProof x) {
        StringBuilder bytes = new StringBuilder();
        for (int k = 0; k < x.size(); k++) {
            bytes.append(x.byteAt(k)).append(' ');
        }
        return bytes.toString();
    }

    /** All that can be seen of an object without changing it. */
    static String seen(FoldedProof x) {
        StringBuilder seen = new StringBuilder(bytes(x));
        for (int k = -1; k < 11; k++) {
            seen.append(" challenge ").append(x.challenge(k));
        }
        for (int j = -1; j < 6; j++) {
            seen.append(" claim ").append(x.claimed(j));
        }
        return seen.append(" holds ").append(x.holds()).toString();
    }

    /** What is seen now, behind a check, which uses the text, and behind a proof, which uses all else. */
    static String seenFromNowOn(FoldedProof x) {
        String now = seen(x);
        int verdict = x.verify();
        String checked = seen(x);
        int blamed = x.prove();
        return now + " verify " + verdict + checked + " prove " + blamed + seen(x);
    }

    /** Whether calls leave an object as it would be without them. */
    static boolean leavesAll(Supplier<FoldedProof> made, Consumer<FoldedProof> calls) {
        FoldedProof x = made.get();
        calls.accept(x);
        return seenFromNowOn(x).equals(seenFromNowOn(made.get()));
    }

    static boolean sameProof(FoldedProof x, Reference due) {
        StringBuilder bytes = new StringBuilder();
        for (int k = 0; k < due.size(); k++) {
            bytes.append(due.byteAt(k)).append(' ');
        }
        return bytes(x).equals(bytes.toString());
    }
}

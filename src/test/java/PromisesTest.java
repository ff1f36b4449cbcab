import java.math.BigInteger;

/** Each promise of the document by itself: ordinary inputs, the edges it names, wrong inputs. */
public final class PromisesTest {
    private static final int Q = 1073741789;
    private static final int P = 2147483579;
    private static final Due DUE = new Due();

    private PromisesTest() {
    }

    public static void main(String[] args) {
        newObject();
        type();
        shapesTaken();
        shapeClears();
        party();
        partyBits();
        multiply();
        weigh();
        holds();
        claim();
        claimed();
        spoil();
        spoilCancels();
        prove();
        proveBlames();
        proveCircuit();
        verify();
        verifyCarried();
        verifyMalformed();
        sizes();
        byteAt();
        change();
        cut();
        challenge();
        DUE.end();
    }

    // Helpers.

    private static FoldedProof shaped(int kind, int n, int m) {
        FoldedProof x = new FoldedProof();
        x.shape(kind, n, m);
        return x;
    }

    private static FoldedProof range(int n, int... values) {
        FoldedProof x = shaped(0, n, values.length);
        for (int j = 0; j < values.length; j++) {
            x.party(j, values[j], 1000 + j, 2000 + j);
        }
        return x;
    }

    /** The value 42 is a product, and its left factor is the value 6. */
    private static FoldedProof circuit() {
        FoldedProof x = shaped(1, 2, 2);
        x.party(0, 42, 11, 9);
        x.party(1, 6, 12, 0);
        x.multiply(0, 6, 7);
        x.weigh(0, 2, 0, 1);
        x.weigh(0, 3, 0, 1);
        x.weigh(11, 0, 0, 1);
        x.weigh(11, 3, 1, 1);
        return x;
    }

    private static void type(FoldedProof x, String text) {
        for (int k = 0; k < text.length(); k++) {
            DUE.yes("type(" + text.charAt(k) + ")", x.type(text.charAt(k)));
        }
    }

    private static void putNumber(FoldedProof x, int k, long number) {
        for (int b = 0; b < 4; b++) {
            DUE.yes("change", x.change(4 * k + b, (int) (number >> 8 * b)));
        }
    }

    private static long number(FoldedProof x, int k) {
        long number = 0;
        for (int b = 3; b >= 0; b--) {
            number = number << 8 | x.byteAt(4 * k + b);
        }
        return number;
    }

    private static String bytes(FoldedProof x) {
        StringBuilder bytes = new StringBuilder();
        for (int k = 0; k < x.size(); k++) {
            bytes.append(x.byteAt(k)).append(' ');
        }
        return bytes.toString();
    }

    private static void sameProof(String what, FoldedProof x, FoldedProof other) {
        DUE.yes(what, bytes(x).equals(bytes(other)));
    }

    private static void sameProof(String what, FoldedProof x, Reference other) {
        DUE.is(what + ": size", x.size(), other.size());
        for (int k = 0; k < other.size(); k++) {
            DUE.is(what + ": byte " + k, x.byteAt(k), other.byteAt(k));
        }
    }

    // Promise 1.

    private static void newObject() {
        FoldedProof x = new FoldedProof();
        DUE.is("new: claimed(0)", x.claimed(0), 1);
        DUE.is("new: claimed(1)", x.claimed(1), FoldedProof.NONE);
        DUE.is("new: size()", x.size(), 0);
        DUE.is("new: byteAt(0)", x.byteAt(0), FoldedProof.NONE);
        DUE.is("new: challenge(0)", x.challenge(0), FoldedProof.NONE);
        DUE.no("new: holds()", x.holds());
        DUE.refused("new: multiply(0, 0, 0)", () -> new FoldedProof().multiply(0, 0, 0));
        DUE.refused("new: party(1, ..)", () -> new FoldedProof().party(1, 0, 0, 0));
        DUE.is("new: verify()", x.verify(), 1);
        DUE.is("new: prove()", x.prove(), 0);
        Reference due = new Reference();
        due.prove();
        sameProof("new: prove()", x, due);
        FoldedProof told = shaped(0, 1, 1);
        told.party(0, 0, 0, 0);
        told.prove();
        sameProof("new: as told", x, told);
        DUE.is("new: verify() behind prove()", x.verify(), 0);
    }

    // Promise 2.

    private static void type() {
        FoldedProof x = new FoldedProof();
        for (int c : new int[] {31, 127, 0, -1, -32, 128, 255, 256 + 65, Integer.MAX_VALUE, Integer.MIN_VALUE}) {
            DUE.no("type(" + c + ")", x.type(c));
        }
        FoldedProof untyped = new FoldedProof();
        x.prove();
        untyped.prove();
        sameProof("refused characters are not in the text", x, untyped);
        for (int c = 32; c <= 126; c++) {
            DUE.yes("type(" + c + ")", new FoldedProof().type(c));
        }
        for (int k = 0; k < 40; k++) {
            DUE.yes("type, character " + k, x.type(k % 2 == 0 ? 32 : 126));
        }
        DUE.no("type, the 41st", x.type(65));
        DUE.no("type, the 41st, none", x.type(31));
        x.prove();
        Reference due = new Reference();
        for (int k = 0; k < 40; k++) {
            due.type(k % 2 == 0 ? 32 : 126);
        }
        due.prove();
        sameProof("forty characters", x, due);
        DUE.yes("type behind prove", x.type(65));
        x.verify();
        type(x, "0123456789012345678901234567890123456789");
    }

    // Promise 3.

    private static void shapesTaken() {
        for (int kind = -1; kind <= 2; kind++) {
            for (int n = -4; n <= 66; n++) {
                for (int m = -2; m <= 9; m++) {
                    boolean power = Integer.bitCount(n) == 1 && n > 0;
                    boolean fine = kind == 0 && power && n <= 32 && (m == 1 || m == 2 || m == 4) && n * m <= 32
                        || kind == 1 && power && n <= 8 && m >= 0 && m <= 4;
                    FoldedProof x = new FoldedProof();
                    int k = kind;
                    int nn = n;
                    int mm = m;
                    String call = "shape(" + kind + ", " + n + ", " + m + ")";
                    DUE.is(call + " refused", Due.isRefused(() -> x.shape(k, nn, mm)) ? 1 : 0, fine ? 0 : 1);
                    DUE.is(call + ", claims", x.claimed(Math.max(0, fine ? m - 1 : 0)), fine && m == 0 ? -1 : 1);
                    DUE.is(call + ", none more", x.claimed(fine ? m : 1), -1);
                }
            }
        }
        int[] wrong = {Integer.MIN_VALUE, Integer.MAX_VALUE, 1 << 30, 65536};
        for (int number : wrong) {
            DUE.refused("shape(" + number + ", 1, 1)", () -> new FoldedProof().shape(number, 1, 1));
            DUE.refused("shape(0, " + number + ", 1)", () -> new FoldedProof().shape(0, number, 1));
            DUE.refused("shape(0, 4, " + number + ")", () -> new FoldedProof().shape(0, 4, number));
            DUE.refused("shape(1, " + number + ", 1)", () -> new FoldedProof().shape(1, number, 1));
            DUE.refused("shape(1, 1, " + number + ")", () -> new FoldedProof().shape(1, 1, number));
        }
    }

    private static void shapeClears() {
        FoldedProof x = range(4, 3, 5);
        x.spoil(0, 0, 1);
        x.spoil(1, 4, 1);
        x.prove();
        x.claim(0, 4);
        type(x, "kept");
        DUE.refused("a wrong shape", () -> x.shape(0, 3, 1));
        DUE.is("behind a wrong shape, size()", x.size(), 60);
        DUE.is("behind a wrong shape, claimed(0)", x.claimed(0), 4);
        DUE.yes("behind a wrong shape, challenge(0)", x.challenge(0) >= 0);
        x.shape(0, 4, 2);
        DUE.is("behind shape, size()", x.size(), 0);
        DUE.is("behind shape, claimed(0)", x.claimed(0), 1);
        DUE.is("behind shape, challenge(0)", x.challenge(0), -1);
        DUE.is("behind shape, prove()", x.prove(), 0);
        FoldedProof fresh = shaped(0, 4, 2);
        type(fresh, "kept");
        fresh.prove();
        sameProof("behind shape, the text is kept, all else is new", x, fresh);
        FoldedProof y = circuit();
        y.weigh(3, 4, 0, 5);
        y.prove();
        y.shape(1, 2, 2);
        DUE.yes("behind shape, holds()", y.holds());
        y.prove();
        FoldedProof freshCircuit = shaped(1, 2, 2);
        freshCircuit.prove();
        sameProof("behind shape, the circuit is new", y, freshCircuit);
        y.shape(0, 1, 1);
        y.prove();
        FoldedProof newest = new FoldedProof();
        newest.prove();
        sameProof("back to the first shape", y, newest);
    }

    // Promise 4.

    private static void party() {
        FoldedProof x = shaped(0, 8, 2);
        DUE.refused("party(-1, ..)", () -> x.party(-1, 1, 1, 1));
        DUE.refused("party(2, ..)", () -> x.party(2, 1, 1, 1));
        DUE.refused("party(MAX, ..)", () -> x.party(Integer.MAX_VALUE, 1, 1, 1));
        x.party(1, 1, 0, 0);
        DUE.is("B", x.claimed(1), 4);
        x.party(1, 0, 1, 0);
        DUE.is("H", x.claimed(1), 9);
        x.party(1, 2, 1, 77);
        DUE.is("B squared, H", x.claimed(1), 144);
        DUE.is("the other party", x.claimed(0), 1);
        x.party(1, -Q, Q, 0);
        DUE.is("modulo Q", x.claimed(1), 1);
        x.party(1, 1 - Q, -Q, 0);
        DUE.is("modulo Q, below 0", x.claimed(1), 4);
        x.party(0, -1, 0, 0);
        x.claim(1, 4);
        long product = (long) x.claimed(0) * x.claimed(1) % P;
        DUE.is("B to the -1, times B", product, 1);
        DUE.taken("party(0, ..) with m 0", () -> shaped(1, 4, 0).party(0, 1, 1, 1));
        DUE.refused("party(1, ..) with m 0", () -> shaped(1, 4, 0).party(1, 1, 1, 1));
        DUE.taken("party(3, ..) with m 4", () -> shaped(1, 4, 4).party(3, 1, 1, 1));
        DUE.refused("party(4, ..) with m 4", () -> shaped(1, 4, 4).party(4, 1, 1, 1));
        FoldedProof none = shaped(1, 4, 0);
        none.party(0, 5, 6, 7);
        DUE.is("no claim with m 0", none.claimed(0), -1);
        FoldedProof seeded = range(2, 1);
        seeded.party(0, 1, 1000, 2000 - Q);
        FoldedProof same = range(2, 1);
        seeded.prove();
        same.prove();
        sameProof("seeds modulo Q", seeded, same);
        seeded.party(0, 1, 1000, 2001);
        seeded.prove();
        DUE.no("another seed is another proof", bytes(seeded).equals(bytes(same)));
        DUE.is("but a right one", seeded.verify(), 0);
    }

    private static void partyBits() {
        for (int n = 1; n <= 32; n *= 2) {
            int top = n == 32 ? Integer.MAX_VALUE : (1 << n) - 1;
            DUE.is(n + " bits, 0", range(n, 0).prove(), 0);
            DUE.is(n + " bits, the largest", range(n, top).prove(), 0);
            DUE.is(n + " bits, -1", range(n, -1).prove(), 1);
            DUE.is(n + " bits, the smallest int", range(n, Integer.MIN_VALUE).prove(), 1);
            if (n < 32) {
                DUE.is(n + " bits, one too many", range(n, top + 1).prove(), 1);
            }
        }
        // 32 bits hold the value though it is above Q.
        DUE.is("32 bits, Q", range(32, Q).prove(), 0);
        DUE.is("32 bits, Q + 1", range(32, Q + 1).prove(), 0);
        // Of -Q the lowest bits are not those of 0, its value modulo Q.
        DUE.is("8 bits, -Q", range(8, -Q).prove(), 1);
    }

    // Promise 5.

    private static void multiply() {
        for (int n = 1; n <= 8; n *= 2) {
            FoldedProof x = shaped(1, n, 1);
            int last = n - 1;
            DUE.taken("multiply(0, ..)", () -> x.multiply(0, 1, 1));
            DUE.taken("multiply(last, ..)", () -> x.multiply(last, 1, 1));
            DUE.refused("multiply(n, ..)", () -> x.multiply(last + 1, 1, 1));
            DUE.refused("multiply(-1, ..)", () -> x.multiply(-1, 1, 1));
            DUE.refused("multiply(MAX, ..)", () -> x.multiply(Integer.MAX_VALUE, 1, 1));
        }
        DUE.refused("multiply of a range", () -> range(8, 1).multiply(0, 1, 1));
        FoldedProof x = shaped(1, 2, 0);
        x.weigh(0, 2, 1, 1);
        x.weigh(0, 4, 0, 12);
        x.multiply(1, 3, 4);
        DUE.yes("3 times 4 is 12", x.holds());
        x.multiply(1, 3 - Q, 4 - Q);
        DUE.yes("modulo Q", x.holds());
        x.multiply(1, -3, -4);
        DUE.yes("below 0", x.holds());
        x.multiply(1, -3, 4);
        DUE.no("-12 is not 12", x.holds());
        x.multiply(0, 3, 4);
        DUE.no("at another place", x.holds());
    }

    // Promise 6.

    private static void weigh() {
        FoldedProof x = shaped(1, 4, 2);
        int[] places = {4, 4, 4, 2, 1};
        for (int c = -1; c <= 12; c++) {
            for (int side = -1; side <= 5; side++) {
                for (int i = -1; i <= 8; i++) {
                    boolean fine = c >= 0 && c < 12 && side >= 0 && side < 5 && i >= 0 && i < places[side];
                    int cc = c;
                    int ss = side;
                    int ii = i;
                    DUE.is("weigh(" + c + ", " + side + ", " + i + ", 0) refused",
                        Due.isRefused(() -> x.weigh(cc, ss, ii, 0)) ? 1 : 0, fine ? 0 : 1);
                }
            }
        }
        DUE.refused("weigh of a range", () -> range(8, 1).weigh(0, 4, 0, 1));
        DUE.refused("weigh of a value with m 0", () -> shaped(1, 4, 0).weigh(0, 3, 0, 1));
        DUE.refused("weigh(MAX, ..)", () -> x.weigh(Integer.MAX_VALUE, 0, 0, 1));
        DUE.refused("weigh(.., MIN, ..)", () -> x.weigh(0, 0, Integer.MIN_VALUE, 1));
        FoldedProof set = circuit();
        set.weigh(0, 2, 0, 5);
        DUE.no("a weight is set", set.holds());
        set.weigh(0, 2, 0, 1 + Q);
        DUE.yes("and set again, not added, modulo Q", set.holds());
        set.weigh(0, 2, 0, 1 - Q);
        DUE.yes("below 0", set.holds());
    }

    // Promise 7.

    private static void holds() {
        DUE.no("a range", range(8, 1).holds());
        DUE.yes("a new circuit", shaped(1, 1, 0).holds());
        DUE.yes("the circuit", circuit().holds());
        for (int side = 0; side < 5; side++) {
            for (int c = 0; c < 12; c++) {
                FoldedProof x = shaped(1, 8, 4);
                x.multiply(7, 5, 6);
                x.party(3, 70, 1, 1);
                int last = side == 4 ? 0 : side == 3 ? 3 : 7;
                int[] at = {5, 6, 30, -70, -7};
                int[] by = {1, 1, 1, 1, 7};
                x.weigh(c, side, last, by[side]);
                DUE.no("side " + side + " weighs in constraint " + c, x.holds());
                if (side < 4) {
                    x.weigh(c, 4, 0, at[side]);
                    DUE.yes("and C makes good for it", x.holds());
                }
                x.weigh((c + 1) % 12, 4, 0, 1);
                DUE.no("but not in the next one", x.holds());
            }
        }
        FoldedProof x = circuit();
        x.party(0, 42 - Q, 0, 0);
        DUE.yes("values modulo Q", x.holds());
        x.party(0, 43, 0, 0);
        DUE.no("another value", x.holds());
        x.party(0, 42, 99, 98);
        DUE.yes("blind and seed don't matter", x.holds());
        x.claim(0, 1);
        DUE.yes("nor does the claim", x.holds());
    }

    // Promises 8 and 9.

    private static void claim() {
        FoldedProof x = range(4, 1, 2);
        x.prove();
        int own = x.claimed(1);
        for (int element : new int[] {1, 4, 9, 25, P - 2}) {
            boolean fine = Reference.isElement(BigInteger.valueOf(element));
            DUE.is("claim(1, " + element + ") refused", Due.isRefused(() -> x.claim(1, element)) ? 1 : 0, fine ? 0 : 1);
        }
        x.claim(1, 25);
        DUE.is("claimed(1)", x.claimed(1), 25);
        // -1 is no square modulo P, so of a number and its opposite one is an element.
        for (int wrong : new int[] {0, -1, -4, P - 1, P - 4, P, P + 1, P + 4, Integer.MAX_VALUE, Integer.MIN_VALUE}) {
            DUE.refused("claim(1, " + wrong + ")", () -> x.claim(1, wrong));
        }
        DUE.is("claimed(1), as before", x.claimed(1), 25);
        DUE.refused("claim(-1, 4)", () -> x.claim(-1, 4));
        DUE.refused("claim(2, 4)", () -> x.claim(2, 4));
        DUE.refused("claim(0, 4) with m 0", () -> shaped(1, 1, 0).claim(0, 4));
        DUE.is("verify with another claim", x.verify(), 2);
        x.claim(1, own);
        DUE.is("verify with the own one", x.verify(), 0);
        x.claim(1, 4);
        x.party(1, 2, 1001, 2001);
        DUE.is("party claims its commitment", x.claimed(1), own);
        x.claim(1, 4);
        x.prove();
        DUE.is("prove claims the commitments", x.claimed(1), own);
    }

    private static void claimed() {
        FoldedProof x = shaped(1, 1, 3);
        for (int j = 0; j < 3; j++) {
            DUE.is("claimed(" + j + ")", x.claimed(j), 1);
        }
        for (int j : new int[] {-1, 3, 4, Integer.MAX_VALUE, Integer.MIN_VALUE}) {
            DUE.is("claimed(" + j + ")", x.claimed(j), FoldedProof.NONE);
        }
        x.party(2, 3, 2, 0);
        DUE.is("claimed(2)", x.claimed(2), 64 * 81);
        DUE.is("claimed(0) with m 0", shaped(1, 8, 0).claimed(0), FoldedProof.NONE);
        FoldedProof largest = range(1, 0);
        largest.claim(0, P - 2);
        DUE.is("a claim of 31 bits", largest.claimed(0), P - 2);
    }

    // Promise 10.

    private static void spoil() {
        for (int what = 0; what < 5; what++) {
            FoldedProof x = range(4, 9, 10, 11, 12);
            DUE.is("unspoilt", x.prove(), 0);
            x.spoil(2, what, 1);
            DUE.is("spoilt " + what, x.prove(), 4);
            DUE.is("spoilt " + what + ", verify()", x.verify(), what < 2 ? 2 : 3);
            DUE.is("spoilt " + what + ", from now on", x.prove(), 4);
            x.party(2, 11, 5, 6);
            DUE.is("spoilt " + what + ", behind party", x.prove(), 4);
            x.spoil(2, what, 4);
            DUE.is("spoilt " + what + ", more", x.prove(), 4);
            x.spoil(2, what, -5);
            DUE.is("spoilt " + what + ", back", x.prove(), 0);
            x.spoil(2, what, Q);
            DUE.is("spoilt " + what + ", by Q", x.prove(), 0);
            x.spoil(2, what, Integer.MAX_VALUE);
            x.spoil(2, what, Integer.MAX_VALUE);
            DUE.is("spoilt " + what + ", by much", x.prove(), 4);
            x.spoil(2, what, Integer.MIN_VALUE);
            x.spoil(2, what, Integer.MIN_VALUE);
            x.spoil(2, what, 2);
            DUE.is("spoilt " + what + ", by much, back", x.prove(), 0);
        }
        Reference due = new Reference();
        due.shape(0, 4, 1);
        due.party(0, 9, 1000, 2000);
        FoldedProof one = range(4, 9);
        for (int what = 0; what < 5; what++) {
            one.spoil(0, what, 10 + what);
            due.spoil(0, what, 10 + what);
        }
        one.prove();
        due.prove();
        sameProof("spoilt all over", one, due);
        FoldedProof x = range(4, 9, 10);
        DUE.refused("spoil(-1, ..)", () -> x.spoil(-1, 0, 1));
        DUE.refused("spoil(2, ..)", () -> x.spoil(2, 0, 1));
        DUE.refused("spoil(0, -1, ..)", () -> x.spoil(0, -1, 1));
        DUE.refused("spoil(0, 5, ..)", () -> x.spoil(0, 5, 1));
        DUE.refused("spoil of a circuit", () -> circuit().spoil(0, 0, 1));
        DUE.is("nothing was spoilt", x.prove(), 0);
        x.spoil(0, 3, 1);
        x.shape(0, 4, 2);
        DUE.is("till shape", x.prove(), 0);
    }

    private static void spoilCancels() {
        for (int what = 0; what < 3; what++) {
            FoldedProof x = range(4, 9, 10);
            x.spoil(0, what, 7);
            x.spoil(1, what, -7);
            DUE.is("two that cancel out make a right proof: " + what, x.prove(), 0);
            DUE.is("verify()", x.verify(), 0);
            x.spoil(1, what, 1);
            DUE.is("but if it isn't right, both are to blame: " + what, x.prove(), 3);
        }
        FoldedProof x = range(2, 1, 4, 2, 3);
        x.spoil(3, 4, 1);
        DUE.is("one out of range, one spoilt", x.prove(), 2 + 8);
    }

    // Promise 11.

    private static void prove() {
        int[][] shapes = {{1, 1}, {2, 1}, {4, 1}, {8, 1}, {16, 1}, {32, 1}, {1, 2}, {16, 2}, {1, 4}, {2, 4}, {8, 4}};
        for (int[] shape : shapes) {
            FoldedProof x = shaped(0, shape[0], shape[1]);
            Reference due = new Reference();
            due.shape(0, shape[0], shape[1]);
            for (int j = 0; j < shape[1]; j++) {
                x.party(j, j & 1, 55 * j + 3, -17 * j - 1);
                due.party(j, j & 1, 55 * j + 3, -17 * j - 1);
            }
            String what = "range of " + shape[0] + ", " + shape[1];
            type(x, "text");
            due.text = "text";
            DUE.is(what + ": prove()", x.prove(), 0);
            due.prove();
            sameProof(what, x, due);
            DUE.is(what + ": the text is empty then", x.verify(), 2);
            type(x, "text");
            DUE.is(what + ": verify()", x.verify(), 0);
        }
        FoldedProof x = range(8, 200);
        x.prove();
        String first = bytes(x);
        x.cut(3);
        x.prove();
        DUE.yes("the same again", first.equals(bytes(x)));
    }

    private static void proveBlames() {
        FoldedProof x = range(4, 16, 1, -1, 15);
        DUE.is("two out of range", x.prove(), 1 + 4);
        DUE.is("its size", x.size(), 68);
        DUE.is("its verdict", x.verify(), 2);
        x.party(0, 3, 0, 0);
        x.party(2, 3, 0, 0);
        x.claim(3, 4);
        DUE.is("what was claimed doesn't matter", x.prove(), 0);
        DUE.is("all of them", range(1, 2, 3, 4, 5).prove(), 15);
    }

    private static void proveCircuit() {
        for (int n = 1; n <= 8; n *= 2) {
            for (int m = 0; m <= 4; m++) {
                FoldedProof x = shaped(1, n, m);
                Reference due = new Reference();
                due.shape(1, n, m);
                x.party(0, 1, 2, 3);
                due.party(0, 1, 2, 3);
                for (int j = 0; j < m; j++) {
                    x.party(j, 5 * j, j - 7, j);
                    due.party(j, 5 * j, j - 7, j);
                    x.weigh(j + 8, 3, j, 2 * j - 3);
                    due.weigh(j + 8, 3, j, 2 * j - 3);
                }
                for (int i = 0; i < n; i++) {
                    x.multiply(i, i + 2, -i);
                    due.multiply(i, i + 2, -i);
                    for (int side = 0; side < 3; side++) {
                        x.weigh(i + side, side, i, side + i + 1);
                        due.weigh(i + side, side, i, side + i + 1);
                    }
                }
                for (int c = 0; c < 12; c++) {
                    int by = due.excess(c).intValue();
                    x.weigh(c, 4, 0, by);
                    due.weigh(c, 4, 0, by);
                }
                String what = "circuit of " + n + ", " + m;
                DUE.yes(what + ": holds()", x.holds());
                DUE.is(what + ": prove()", x.prove(), 0);
                due.prove();
                sameProof(what, x, due);
                DUE.is(what + ": verify()", x.verify(), 0);
                x.weigh(0, 4, 0, 1234567);
                DUE.is(what + ": another constraint", x.verify(), 2);
                DUE.is(what + ": prove() though it doesn't hold", x.prove(), 0);
                DUE.is(what + ": but that isn't right", x.verify(), 2);
            }
        }
        FoldedProof x = circuit();
        x.claim(0, 4);
        x.prove();
        DUE.is("the commitments are claimed", x.verify(), 0);
    }

    // Promise 12.

    private static void verify() {
        FoldedProof x = range(8, 200, 3);
        x.prove();
        String proof = bytes(x);
        DUE.is("right", x.verify(), 0);
        DUE.is("and right again", x.verify(), 0);
        type(x, "a");
        DUE.is("another text", x.verify(), 2);
        DUE.is("it is empty then", x.verify(), 0);
        alterEach("range", x, 4);
        DUE.yes("mended", proof.equals(bytes(x)));
        DUE.is("right as before", x.verify(), 0);
        x.party(0, 201, 1000, 2000);
        DUE.is("a claim changed by party", x.verify(), 2);
        FoldedProof y = circuit();
        y.prove();
        DUE.is("circuit", y.verify(), 0);
        alterEach("circuit", y, 8);
        y.multiply(0, 1, 1);
        DUE.is("what is hidden doesn't matter to the check", y.verify(), 0);
        y.weigh(5, 0, 1, 1);
        DUE.is("the constraints do: WL is in BASE, and in d only beside a WR", y.verify(), 3);
        y.weigh(5, 4, 0, 1);
        DUE.is("C is in d", y.verify(), 2);
    }

    /** Puts another element or scalar in the place of each number in turn. */
    private static void alterEach(String what, FoldedProof x, int elements) {
        int numbers = x.size() / 4;
        for (int k = 0; k < numbers; k++) {
            long old = number(x, k);
            boolean isScalar = k >= elements && k < elements + 3 || k >= numbers - 2;
            putNumber(x, k, isScalar ? (old + 1) % Q : old * 4 % P);
            // t, tb and what makes y, z or x bears on FIRST; the rest on SECOND alone.
            DUE.is(what + ", number " + k + " altered", x.verify(), k < elements + 2 ? 2 : 3);
            putNumber(x, k, old);
        }
    }

    /** Who checks need not be who proved: the claims and the proof are enough. */
    private static void verifyCarried() {
        FoldedProof[] provers = {range(8, 200, 3), range(1, 1), range(32, 77), circuit(), shaped(1, 8, 0)};
        FoldedProof[] checkers = {shaped(0, 8, 2), shaped(0, 1, 1), shaped(0, 32, 1), circuit(), shaped(1, 8, 0)};
        checkers[3].party(0, 1, 1, 1);
        checkers[3].party(1, 1, 1, 1);
        checkers[3].multiply(0, 1, 1);
        for (int k = 0; k < provers.length; k++) {
            provers[k].party(0, provers[k].claimed(0) == -1 ? 0 : k == 3 ? 42 : 1, 31, 32);
            type(provers[k], "carried");
            provers[k].prove();
            // A proof of its own gives the checker the bytes to be overwritten, and leaves other numbers behind.
            checkers[k].prove();
            for (int b = 0; b < provers[k].size(); b++) {
                checkers[k].change(b, provers[k].byteAt(b));
            }
            for (int j = 0; provers[k].claimed(j) != -1; j++) {
                checkers[k].claim(j, provers[k].claimed(j));
            }
            type(checkers[k], "carried");
            DUE.is("carried over, " + k, checkers[k].verify(), 0);
            DUE.is("without the text, " + k, checkers[k].verify(), 2);
        }
    }

    private static void verifyMalformed() {
        FoldedProof x = range(4, 5);
        type(x, "a");
        DUE.is("no proof", x.verify(), 1);
        x.prove();
        DUE.is("the text was empty behind it", x.verify(), 0);
        int numbers = x.size() / 4;
        for (int k = 0; k < numbers; k++) {
            long old = number(x, k);
            boolean isScalar = k >= 4 && k < 7 || k >= 11;
            long[] wrong = isScalar ? new long[] {Q, Q + 1, P, 0xffffffffL}
                : new long[] {0, P - old, P, P + old, P + 1L, 0xffffffffL};
            for (long number : wrong) {
                putNumber(x, k, number);
                DUE.is("number " + k + " is " + number, x.verify(), 1);
                DUE.is("no challenges", x.challenge(0), -1);
            }
            if (isScalar) {
                putNumber(x, k, Q - 1);
                DUE.yes("Q - 1 is a scalar", x.verify() > 1);
                putNumber(x, k, 0);
                DUE.yes("0 is a scalar", x.verify() > 1);
            } else {
                putNumber(x, k, 1);
                DUE.yes("1 is an element", x.verify() > 1);
            }
            putNumber(x, k, old);
        }
        DUE.is("right as before", x.verify(), 0);
        for (int n = x.size() - 1; n >= 0; n--) {
            x.cut(n);
            DUE.is("cut to " + n, x.verify(), 1);
        }
    }

    // Promises 13 to 16.

    private static void sizes() {
        for (int n = 1; n <= 32; n *= 2) {
            for (int m = 1; m <= 4 && n * m <= 32; m *= 2) {
                FoldedProof x = shaped(0, n, m);
                x.prove();
                DUE.is("size", x.size(), 36 + 8 * Integer.numberOfTrailingZeros(n * m));
            }
        }
        for (int n = 1; n <= 8; n *= 2) {
            FoldedProof x = shaped(1, n, 3);
            DUE.is("size without a proof", x.size(), 0);
            x.prove();
            DUE.is("size", x.size(), 52 + 8 * Integer.numberOfTrailingZeros(n));
            x.verify();
            DUE.is("size behind verify", x.size(), 52 + 8 * Integer.numberOfTrailingZeros(n));
        }
    }

    private static void byteAt() {
        FoldedProof x = range(8, 200);
        DUE.is("byteAt(0) without a proof", x.byteAt(0), -1);
        x.prove();
        int high = 0;
        for (int k = 0; k < 60; k++) {
            DUE.yes("byteAt(" + k + ")", x.byteAt(k) >= 0 && x.byteAt(k) <= 255);
            high += x.byteAt(k) > 127 ? 1 : 0;
        }
        DUE.yes("some bytes are above 127", high > 0);
        for (int k : new int[] {-1, 60, 61, 76, Integer.MAX_VALUE, Integer.MIN_VALUE}) {
            DUE.is("byteAt(" + k + ")", x.byteAt(k), -1);
        }
    }

    private static void change() {
        FoldedProof x = range(8, 200);
        DUE.no("change(0, 1) without a proof", x.change(0, 1));
        x.prove();
        int next = x.byteAt(1);
        int[][] asked = {{0, 0}, {7, 7}, {255, 255}, {256, 0}, {-1, 255}, {-256, 0}, {0x12345681, 0x81}};
        for (int[] pair : asked) {
            DUE.yes("change(0, " + pair[0] + ")", x.change(0, pair[0]));
            DUE.is("byteAt(0)", x.byteAt(0), pair[1]);
        }
        DUE.is("byteAt(1)", x.byteAt(1), next);
        DUE.yes("change(59, 9)", x.change(59, 9));
        DUE.is("byteAt(59)", x.byteAt(59), 9);
        for (int k : new int[] {-1, 60, 75, 76, Integer.MAX_VALUE, Integer.MIN_VALUE}) {
            DUE.no("change(" + k + ", 1)", x.change(k, 1));
        }
        DUE.is("size()", x.size(), 60);
    }

    private static void cut() {
        FoldedProof x = range(8, 200);
        DUE.no("cut(1) without a proof", x.cut(1));
        DUE.no("cut(-1) without a proof", x.cut(-1));
        x.prove();
        DUE.no("cut(61)", x.cut(61));
        DUE.no("cut(MAX)", x.cut(Integer.MAX_VALUE));
        DUE.no("cut(-1)", x.cut(-1));
        DUE.no("cut(MIN)", x.cut(Integer.MIN_VALUE));
        DUE.yes("cut(60)", x.cut(60));
        DUE.is("it is right still", x.verify(), 0);
        int kept = x.byteAt(9);
        DUE.yes("cut(10)", x.cut(10));
        DUE.is("size()", x.size(), 10);
        DUE.is("byteAt(9)", x.byteAt(9), kept);
        DUE.is("byteAt(10)", x.byteAt(10), -1);
        DUE.no("change(10, 0)", x.change(10, 0));
        DUE.no("cut(11)", x.cut(11));
        DUE.yes("cut(0)", x.cut(0));
        DUE.is("size()", x.size(), 0);
        DUE.yes("cut(0) again", x.cut(0));
        x.prove();
        DUE.is("made anew", x.size(), 60);
    }

    // Promise 17.

    private static void challenge() {
        FoldedProof x = range(8, 200);
        x.prove();
        Reference due = new Reference();
        due.shape(0, 8, 1);
        due.party(0, 200, 1000, 2000);
        due.prove();
        int[] first = new int[7];
        for (int k = 0; k < 7; k++) {
            first[k] = x.challenge(k);
            DUE.is("challenge(" + k + ")", first[k], due.challenge(k));
        }
        for (int k : new int[] {-1, 7, 8, 9, Integer.MAX_VALUE, Integer.MIN_VALUE}) {
            DUE.is("challenge(" + k + ")", x.challenge(k), -1);
        }
        type(x, "other");
        x.verify();
        due.text = "other";
        due.verify();
        for (int k = 0; k < 7; k++) {
            DUE.is("of the latest verify, " + k, x.challenge(k), due.challenge(k));
            DUE.no("another text makes other challenges", x.challenge(k) == first[k]);
        }
        x.verify();
        DUE.is("the first text makes the first ones", x.challenge(6), first[6]);
        x.party(0, 1, 1, 1);
        DUE.is("party leaves them", x.challenge(6), first[6]);
        x.cut(59);
        DUE.is("cut leaves them", x.challenge(6), first[6]);
        x.verify();
        DUE.is("none behind a malformed proof", x.challenge(0), -1);
        x.prove();
        DUE.yes("prove makes some", x.challenge(0) >= 0);
        x.shape(0, 8, 1);
        DUE.is("none behind shape", x.challenge(0), -1);
        FoldedProof one = shaped(1, 1, 0);
        one.prove();
        DUE.yes("w", one.challenge(3) >= 0);
        DUE.is("no u if nothing is folded", one.challenge(4), -1);
        FoldedProof most = shaped(0, 8, 4);
        most.prove();
        DUE.yes("five foldings", most.challenge(8) >= 0);
        DUE.is("no more", most.challenge(9), -1);
    }
}

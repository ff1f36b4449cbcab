/** Each sentence of the document's Terms that names a boundary case. */
public final class TermsTest {
    private static final int Q = Given.Q;
    private static final int[][] RANGES = {{1, 1}, {2, 1}, {4, 1}, {8, 1}, {16, 1}, {32, 1}, {1, 2}, {2, 2}, {4, 2},
        {8, 2}, {16, 2}, {1, 4}, {2, 4}, {4, 4}, {8, 4}};
    private static final Due DUE = new Due();

    private TermsTest() {
    }

    public static void main(String[] args) {
        transcriptTurnsAtEveryPlace();
        randomNumbersGoRoundQ();
        rangesOfEveryLength();
        circuitsWithEveryConstraint();
        rowsOfOneAreNotFolded();
        inverseOfZero();
        DUE.end();
    }

    /** The program and the reference make the same proof, with the same challenges and the same verdict. */
    private static void sameAll(String what, FoldedProof x, Reference due) {
        DUE.is(what + ": prove()", x.prove(), due.prove());
        DUE.yes(what + ": the proof", Given.sameProof(x, due));
        DUE.is(what + ": verify()", x.verify(), due.verify());
        for (int k = 0; k < 9; k++) {
            DUE.is(what + ": challenge(" + k + ")", x.challenge(k), due.challenge(k));
        }
    }

    private static void transcriptTurnsAtEveryPlace() {
        DUE.sentence("\"AT is one more; if that is 166, TURN\"");
        int[][] shapes = {{0, 1, 1}, {0, 1, 2}, {0, 2, 4}, {1, 1, 0}, {1, 1, 1}, {1, 2, 2}, {1, 4, 3}, {1, 1, 4}};
        for (int[] shape : shapes) {
            // Each character more moves all that comes behind it by one place.
            for (int length = 0; length <= 40; length++) {
                FoldedProof x = Given.shaped(shape[0], shape[1], shape[2]);
                Reference due = new Reference(shape[0], shape[1], shape[2]);
                String text = "~".repeat(length);
                DUE.is("a text of " + length, Given.type(x, text), length);
                due.text = text;
                sameAll("a text of " + length, x, due);
            }
        }
    }

    private static void randomNumbersGoRoundQ() {
        DUE.sentence("\"r(0) is its seed modulo Q, r(k + 1) is 48271 r(k) + 11\"");
        for (int seed : new int[] {0, 1, Q - 1, Q, Q + 1, 2 * Q, -1, -Q, Given.MAX, Given.MIN}) {
            for (int kind = 0; kind <= 1; kind++) {
                FoldedProof x = Given.shaped(kind, 4, 1);
                Reference due = new Reference(kind, 4, 1);
                x.party(0, 5, 6, seed);
                due.party(0, 5, 6, seed);
                sameAll("seed " + seed, x, due);
            }
        }
    }

    private static void rangesOfEveryLength() {
        DUE.sentence("\"each of m parties (1, 2, 4) has a value of n bits (1, 2, 4, 8, 16, 32)\"");
        for (int[] shape : RANGES) {
            for (int value : new int[] {0, 1, -1, Given.MAX, Given.MIN}) {
                FoldedProof x = Given.shaped(0, shape[0], shape[1]);
                Reference due = new Reference(0, shape[0], shape[1]);
                for (int j = 0; j < shape[1]; j++) {
                    x.party(j, value, -1, -1 - j);
                    due.party(j, value, -1, -1 - j);
                }
                sameAll(shape[0] + " bits of " + shape[1] + " times " + value, x, due);
            }
        }
    }

    private static void circuitsWithEveryConstraint() {
        DUE.sentence("\"N multiplications (1, 2, 4, 8)\", \"m values (0 .. 4); 12 CONSTRAINTS\"");
        for (int n = 1; n <= 8; n *= 2) {
            for (int m = 0; m <= 4; m++) {
                FoldedProof x = Given.shaped(1, n, m);
                Reference due = new Reference(1, n, m);
                for (int i = 0; i < n; i++) {
                    x.multiply(i, -1 - i, Q - 1);
                    due.multiply(i, -1 - i, Q - 1);
                }
                for (int c = 0; c < 12; c++) {
                    for (int side = 0; side < 5; side++) {
                        for (int i = 0; i < (side == 4 ? 1 : side == 3 ? m : n); i++) {
                            x.weigh(c, side, i, Q - 1 - c * i - side);
                            due.weigh(c, side, i, Q - 1 - c * i - side);
                        }
                    }
                }
                DUE.yes("holds()", x.holds() == due.holds());
                sameAll(n + " multiplications, " + m + " values, all wrong", x, due);
                for (int c = 0; c < 12; c++) {
                    int by = due.weights[4][c][0].add(due.excess(c)).mod(Reference.Q).intValue();
                    x.weigh(c, 4, 0, by);
                    due.weigh(c, 4, 0, by);
                }
                DUE.yes("mended, holds()", x.holds());
                sameAll(n + " multiplications, " + m + " values", x, due);
                DUE.is("right", x.verify(), 0);
            }
        }
    }

    private static void rowsOfOneAreNotFolded() {
        DUE.sentence("\"FOLDING .. while they are longer than one\"");
        FoldedProof range = Given.proved(Given.range(1, 1));
        DUE.is("a range of one place, size()", range.size(), 36);
        DUE.is("a range of one place, challenge(4)", range.challenge(4), FoldedProof.NONE);
        DUE.is("a range of one place, verify()", range.verify(), 0);
        // Without a folding a and b are l and r themselves, and t is their product.
        DUE.is("a b", Given.number(range, 7) * Given.number(range, 8) % Q, Given.number(range, 4));
        FoldedProof circuit = Given.proved(Given.shaped(1, 1, 0));
        DUE.is("a circuit of one place, size()", circuit.size(), 52);
        DUE.is("a circuit of one place, challenge(4)", circuit.challenge(4), FoldedProof.NONE);
        DUE.is("a circuit of one place, verify()", circuit.verify(), 0);
        DUE.is("a b", Given.number(circuit, 11) * Given.number(circuit, 12) % Q, Given.number(circuit, 8));
    }

    /**
     * The numbers of these proofs were searched for, until a challenge was 0, and their last ones worked out by
     * logarithms: they are right, and would not be with another inverse of 0.
     */
    private static void inverseOfZero() {
        DUE.sentence("\"the inverse of 0 counts as 0\"");
        isRight("a range whose y is 0", 0, Given.shaped(0, 2, 1), new Reference(0, 2, 1),
            4, 2103444263, 4, 4, 4, 790440512, 6, 4, 4, 5, 818608670);
        FoldedProof circuit = Given.shaped(1, 2, 0);
        Reference due = new Reference(1, 2, 0);
        int[][] weights = {{0, 0, 0, 3}, {1, 0, 1, 5}, {2, 1, 0, 7}, {3, 1, 1, 9}, {4, 2, 0, 11}, {5, 2, 1, 13},
            {11, 4, 0, 17}};
        for (int[] weight : weights) {
            circuit.weigh(weight[0], weight[1], weight[2], weight[3]);
            due.weigh(weight[0], weight[1], weight[2], weight[3]);
        }
        isRight("a circuit whose y is 0", 0, circuit, due,
            1, 1, 1712691122, 4, 4, 4, 4, 4, 8, 1051179908, 10, 4, 4, 5, 257532309);
        FoldedProof range = Given.range(2, 3);
        due = new Reference(0, 2, 1);
        due.party(0, 3, 1000, 2000);
        isRight("a folding whose u is 0", 4, range, due, 1929846083, 1467950448, 1371586102, 989707598, 115264267,
            724213005, 863762635, 9, 1864656413, 5, 505036794);
        Given.type(range, "mwyrgyh");
        due.text = "mwyrgyh";
        DUE.is("a proof whose y is 0: prove()", range.prove(), due.prove());
        DUE.is("a proof whose y is 0: challenge(0)", range.challenge(0), 0);
        DUE.yes("a proof whose y is 0", Given.sameProof(range, due));
    }

    /** Puts the numbers in the place of a proof's: the challenge is 0, and the proof right. */
    private static void isRight(String what, int challenge, FoldedProof x, Reference due, long... numbers) {
        x.prove();
        due.prove();
        DUE.is(what + ": its numbers", x.size(), 4 * numbers.length);
        for (int k = 0; k < numbers.length; k++) {
            Given.putNumber(x, k, numbers[k]);
            for (int b = 0; b < 4; b++) {
                due.change(4 * k + b, (int) (numbers[k] >> 8 * b));
            }
        }
        DUE.is(what + ": verify()", x.verify(), 0);
        DUE.is(what + ": the reference's verify()", due.verify(), 0);
        DUE.is(what + ": challenge(" + challenge + ")", x.challenge(challenge), 0);
        int last = numbers.length - 1;
        Given.putNumber(x, last, numbers[last] + 1);
        DUE.is(what + ": verify() of another last number", x.verify(), 3);
    }
}

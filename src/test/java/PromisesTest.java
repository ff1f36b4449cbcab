/** What each promise says of ordinary calls, and how the calls play together; BoundariesTest has the edges. */
public final class PromisesTest {
    private static final int P = Given.P;
    private static final int Q = Given.Q;
    private static final Due DUE = new Due();

    private PromisesTest() {
    }

    public static void main(String[] args) {
        newObject();
        type();
        shape();
        party();
        multiply();
        weigh();
        holds();
        claim();
        spoil();
        prove();
        proveCircuit();
        verify();
        verifyCarried();
        sizes();
        bytes();
        challenge();
        DUE.end();
    }

    private static void type(FoldedProof x, String text) {
        DUE.is("characters of " + text + " that are taken", Given.type(x, text), text.length());
    }

    private static void sameProof(String what, FoldedProof x, Reference due) {
        DUE.yes(what, Given.sameProof(x, due));
    }

    private static void newObject() {
        DUE.sentence("Promise 1");
        FoldedProof x = new FoldedProof();
        Reference due = new Reference();
        DUE.is("prove()", x.prove(), due.prove());
        sameProof("the proof", x, due);
        DUE.is("verify()", x.verify(), 0);
    }

    private static void type() {
        DUE.sentence("Promise 2");
        FoldedProof x = Given.range(4, 3);
        Reference due = new Reference(0, 4, 1);
        due.party(0, 3, 1000, 2000);
        type(x, "Two words");
        due.text = "Two words";
        x.prove();
        due.prove();
        sameProof("the text is in the proof", x, due);
        type(x, "Two ");
        type(x, "words");
        DUE.is("the same text in two parts", x.verify(), 0);
        type(x, "Two word");
        DUE.is("a text that is too short", x.verify(), 2);
    }

    private static void shape() {
        DUE.sentence("Promise 3");
        FoldedProof x = Given.proved(Given.range(4, 3, 5));
        x.shape(1, 2, 2);
        DUE.yes("holds()", x.holds());
        DUE.is("size()", x.size(), 0);
        DUE.is("claimed(0)", x.claimed(0), 1);
        DUE.is("challenge(0)", x.challenge(0), -1);
        x.prove();
        Reference due = new Reference(1, 2, 2);
        due.prove();
        sameProof("a circuit that was a range", x, due);
    }

    private static void party() {
        DUE.sentence("Promise 4");
        FoldedProof x = Given.shaped(0, 8, 2);
        x.party(1, 1, 0, 0);
        DUE.is("B", x.claimed(1), 4);
        x.party(1, 0, 1, 0);
        DUE.is("H", x.claimed(1), 9);
        x.party(1, 2, 1, 77);
        DUE.is("B squared, H", x.claimed(1), 144);
        DUE.is("the other party", x.claimed(0), 1);
        FoldedProof seeded = Given.proved(Given.range(2, 1));
        String first = Given.bytes(seeded);
        seeded.party(0, 1, 1000, 2001);
        DUE.yes("a proof stays as it was made", first.equals(Given.bytes(seeded)));
        seeded.prove();
        DUE.no("another seed makes another proof", first.equals(Given.bytes(seeded)));
        DUE.is("but a right one", seeded.verify(), 0);
    }

    private static void multiply() {
        DUE.sentence("Promise 5");
        FoldedProof x = Given.shaped(1, 2, 0);
        x.weigh(0, 2, 1, 1);
        x.weigh(0, 4, 0, 12);
        x.multiply(1, 3, 4);
        DUE.yes("3 times 4 is 12", x.holds());
        x.multiply(1, -3, -4);
        DUE.yes("-3 times -4 is 12", x.holds());
        x.multiply(1, -3, 4);
        DUE.no("-3 times 4 is 12", x.holds());
        x.multiply(0, 3, 4);
        DUE.no("at another place", x.holds());
    }

    private static void weigh() {
        DUE.sentence("Promise 6");
        FoldedProof x = Given.circuit();
        x.weigh(0, 2, 0, 5);
        DUE.no("a weight is set", x.holds());
        x.weigh(0, 2, 0, 1);
        DUE.yes("and set again, not added", x.holds());
        x.weigh(0, 2, 0, 2);
        x.weigh(0, 3, 0, 2);
        DUE.yes("twice on both sides", x.holds());
    }

    private static void holds() {
        DUE.sentence("Promise 7");
        for (int side = 0; side < 5; side++) {
            for (int c = 0; c < 12; c++) {
                FoldedProof x = Given.shaped(1, 8, 4);
                x.multiply(7, 5, 6);
                x.party(3, 70, 1, 1);
                int last = side == 4 ? 0 : side == 3 ? 3 : 7;
                int[] at = {5, 6, 30, -70};
                x.weigh(c, side, last, 1);
                DUE.no("side " + side + " weighs in constraint " + c, x.holds());
                if (side < 4) {
                    x.weigh(c, 4, 0, at[side]);
                    DUE.yes("and C makes good for it", x.holds());
                }
                x.weigh((c + 1) % 12, 4, 0, 1);
                DUE.no("but not in the next one", x.holds());
            }
        }
        FoldedProof x = Given.circuit();
        x.party(0, 43, 0, 0);
        DUE.no("another value", x.holds());
        x.party(0, 42, 99, 98);
        DUE.yes("blind and seed don't matter", x.holds());
        x.claim(0, 1);
        DUE.yes("nor does the claim", x.holds());
    }

    private static void claim() {
        DUE.sentence("Promises 8 and 9");
        FoldedProof x = Given.proved(Given.range(4, 1, 2));
        int own = x.claimed(1);
        x.claim(1, 25);
        DUE.is("claimed(1)", x.claimed(1), 25);
        DUE.is("verify() with another claim", x.verify(), 2);
        x.claim(1, own);
        DUE.is("verify() with the own one", x.verify(), 0);
        x.claim(1, 4);
        x.party(1, 2, 1001, 2001);
        DUE.is("party() claims its commitment", x.claimed(1), own);
        x.claim(1, 4);
        x.prove();
        DUE.is("prove() claims the commitments", x.claimed(1), own);
    }

    private static void spoil() {
        DUE.sentence("Promise 10");
        Reference due = new Reference(0, 4, 1);
        due.party(0, 9, 1000, 2000);
        FoldedProof one = Given.range(4, 9);
        for (int what = 0; what < 5; what++) {
            one.spoil(0, what, 10 + what);
            due.spoil(0, what, 10 + what);
        }
        one.prove();
        due.prove();
        sameProof("spoilt all over", one, due);
        FoldedProof x = Given.range(2, 1, 4, 2, 3);
        x.spoil(3, 4, 1);
        DUE.is("one out of range, one spoilt", x.prove(), 2 + 8);
    }

    private static void prove() {
        DUE.sentence("Promise 11");
        for (int n = 1; n <= 32; n *= 2) {
            for (int m = 1; m <= 4 && n * m <= 32; m *= 2) {
                FoldedProof x = Given.shaped(0, n, m);
                Reference due = new Reference(0, n, m);
                for (int j = 0; j < m; j++) {
                    x.party(j, j & 1, 55 * j + 3, -17 * j - 1);
                    due.party(j, j & 1, 55 * j + 3, -17 * j - 1);
                }
                String what = "range of " + n + ", " + m;
                type(x, "text");
                due.text = "text";
                DUE.is(what + ": prove()", x.prove(), 0);
                due.prove();
                sameProof(what, x, due);
                DUE.is(what + ": the text is empty then", x.verify(), 2);
                type(x, "text");
                DUE.is(what + ": verify()", x.verify(), 0);
            }
        }
        FoldedProof x = Given.proved(Given.range(8, 200));
        String first = Given.bytes(x);
        x.cut(3);
        x.prove();
        DUE.yes("the same again", first.equals(Given.bytes(x)));
        x.party(0, 256, 0, 0);
        DUE.is("out of range", x.prove(), 1);
        DUE.is("its size", x.size(), 60);
        DUE.is("its verdict", x.verify(), 2);
    }

    private static void proveCircuit() {
        for (int n = 1; n <= 8; n *= 2) {
            for (int m = 0; m <= 4; m++) {
                FoldedProof x = Given.shaped(1, n, m);
                Reference due = new Reference(1, n, m);
                x.party(0, 1, 2, 3);
                due.party(0, 1, 2, 3);
                for (int j = 0; j < m; j++) {
                    x.party(j, 5 * j, j - 7, j);
                    due.party(j, 5 * j, j - 7, j);
                    x.weigh(j + 8, 3, j, 2 * j - 3);
                    due.weigh(j + 8, 3, j, 2 * j - 3);
                }
                for (int i = 0; i < n; i++) {
                    x.multiply(i, i + 2, -i);
                    due.multiply(i, i + 2, -i);
                    for (int side = 0; side < 3; side++) {
                        x.weigh(i + side, side, i, side + i + 1);
                        due.weigh(i + side, side, i, side + i + 1);
                    }
                }
                for (int c = 0; c < 12; c++) {
                    int by = due.excess(c).intValue();
                    x.weigh(c, 4, 0, by);
                    due.weigh(c, 4, 0, by);
                }
                String what = "circuit of " + n + ", " + m;
                DUE.yes(what + ": holds()", x.holds());
                DUE.is(what + ": prove()", x.prove(), 0);
                due.prove();
                sameProof(what, x, due);
                DUE.is(what + ": verify()", x.verify(), 0);
                x.weigh(0, 4, 0, 1234567);
                DUE.is(what + ": another constraint", x.verify(), 2);
                DUE.is(what + ": prove() though it doesn't hold", x.prove(), 0);
                DUE.is(what + ": but that isn't right", x.verify(), 2);
            }
        }
    }

    private static void verify() {
        DUE.sentence("Promise 12");
        FoldedProof x = Given.proved(Given.range(8, 200, 3));
        String proof = Given.bytes(x);
        DUE.is("right", x.verify(), 0);
        DUE.is("and right again", x.verify(), 0);
        type(x, "a");
        DUE.is("another text", x.verify(), 2);
        DUE.is("it is empty then", x.verify(), 0);
        alterEach("range", x, 4);
        DUE.yes("mended", proof.equals(Given.bytes(x)));
        DUE.is("right as before", x.verify(), 0);
        x.party(0, 201, 1000, 2000);
        DUE.is("a claim changed by party", x.verify(), 2);
        FoldedProof y = Given.proved(Given.circuit());
        DUE.is("circuit", y.verify(), 0);
        alterEach("circuit", y, 8);
        y.multiply(0, 1, 1);
        DUE.is("what is hidden doesn't matter to the check", y.verify(), 0);
        y.weigh(5, 0, 1, 1);
        DUE.is("the constraints do: WL is in BASE, and in d only beside a WR", y.verify(), 3);
        y.weigh(5, 4, 0, 1);
        DUE.is("C is in d", y.verify(), 2);
    }

    /** Puts another element or scalar in the place of each number in turn. */
    private static void alterEach(String what, FoldedProof x, int elements) {
        int numbers = x.size() / 4;
        for (int k = 0; k < numbers; k++) {
            long old = Given.number(x, k);
            boolean isScalar = k >= elements && k < elements + 3 || k >= numbers - 2;
            Given.putNumber(x, k, isScalar ? (old + 1) % Q : old * 4 % P);
            // t, tb and what makes y, z or x bears on FIRST; the rest on SECOND alone.
            DUE.is(what + ", number " + k + " altered", x.verify(), k < elements + 2 ? 2 : 3);
            Given.putNumber(x, k, old);
        }
    }

    /** Who checks need not be who proved: the claims and the proof are enough. */
    private static void verifyCarried() {
        FoldedProof[] provers = {Given.range(8, 200, 3), Given.range(1, 1), Given.range(32, 77), Given.circuit(),
            Given.shaped(1, 8, 0)};
        FoldedProof[] checkers = {Given.shaped(0, 8, 2), Given.shaped(0, 1, 1), Given.shaped(0, 32, 1),
            Given.circuit(), Given.shaped(1, 8, 0)};
        checkers[3].party(0, 1, 1, 1);
        checkers[3].party(1, 1, 1, 1);
        checkers[3].multiply(0, 1, 1);
        for (int k = 0; k < provers.length; k++) {
            provers[k].party(0, provers[k].claimed(0) == -1 ? 0 : k == 3 ? 42 : 1, 31, 32);
            type(provers[k], "carried");
            provers[k].prove();
            // A proof of its own gives the checker the bytes to be overwritten, and leaves other numbers behind.
            checkers[k].prove();
            for (int b = 0; b < provers[k].size(); b++) {
                checkers[k].change(b, provers[k].byteAt(b));
            }
            for (int j = 0; provers[k].claimed(j) != -1; j++) {
                checkers[k].claim(j, provers[k].claimed(j));
            }
            type(checkers[k], "carried");
            DUE.is("carried over, " + k, checkers[k].verify(), 0);
            DUE.is("without the text, " + k, checkers[k].verify(), 2);
        }
    }

    private static void sizes() {
        DUE.sentence("Promise 13");
        for (int n = 1; n <= 32; n *= 2) {
            for (int m = 1; m <= 4 && n * m <= 32; m *= 2) {
                FoldedProof x = Given.proved(Given.shaped(0, n, m));
                DUE.is("size()", x.size(), 36 + 8 * Integer.numberOfTrailingZeros(n * m));
            }
        }
        for (int n = 1; n <= 8; n *= 2) {
            FoldedProof x = Given.proved(Given.shaped(1, n, 3));
            DUE.is("size()", x.size(), 52 + 8 * Integer.numberOfTrailingZeros(n));
            x.verify();
            DUE.is("size() behind verify()", x.size(), 52 + 8 * Integer.numberOfTrailingZeros(n));
        }
    }

    private static void bytes() {
        DUE.sentence("Promises 14 to 16");
        FoldedProof x = Given.proved(Given.range(8, 200));
        String first = Given.bytes(x);
        int high = 0;
        for (int k = 0; k < 60; k++) {
            DUE.yes("byteAt(" + k + ")", x.byteAt(k) >= 0 && x.byteAt(k) <= 255);
            high += x.byteAt(k) > 127 ? 1 : 0;
            int old = x.byteAt(k);
            DUE.yes("change(" + k + ", 7)", x.change(k, 7));
            DUE.is("byteAt(" + k + ") changed", x.byteAt(k), 7);
            x.change(k, old);
        }
        DUE.yes("some bytes are above 127", high > 0);
        DUE.yes("changed back", first.equals(Given.bytes(x)));
        DUE.yes("cut(10)", x.cut(10));
        DUE.is("size()", x.size(), 10);
        DUE.yes("the first ones", first.startsWith(Given.bytes(x)));
        x.prove();
        DUE.yes("made anew", first.equals(Given.bytes(x)));
    }

    private static void challenge() {
        DUE.sentence("Promise 17");
        FoldedProof x = Given.proved(Given.range(8, 200));
        Reference due = new Reference(0, 8, 1);
        due.party(0, 200, 1000, 2000);
        due.prove();
        int[] first = new int[7];
        for (int k = 0; k < 7; k++) {
            first[k] = x.challenge(k);
            DUE.is("challenge(" + k + ")", first[k], due.challenge(k));
        }
        type(x, "other");
        x.verify();
        due.text = "other";
        due.verify();
        for (int k = 0; k < 7; k++) {
            DUE.is("of the latest verify(), " + k, x.challenge(k), due.challenge(k));
            DUE.no("another text makes other challenges", x.challenge(k) == first[k]);
        }
        x.verify();
        DUE.is("the first text makes the first ones", x.challenge(6), first[6]);
    }
}

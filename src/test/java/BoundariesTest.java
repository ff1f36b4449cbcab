import java.util.function.Consumer;
import java.util.function.ObjIntConsumer;
import java.util.function.Supplier;

/** Each sentence of a promise that names a boundary case: too small, too large, empty, full, wrapped, refused. */
public final class BoundariesTest {
    private static final int P = Given.P;
    private static final int Q = Given.Q;
    private static final int MAX = Given.MAX;
    private static final int MIN = Given.MIN;
    private static final int NONE = FoldedProof.NONE;

    /** Pairs of numbers that are the same modulo Q. */
    private static final int[][] SAME = {{Q, 0}, {Q + 1, 1}, {2 * Q - 1, Q - 1}, {2 * Q, 0}, {MAX, 69},
        {-1, Q - 1}, {1 - Q, 1}, {-Q, 0}, {-Q - 1, Q - 1}, {-2 * Q, 0}, {MIN, Q - 70}};
    private static final int[] NOT_THERE = {-1, MIN, MAX};
    private static final String FORTY = "0123456789012345678901234567890123456789";
    /** B is this power of H. */
    private static final long LOG_OF_B = 877158035;

    private static final Due DUE = new Due();

    private BoundariesTest() {
    }

    public static void main(String[] args) {
        newObjectIsOfKind0();
        newObjectIsAllZero();
        newObjectHasNothingMade();
        typeTakes32To126();
        typeRefusesWhatIsNone();
        typeRefusesBehind40();
        shapeTakesWhatIsTold();
        shapeRefusesKinds();
        shapeRefusesMoreThan32Places();
        shapeLeavesTheTextAlone();
        partyIsModuloQ();
        partyKeepsBitsAsGiven();
        partyClaims();
        partyIsRefused();
        partyZeroIsThereWithoutValues();
        multiplyIsModuloQ();
        multiplyIsRefused();
        weighSetsModuloQ();
        weighIsRefused();
        holdsForAllConstraints();
        holdsForCircuitsAlone();
        claimTakesElements();
        claimIsRefused();
        claimedIsNone();
        spoilAddsUp();
        spoilLastsTillShape();
        spoilIsOfTheFirstPlace();
        spoilIsRefused();
        proveClaimsAndEmptiesTheText();
        proveBlames();
        proveBlamesForOneReason();
        proveBlamesNobodyForARightProof();
        proveBlamesNobodyInACircuit();
        verifyEmptiesTheText();
        verifyIsMalformedWithoutAProof();
        verifyIsMalformedByItsLength();
        verifyIsMalformedByANumber();
        verifyTellsFirstFirst();
        sizeIsZeroWithoutAProof();
        byteAtIsNone();
        changeKeepsTheLowest8Bits();
        changeIsFalse();
        cutKeepsTheFirst();
        cutIsFalse();
        challengeIsOfTheLatest();
        challengeIsNoneOutside();
        challengeIsNoneBehindMalformedOrShape();
        anObjectLastsFor512Calls();
        DUE.end();
    }

    // What the tests begin with.

    /** A range of which everything is told: values, a spoilt share, a proof, a claim, a text. */
    private static FoldedProof toldRange() {
        FoldedProof x = Given.range(4, 3, 5);
        x.spoil(1, 3, 7);
        x.prove();
        x.claim(0, 25);
        Given.type(x, "kept");
        return x;
    }

    private static FoldedProof toldCircuit() {
        FoldedProof x = Given.circuit();
        x.weigh(3, 1, 1, 5);
        x.prove();
        x.claim(1, 25);
        Given.type(x, "kept");
        return x;
    }

    /** The call is refused, and nothing changes by it, now or later. */
    private static void refused(String call, Supplier<FoldedProof> made, Consumer<FoldedProof> refused) {
        FoldedProof x = made.get();
        DUE.refused(call, () -> refused.accept(x));
        DUE.yes(call + " changes nothing", Given.seenFromNowOn(x).equals(Given.seenFromNowOn(made.get())));
    }

    /** The calls answer false or NONE, and nothing changes by them. */
    private static void changesNothing(String calls, Supplier<FoldedProof> made, Consumer<FoldedProof> called) {
        DUE.yes(calls + ": nothing changes", Given.leavesAll(made, called));
    }

    /** Numbers that are the same modulo Q do the same, others don't. */
    private static void isModuloQ(String what, Supplier<FoldedProof> made, ObjIntConsumer<FoldedProof> set) {
        for (int[] pair : SAME) {
            DUE.yes(what + ", " + pair[0] + " is " + pair[1], after(made, set, pair[0]).equals(after(made, set, pair[1])));
        }
        DUE.no(what + ", 1 is 2", after(made, set, 1).equals(after(made, set, 2)));
        DUE.no(what + ", -1 is 1", after(made, set, -1).equals(after(made, set, 1)));
    }

    private static String after(Supplier<FoldedProof> made, ObjIntConsumer<FoldedProof> set, int number) {
        FoldedProof x = made.get();
        set.accept(x, number);
        return Given.seenFromNowOn(x);
    }

    // Promise 1: A new object.

    private static void newObjectIsOfKind0() {
        DUE.sentence("1, \"Kind 0, n 1, m 1\"");
        FoldedProof x = new FoldedProof();
        DUE.no("holds()", x.holds());
        DUE.refused("multiply(0, 0, 0)", () -> x.multiply(0, 0, 0));
        DUE.refused("weigh(0, 4, 0, 0)", () -> x.weigh(0, 4, 0, 0));
        DUE.taken("spoil(0, 4, 0)", () -> x.spoil(0, 4, 0));
        DUE.refused("party(1, 0, 0, 0)", () -> x.party(1, 0, 0, 0));
        DUE.is("claimed(1)", x.claimed(1), NONE);
        DUE.taken("party(0, 1, 0, 0)", () -> x.party(0, 1, 0, 0));
        DUE.is("prove() of one bit", x.prove(), 0);
        DUE.is("size()", x.size(), 36);
        x.party(0, 2, 0, 0);
        DUE.is("prove() of two bits", x.prove(), 1);
    }

    private static void newObjectIsAllZero() {
        DUE.sentence("1, \"all values, blinds, seeds, numbers of the circuit 0, claims 1\"");
        FoldedProof told = new FoldedProof();
        told.party(0, 0, 0, 0);
        DUE.is("claimed(0)", new FoldedProof().claimed(0), 1);
        DUE.is("prove()", Given.proved(new FoldedProof()).verify(), 0);
        DUE.yes("as if told", Given.seenFromNowOn(new FoldedProof()).equals(Given.seenFromNowOn(told)));
        FoldedProof circuit = Given.shaped(1, 8, 4);
        FoldedProof toldCircuit = Given.shaped(1, 8, 4);
        for (int c = 0; c < 12; c++) {
            for (int side = 0; side < 5; side++) {
                for (int i = 0; i < (side == 4 ? 1 : side == 3 ? 4 : 8); i++) {
                    toldCircuit.weigh(c, side, i, 0);
                    toldCircuit.multiply(i, 0, 0);
                }
            }
        }
        DUE.yes("a circuit, too", Given.seenFromNowOn(circuit).equals(Given.seenFromNowOn(toldCircuit)));
    }

    private static void newObjectHasNothingMade() {
        DUE.sentence("1, \"an empty text; no proof, no challenges\"");
        FoldedProof x = new FoldedProof();
        DUE.is("size()", x.size(), 0);
        DUE.is("byteAt(0)", x.byteAt(0), NONE);
        DUE.no("change(0, 0)", x.change(0, 0));
        DUE.is("challenge(0)", x.challenge(0), NONE);
        DUE.is("characters that it takes", Given.type(x, FORTY + "0"), 40);
        Reference due = new Reference();
        due.prove();
        DUE.yes("prove() without a text", Given.sameProof(Given.proved(new FoldedProof()), due));
    }

    // Promise 2: type.

    private static void typeTakes32To126() {
        DUE.sentence("2, \"A character 32 .. 126 comes behind the text\"");
        for (int c = 32; c <= 126; c++) {
            FoldedProof x = new FoldedProof();
            DUE.yes("type(" + c + ")", x.type(c));
            Reference due = new Reference();
            due.type(c);
            due.prove();
            DUE.yes("a proof with " + c, Given.sameProof(Given.proved(x), due));
        }
        FoldedProof x = new FoldedProof();
        FoldedProof turned = new FoldedProof();
        Given.type(x, " ~");
        Given.type(turned, "~ ");
        DUE.no("the second behind the first", Given.bytes(Given.proved(x)).equals(Given.bytes(Given.proved(turned))));
    }

    private static void typeRefusesWhatIsNone() {
        DUE.sentence("2, \"false if it is none\"");
        for (int c : new int[] {31, 127, 0, 9, 10, 128, 255, 256 + 65, 65536 + 65, -1, -32, -65, MAX, MIN}) {
            DUE.no("type(" + c + ")", new FoldedProof().type(c));
            changesNothing("type(" + c + ")", BoundariesTest::toldRange, x -> x.type(c));
        }
    }

    private static void typeRefusesBehind40() {
        DUE.sentence("2, \"or there are 40\"");
        FoldedProof x = new FoldedProof();
        DUE.is("characters taken", Given.type(x, FORTY), 40);
        for (int c : new int[] {32, 65, 126, 31, 127}) {
            DUE.no("type(" + c + "), the 41st", x.type(c));
        }
        Reference due = new Reference();
        due.text = FORTY;
        due.prove();
        DUE.yes("the forty are the text", Given.sameProof(Given.proved(x), due));
        DUE.is("forty more behind prove()", Given.type(x, FORTY + "0"), 40);
        DUE.is("verify() of the forty", x.verify(), 0);
        DUE.is("forty more behind verify()", Given.type(x, FORTY + "0"), 40);
    }

    // Promise 3: shape.

    private static void shapeTakesWhatIsTold() {
        DUE.sentence("3, \"n, N, m are not as told\"");
        for (int kind = 0; kind <= 1; kind++) {
            for (int n = -3; n <= 66; n++) {
                for (int m = -2; m <= 9; m++) {
                    isShaped(kind, n, m);
                }
            }
        }
        for (int number : new int[] {MIN, MAX, 1 << 30, 65536, 256, 128, 64, -32}) {
            for (int kind = 0; kind <= 1; kind++) {
                isShaped(kind, number, 1);
                isShaped(kind, 1, number);
                isShaped(kind, number, number);
            }
        }
    }

    private static void isShaped(int kind, int n, int m) {
        boolean power = n > 0 && Integer.bitCount(n) == 1;
        boolean range = power && n <= 32 && (m == 1 || m == 2 || m == 4) && n * m <= 32;
        boolean circuit = power && n <= 8 && m >= 0 && m <= 4;
        boolean fine = kind == 0 ? range : circuit;
        String call = "shape(" + kind + ", " + n + ", " + m + ")";
        FoldedProof x = new FoldedProof();
        DUE.refusedOr(call, () -> x.shape(kind, n, m), !fine);
        int places = !fine ? 1 : kind == 0 ? n * m : n;
        for (int j = 0; j < 6; j++) {
            DUE.is(call + ", claimed(" + j + ")", x.claimed(j), j < (fine ? m : 1) ? 1 : NONE);
        }
        x.prove();
        int least = fine && kind == 1 ? 52 : 36;
        DUE.is(call + ", a proof's size", x.size(), least + 8 * Integer.numberOfTrailingZeros(places));
    }

    private static void shapeRefusesKinds() {
        DUE.sentence("3, \"it isn't such a kind\"");
        for (int kind : new int[] {-1, 2, 3, 256, MAX, MIN}) {
            refused("shape(" + kind + ", 4, 2)", BoundariesTest::toldRange, x -> x.shape(kind, 4, 2));
            refused("shape(" + kind + ", 2, 2)", BoundariesTest::toldCircuit, x -> x.shape(kind, 2, 2));
        }
        DUE.sentence("3, a refused shape");
        refused("shape(0, 3, 1)", BoundariesTest::toldRange, x -> x.shape(0, 3, 1));
        refused("shape(0, 4, 3)", BoundariesTest::toldRange, x -> x.shape(0, 4, 3));
        refused("shape(0, 4, 0)", BoundariesTest::toldCircuit, x -> x.shape(0, 4, 0));
        refused("shape(1, 16, 1)", BoundariesTest::toldRange, x -> x.shape(1, 16, 1));
        refused("shape(1, 8, 5)", BoundariesTest::toldCircuit, x -> x.shape(1, 8, 5));
        refused("shape(1, 8, -1)", BoundariesTest::toldCircuit, x -> x.shape(1, 8, -1));
    }

    private static void shapeRefusesMoreThan32Places() {
        DUE.sentence("3, \"or n times m is above 32\"");
        int[][] full = {{32, 1}, {16, 2}, {8, 4}};
        int[][] over = {{32, 2}, {32, 4}, {16, 4}};
        for (int[] shape : full) {
            DUE.is("32 places prove", Given.shaped(0, shape[0], shape[1]).prove(), 0);
        }
        for (int[] shape : over) {
            String call = "shape(0, " + shape[0] + ", " + shape[1] + ")";
            refused(call, BoundariesTest::toldRange, x -> x.shape(0, shape[0], shape[1]));
        }
        DUE.taken("shape(1, 8, 4)", () -> Given.shaped(1, 8, 4));
        // These products are 0 or 1 for an int that wraps around.
        refused("shape(0, 2^30, 4)", BoundariesTest::toldRange, x -> x.shape(0, 1 << 30, 4));
        refused("shape(0, 2^31, 2)", BoundariesTest::toldRange, x -> x.shape(0, MIN, 2));
        refused("shape(0, 2^16, 2^16)", BoundariesTest::toldRange, x -> x.shape(0, 65536, 65536));
        refused("shape(0, -1, -1)", BoundariesTest::toldRange, x -> x.shape(0, -1, -1));
    }

    private static void shapeLeavesTheTextAlone() {
        DUE.sentence("3, \"all else (claims, spoilt shares, proof, challenges) is as at first, but for the text\"");
        int[][] shapes = {{0, 4, 2}, {0, 1, 1}, {0, 8, 4}, {1, 2, 2}, {1, 8, 4}, {1, 1, 0}};
        for (int[] shape : shapes) {
            Supplier<FoldedProof> fresh = () -> {
                FoldedProof x = Given.shaped(shape[0], shape[1], shape[2]);
                Given.type(x, "kept");
                return x;
            };
            FoldedProof range = toldRange();
            range.shape(shape[0], shape[1], shape[2]);
            FoldedProof circuit = toldCircuit();
            circuit.shape(shape[0], shape[1], shape[2]);
            DUE.yes("as a new one", Given.seen(range).equals(Given.seen(fresh.get())));
            DUE.yes("as a new one, of a circuit", Given.seen(circuit).equals(Given.seen(fresh.get())));
            String due = provedTwice(fresh.get());
            DUE.yes("its proofs are a new one's", provedTwice(range).equals(due));
            DUE.yes("its proofs are a new one's, of a circuit", provedTwice(circuit).equals(due));
        }
        FoldedProof full = new FoldedProof();
        Given.type(full, FORTY);
        full.shape(1, 2, 2);
        DUE.no("a full text is full still", full.type(65));
    }

    /** A proof with the text that is there, and one with none. */
    private static String provedTwice(FoldedProof x) {
        return Given.bytes(Given.proved(x)) + Given.bytes(Given.proved(x)) + Given.seen(x);
    }

    // Promise 4: party.

    private static void partyIsModuloQ() {
        DUE.sentence("4, \"each modulo Q; below 0, too\"");
        isModuloQ("a circuit's value", BoundariesTest::toldCircuit, (x, number) -> x.party(0, number, 3, 4));
        isModuloQ("a circuit's blind", BoundariesTest::toldCircuit, (x, number) -> x.party(0, 42, number, 4));
        isModuloQ("a circuit's seed", BoundariesTest::toldCircuit, (x, number) -> x.party(0, 42, 3, number));
        isModuloQ("a blind", BoundariesTest::toldRange, (x, number) -> x.party(1, 5, number, 4));
        isModuloQ("a seed", BoundariesTest::toldRange, (x, number) -> x.party(1, 5, 3, number));
        for (int[] pair : SAME) {
            FoldedProof x = Given.range(4, pair[0]);
            DUE.is("the claim of value " + pair[0], x.claimed(0), Given.range(4, pair[1]).claimed(0));
        }
        FoldedProof x = Given.shaped(0, 1, 1);
        x.party(0, -1, 0, 0);
        DUE.is("B to the - 1, times B", (long) x.claimed(0) * 4 % P, 1);
        x.party(0, 0, -1, 0);
        DUE.is("H to the - 1, times H", (long) x.claimed(0) * 9 % P, 1);
    }

    private static void partyKeepsBitsAsGiven() {
        DUE.sentence("4, \"its bits being the lowest n of the 32 of the value as it is given\"");
        for (int n = 1; n <= 32; n *= 2) {
            int top = n == 32 ? -1 : (1 << n) - 1;
            for (int value : new int[] {0, 1, top, top + 1, -1, MIN, MAX, Q, -Q, 0x55555555, 0xaaaaaaaa}) {
                FoldedProof x = Given.range(n, value);
                Reference due = new Reference(0, n, 1);
                due.party(0, value, 1000, 2000);
                DUE.is(n + " bits of " + value, x.prove(), due.prove());
                DUE.yes(n + " bits of " + value + ", the proof", Given.sameProof(x, due));
                // The first number of a proof is made of the bits and of no other part of the value.
                FoldedProof lowest = Given.proved(Given.range(n, value & top));
                DUE.is(n + " bits of " + value + " alone", Given.number(x, 0), Given.number(lowest, 0));
            }
            DUE.is(n + " bits, the smallest value", Given.range(n, 0).prove(), 0);
            DUE.is(n + " bits, the largest value", Given.range(n, n == 32 ? MAX : top).prove(), 0);
            DUE.is(n + " bits, one too large or below 0", Given.range(n, n == 32 ? MIN : top + 1).prove(), 1);
            DUE.is(n + " bits, -1", Given.range(n, -1).prove(), 1);
        }
        DUE.is("32 bits hold Q, whose value is 0", Given.range(32, Q).prove(), 0);
        DUE.is("8 bits of -Q are not 0, though its value is", Given.range(8, -Q).prove(), 1);
    }

    private static void partyClaims() {
        DUE.sentence("4, \"its claim becomes its commitment\"");
        FoldedProof x = Given.shaped(0, 8, 4);
        for (int j = 0; j < 4; j++) {
            x.party(j, 2, 1, 77);
            DUE.is("claimed(" + j + ")", x.claimed(j), 144);
            DUE.is("the next one", x.claimed(j + 1), j == 3 ? NONE : 1);
        }
        x.claim(3, 25);
        x.party(2, 1, 1, 77);
        DUE.is("another's claim", x.claimed(3), 25);
        x.party(3, 0, 0, 0);
        DUE.is("instead of what claim() told", x.claimed(3), 1);
    }

    private static void partyIsRefused() {
        DUE.sentence("4, \"there is no such party\"");
        for (int j : NOT_THERE) {
            refused("party(" + j + ", ..)", BoundariesTest::toldRange, x -> x.party(j, 1, 2, 3));
            refused("party(" + j + ", ..)", BoundariesTest::toldCircuit, x -> x.party(j, 1, 2, 3));
        }
        refused("party(2, ..)", BoundariesTest::toldRange, x -> x.party(2, 1, 2, 3));
        refused("party(2, ..)", BoundariesTest::toldCircuit, x -> x.party(2, 1, 2, 3));
        for (int m = 1; m <= 4; m++) {
            int parties = m;
            DUE.taken("the last of " + m, () -> Given.shaped(1, 1, parties).party(parties - 1, 1, 2, 3));
            refused("one more than " + m, () -> Given.shaped(1, 1, parties), x -> x.party(parties, 1, 2, 3));
        }
        refused("party(4, ..) of four", () -> Given.shaped(0, 8, 4), x -> x.party(4, 1, 2, 3));
    }

    private static void partyZeroIsThereWithoutValues() {
        DUE.sentence("4, \"with m 0 there is party 0, without a claim\"");
        for (int n = 1; n <= 8; n *= 2) {
            FoldedProof x = Given.shaped(1, n, 0);
            FoldedProof unseeded = Given.shaped(1, n, 0);
            Reference due = new Reference(1, n, 0);
            DUE.taken("party(0, 5, 6, 7)", () -> x.party(0, 5, 6, 7));
            due.party(0, 5, 6, 7);
            due.prove();
            DUE.is("claimed(0)", x.claimed(0), NONE);
            DUE.refused("claim(0, 4)", () -> x.claim(0, 4));
            DUE.is("prove()", x.prove(), 0);
            DUE.yes("the proof", Given.sameProof(x, due));
            DUE.is("verify()", x.verify(), 0);
            DUE.is("claimed(0) behind prove()", x.claimed(0), NONE);
            DUE.no("its seed counts", Given.bytes(Given.proved(unseeded)).equals(Given.bytes(x)));
            unseeded.party(0, 0, 0, 7);
            DUE.yes("value and blind don't", Given.bytes(Given.proved(unseeded)).equals(Given.bytes(x)));
            refused("party(1, ..)", () -> Given.shaped(1, 2, 0), y -> y.party(1, 1, 2, 3));
            refused("party(-1, ..)", () -> Given.shaped(1, 2, 0), y -> y.party(-1, 1, 2, 3));
        }
    }

    // Promise 5: multiply.

    private static void multiplyIsModuloQ() {
        DUE.sentence("5, \"LEFT and RIGHT of multiplication i (modulo Q)\"");
        isModuloQ("LEFT", BoundariesTest::toldCircuit, (x, number) -> x.multiply(0, number, 7));
        isModuloQ("RIGHT", BoundariesTest::toldCircuit, (x, number) -> x.multiply(1, 6, number));
        FoldedProof x = Given.shaped(1, 1, 0);
        x.weigh(0, 2, 0, 1);
        x.weigh(0, 4, 0, 1);
        x.multiply(0, -1, -1);
        DUE.yes("-1 times -1 is 1", x.holds());
        x.multiply(0, Q - 1, Q - 1);
        DUE.yes("Q - 1 times Q - 1 is 1", x.holds());
        x.multiply(0, MAX, MIN);
        x.weigh(0, 4, 0, 69 * -70);
        DUE.yes("the largest times the smallest", x.holds());
    }

    private static void multiplyIsRefused() {
        DUE.sentence("5, \"the kind isn't 1, or there is none such\"");
        for (int i = -1; i <= 8; i++) {
            int place = i;
            refused("multiply(" + i + ", ..) of a range", BoundariesTest::toldRange, x -> x.multiply(place, 1, 1));
        }
        for (int n = 1; n <= 8; n *= 2) {
            int places = n;
            DUE.taken("the last of " + n, () -> Given.shaped(1, places, 1).multiply(places - 1, 1, 1));
            refused("one more than " + n, () -> Given.shaped(1, places, 1), x -> x.multiply(places, 1, 1));
        }
        for (int i : NOT_THERE) {
            refused("multiply(" + i + ", ..)", BoundariesTest::toldCircuit, x -> x.multiply(i, 1, 1));
        }
    }

    // Promise 6: weigh.

    private static void weighSetsModuloQ() {
        DUE.sentence("6, \"becomes this (modulo Q)\"");
        int[] places = {0, 1, 0, 1};
        for (int side = 0; side < 4; side++) {
            int s = side;
            isModuloQ("side " + side, BoundariesTest::toldCircuit, (x, number) -> x.weigh(11, s, places[s], number));
            isModuloQ("side " + side + ", told again", BoundariesTest::toldCircuit, (x, number) -> {
                x.weigh(0, s, places[s], 7);
                x.weigh(0, s, places[s], number);
            });
        }
        for (int[] pair : SAME) {
            FoldedProof x = Given.shaped(1, 1, 0);
            x.weigh(11, 0, 0, 1);
            x.multiply(0, pair[1], 0);
            x.weigh(11, 4, 0, pair[0]);
            DUE.yes("C, " + pair[0] + " is " + pair[1], x.holds());
            x.weigh(11, 4, 0, pair[0] ^ 1);
            DUE.no("C, another number", x.holds());
        }
    }

    private static void weighIsRefused() {
        DUE.sentence("6, \"side 0 .. 4; C with i 0\" and \"there is no such place\"");
        int[] places = {4, 4, 4, 2, 1};
        for (int c = -1; c <= 12; c++) {
            for (int side = -1; side <= 5; side++) {
                for (int i = -1; i <= 8; i++) {
                    int[] at = {c, side, i};
                    boolean fine = c >= 0 && c < 12 && side >= 0 && side < 5 && i >= 0 && i < places[side];
                    DUE.refusedOr("weigh(" + c + ", " + side + ", " + i + ", 1)",
                        () -> Given.shaped(1, 4, 2).weigh(at[0], at[1], at[2], 1), !fine);
                }
            }
        }
        int[][] wrong = {{-1, 0, 0}, {12, 0, 0}, {0, -1, 0}, {0, 5, 0}, {0, 0, -1}, {0, 0, 2}, {0, 1, 2}, {0, 2, 2},
            {0, 3, 2}, {0, 3, -1}, {0, 4, 1}, {0, 4, -1}, {MAX, 0, 0}, {MIN, 0, 0}, {0, MAX, 0}, {0, MIN, 0},
            {0, 0, MAX}, {0, 0, MIN}, {11, 0, 8}, {1, 0, -8}};
        for (int[] at : wrong) {
            refused("weigh(" + at[0] + ", " + at[1] + ", " + at[2] + ", 1)", BoundariesTest::toldCircuit,
                x -> x.weigh(at[0], at[1], at[2], 1));
        }
        refused("weigh of a value with m 0", () -> Given.shaped(1, 4, 0), x -> x.weigh(0, 3, 0, 1));
        DUE.sentence("6, \"the kind isn't 1\"");
        for (int side = 0; side < 5; side++) {
            int s = side;
            refused("weigh(0, " + side + ", 0, 1) of a range", BoundariesTest::toldRange, x -> x.weigh(0, s, 0, 1));
        }
    }

    // Promise 7: holds.

    private static void holdsForAllConstraints() {
        DUE.sentence("7, \"Whether all constraints hold\"");
        DUE.yes("when all are empty", Given.shaped(1, 1, 0).holds());
        for (int c = 0; c < 12; c++) {
            FoldedProof x = Given.circuit();
            DUE.yes("all do", x.holds());
            x.weigh(c, 4, 0, 1);
            DUE.no("all but constraint " + c, x.holds());
            x.weigh(c, 4, 0, Q);
            DUE.yes("all again", x.holds());
            x.weigh(c, 4, 0, -1);
            DUE.no("all but constraint " + c, x.holds());
        }
        // Every place of the fullest circuit, with numbers whose sums go round Q many times.
        FoldedProof x = Given.shaped(1, 8, 4);
        for (int i = 0; i < 8; i++) {
            x.multiply(i, -1, -1);
            for (int side = 0; side < 3; side++) {
                x.weigh(11, side, i, -1);
            }
        }
        for (int j = 0; j < 4; j++) {
            x.party(j, -1, 0, 0);
            x.weigh(11, 3, j, -1);
        }
        // 8 (1 + 1 - 1) is 4 and C.
        x.weigh(11, 4, 0, 4);
        DUE.yes("the fullest circuit", x.holds());
        x.weigh(11, 4, 0, 3);
        DUE.no("one less", x.holds());
        x.weigh(11, 4, 0, 5);
        DUE.no("one more", x.holds());
    }

    private static void holdsForCircuitsAlone() {
        DUE.sentence("7, \"false if the kind isn't 1\"");
        DUE.no("a new object", new FoldedProof().holds());
        DUE.no("a range", Given.proved(Given.range(4, 3)).holds());
        FoldedProof x = Given.circuit();
        x.shape(0, 1, 1);
        DUE.no("a range that was a circuit", x.holds());
        x.shape(1, 1, 1);
        DUE.yes("a circuit that was a range", x.holds());
    }

    // Promises 8 and 9: claim and claimed.

    private static void claimTakesElements() {
        DUE.sentence("8, \"or it isn't an element\"");
        // -1 is no square modulo P, so of a number and its opposite just one is an element.
        long[] roots = {1, 2, 3, 46340, 46341, 65537, Q, P / 2, P - 2, P - 1};
        for (long root : roots) {
            int square = (int) (root * root % P);
            FoldedProof x = toldRange();
            DUE.taken("claim(1, " + square + ")", () -> x.claim(1, square));
            DUE.is("claimed(1)", x.claimed(1), square);
            refused("claim(1, - " + square + ")", BoundariesTest::toldRange, y -> y.claim(1, P - square));
            refused("claim(1, " + -square + ")", BoundariesTest::toldRange, y -> y.claim(1, -square));
        }
        for (int number : new int[] {0, 2, P - 3, P - 1, P, P + 1, P + 4, P + 9, MAX, -1, -2, -P, 1 - P, 4 - P, MIN}) {
            refused("claim(1, " + number + ")", BoundariesTest::toldRange, x -> x.claim(1, number));
            refused("claim(1, " + number + ")", BoundariesTest::toldCircuit, x -> x.claim(1, number));
        }
        FoldedProof x = Given.range(4, 3);
        x.claim(0, P - 2);
        DUE.is("the largest element", x.claimed(0), P - 2);
        x.claim(0, 1);
        DUE.is("the smallest element", x.claimed(0), 1);
    }

    private static void claimIsRefused() {
        DUE.sentence("8, \"there is no such claim\"");
        for (int j : new int[] {-1, 2, 3, 4, MAX, MIN}) {
            refused("claim(" + j + ", 4)", BoundariesTest::toldRange, x -> x.claim(j, 4));
            refused("claim(" + j + ", 4)", BoundariesTest::toldCircuit, x -> x.claim(j, 4));
        }
        refused("claim(0, 4) with m 0", () -> Given.shaped(1, 2, 0), x -> x.claim(0, 4));
        DUE.taken("claim(3, 4) of four", () -> Given.shaped(0, 8, 4).claim(3, 4));
        refused("claim(4, 4) of four", () -> Given.shaped(0, 8, 4), x -> x.claim(4, 4));
    }

    private static void claimedIsNone() {
        DUE.sentence("9, \"NONE if there is none such\"");
        int[][] shapes = {{0, 1, 1}, {0, 1, 2}, {0, 1, 4}, {1, 1, 0}, {1, 1, 1}, {1, 1, 2}, {1, 1, 3}, {1, 1, 4}};
        for (int[] shape : shapes) {
            FoldedProof x = Given.shaped(0, 8, 4);
            for (int j = 0; j < 4; j++) {
                x.party(j, 5, 6, 7);
            }
            x.shape(shape[0], shape[1], shape[2]);
            for (int j : new int[] {-1, 0, 1, 2, 3, 4, 5, MAX, MIN}) {
                DUE.is(shape[2] + " claims, claimed(" + j + ")", x.claimed(j), j >= 0 && j < shape[2] ? 1 : NONE);
            }
        }
        changesNothing("claimed", BoundariesTest::toldRange, x -> x.claimed(x.claimed(2) + x.claimed(0)));
    }

    // Promise 10: spoil.

    private static void spoilAddsUp() {
        DUE.sentence("10, \"more than one are added up\"");
        for (int what = 0; what < 5; what++) {
            int w = what;
            isModuloQ("what " + what, BoundariesTest::toldRange, (x, number) -> x.spoil(0, w, number));
            isModuloQ("what " + what + ", more", BoundariesTest::toldRange, (x, number) -> {
                x.spoil(0, w, MAX);
                x.spoil(0, w, MAX);
                x.spoil(0, w, number);
            });
            changesNothing("spoilt and back, " + what, BoundariesTest::toldRange, x -> {
                x.spoil(0, w, MAX);
                x.spoil(0, w, MAX);
                x.spoil(0, w, MIN);
                x.spoil(0, w, MIN);
                x.spoil(0, w, 2);
            });
            changesNothing("spoilt by 0, " + what, BoundariesTest::toldRange, x -> x.spoil(0, w, 0));
        }
    }

    private static void spoilLastsTillShape() {
        DUE.sentence("10, \"from now on (till shape)\"");
        for (int what = 0; what < 5; what++) {
            FoldedProof x = Given.proved(Given.range(4, 9, 10));
            x.spoil(1, what, 1);
            DUE.is("the proof that was made is as it was", x.verify(), 0);
            DUE.is("prove()", x.prove(), 2);
            DUE.is("prove() again", x.prove(), 2);
            x.party(1, 10, 3, 4);
            DUE.is("prove() behind party()", x.prove(), 2);
            DUE.refused("shape(0, 3, 1)", () -> x.shape(0, 3, 1));
            DUE.is("prove() behind a refused shape()", x.prove(), 2);
            x.shape(0, 4, 2);
            DUE.is("prove() behind shape()", x.prove(), 0);
        }
    }

    private static void spoilIsOfTheFirstPlace() {
        DUE.sentence("10, \"3 its first l, 4 its first r\"");
        int[][] shapes = {{1, 1}, {2, 1}, {32, 1}, {1, 4}, {8, 4}};
        for (int[] shape : shapes) {
            int last = shape[1] - 1;
            for (int what = 0; what < 5; what++) {
                FoldedProof x = Given.shaped(0, shape[0], shape[1]);
                Reference due = new Reference(0, shape[0], shape[1]);
                x.spoil(last, what, -5);
                due.spoil(last, what, -5);
                DUE.is("prove()", x.prove(), 1 << last);
                due.prove();
                DUE.yes("the proof, spoilt " + what, Given.sameProof(x, due));
                // A spoilt l or r leaves t as it was, so FIRST holds.
                DUE.is("verify()", x.verify(), what < 2 ? 2 : 3);
            }
        }
    }

    private static void spoilIsRefused() {
        DUE.sentence("10, \"the kind isn't 0, or there is no such party or what\"");
        for (int what = 0; what < 5; what++) {
            int w = what;
            refused("spoil(0, " + what + ", 1) of a circuit", BoundariesTest::toldCircuit, x -> x.spoil(0, w, 1));
            for (int j : new int[] {-1, 2, 3, 4, MAX, MIN}) {
                refused("spoil(" + j + ", " + what + ", 1)", BoundariesTest::toldRange, x -> x.spoil(j, w, 1));
            }
        }
        refused("spoil(0, 0, 1) with m 0", () -> Given.shaped(1, 2, 0), x -> x.spoil(0, 0, 1));
        for (int what : new int[] {-1, 5, 6, MAX, MIN}) {
            refused("spoil(0, " + what + ", 1)", BoundariesTest::toldRange, x -> x.spoil(0, what, 1));
        }
        DUE.taken("spoil(3, 4, 1) of four", () -> Given.shaped(0, 8, 4).spoil(3, 4, 1));
        refused("spoil(4, 4, 1) of four", () -> Given.shaped(0, 8, 4), x -> x.spoil(4, 4, 1));
    }

    // Promise 11: prove.

    private static void proveClaimsAndEmptiesTheText() {
        DUE.sentence("11, \"which they are from then on, whatever claim() had told\" and \"the text, which is empty then\"");
        for (FoldedProof x : new FoldedProof[] {Given.range(4, 9, 10), Given.circuit()}) {
            int own = x.claimed(1);
            x.claim(1, 25);
            Given.type(x, FORTY);
            DUE.is("prove()", x.prove(), 0);
            DUE.is("claimed(1)", x.claimed(1), own);
            DUE.is("forty characters again", Given.type(x, FORTY), 40);
            DUE.is("verify()", x.verify(), 0);
            String first = Given.bytes(x);
            x.prove();
            DUE.is("verify() without a text", x.verify(), 0);
            DUE.no("another proof", first.equals(Given.bytes(x)));
        }
        FoldedProof untold = Given.shaped(0, 4, 2);
        untold.claim(0, 25);
        untold.prove();
        DUE.is("the claim of a party that was not told", untold.claimed(0), 1);
    }

    private static void proveBlames() {
        DUE.sentence("11, \"the sum of 2 to the j over parties to BLAME\"");
        for (int m = 1; m <= 4; m *= 2) {
            for (int wrong = 0; wrong < 1 << m; wrong++) {
                int[] values = new int[m];
                FoldedProof spoilt = Given.shaped(0, 4, m);
                for (int j = 0; j < m; j++) {
                    boolean isWrong = (wrong >> j & 1) == 1;
                    values[j] = isWrong ? 16 + j : 15 - j;
                    spoilt.spoil(j, (wrong + j) % 5, isWrong ? 1 + j : 0);
                }
                DUE.is("out of range", Given.range(4, values).prove(), wrong);
                DUE.is("spoilt", spoilt.prove(), wrong);
            }
        }
    }

    private static void proveBlamesForOneReason() {
        DUE.sentence("11, \"its t isn't the sum of its l(i) r(i), or FIRST doesn't hold .., or its BASE ..\"");
        DUE.is("H to the LOG_OF_B", Reference.power(Reference.H, java.math.BigInteger.valueOf(LOG_OF_B)).intValue(), 4);
        for (int j = 0; j < 4; j++) {
            FoldedProof sum = Given.range(4, 1, 2, 3, 4);
            // B to the t, H to the tb is as it was.
            sum.spoil(j, 0, 5);
            sum.spoil(j, 1, (int) (-5 * LOG_OF_B % Q));
            DUE.is("t isn't the sum", sum.prove(), 1 << j);
            DUE.is("FIRST holds all the same", sum.verify(), 3);
            FoldedProof first = Given.range(4, 1, 2, 3, 4);
            first.spoil(j, 1, 5);
            DUE.is("FIRST doesn't hold", first.prove(), 1 << j);
            DUE.is("verify()", first.verify(), 2);
            FoldedProof base = Given.range(4, 1, 2, 3, 4);
            base.spoil(j, 2, 5);
            DUE.is("BASE isn't the product", base.prove(), 1 << j);
            DUE.is("verify()", base.verify(), 3);
        }
    }

    private static void proveBlamesNobodyForARightProof() {
        DUE.sentence("11, \"If the proof isn't right, these are the parties\"");
        for (int what = 0; what < 3; what++) {
            FoldedProof x = Given.range(4, 9, 10, 11, 12);
            x.spoil(0, what, 7);
            x.spoil(3, what, -7);
            DUE.is("two that cancel out", x.prove(), 0);
            DUE.is("verify()", x.verify(), 0);
            x.spoil(1, (what + 1) % 3, 1);
            DUE.is("a third one brings both to light", x.prove(), 1 + 2 + 8);
        }
    }

    private static void proveBlamesNobodyInACircuit() {
        DUE.sentence("11, \"kind 1: 0\"");
        FoldedProof x = Given.circuit();
        x.weigh(7, 4, 0, 1);
        DUE.no("holds()", x.holds());
        DUE.is("prove()", x.prove(), 0);
        DUE.is("verify()", x.verify(), 2);
        FoldedProof none = Given.shaped(1, 1, 0);
        none.weigh(11, 4, 0, -1);
        DUE.is("prove() without values", none.prove(), 0);
        DUE.is("verify() without values", none.verify(), 2);
    }

    // Promise 12: verify.

    private static void verifyEmptiesTheText() {
        DUE.sentence("12, \"the text, which is empty then\"");
        for (int verdict = 0; verdict < 4; verdict++) {
            FoldedProof x = Given.range(4, 9);
            Given.type(x, "a");
            x.prove();
            if (verdict == 1) {
                x.cut(3);
            } else if (verdict == 3) {
                Given.putNumber(x, 11, (Given.number(x, 11) + 1) % Q);
            }
            Given.type(x, verdict == 2 ? "b" : "a");
            DUE.is("verify()", x.verify(), verdict);
            DUE.is("characters that the text takes then", Given.type(x, FORTY + "0"), 40);
            x.prove();
            DUE.is("verify() of a proof with the forty", x.verify(), 2);
            x.prove();
            DUE.is("verify() of a proof with none", x.verify(), 0);
        }
    }

    private static void verifyIsMalformedWithoutAProof() {
        DUE.sentence("12, \"1 MALFORMED (also if there is no proof)\"");
        FoldedProof x = new FoldedProof();
        DUE.is("a new object", x.verify(), 1);
        DUE.is("a circuit without a proof", Given.shaped(1, 2, 2).verify(), 1);
        x.prove();
        DUE.is("with one", x.verify(), 0);
        x.shape(0, 1, 1);
        DUE.is("behind shape()", x.verify(), 1);
        x.prove();
        x.cut(0);
        DUE.is("cut to nothing", x.verify(), 1);
        DUE.is("again", x.verify(), 1);
    }

    private static void verifyIsMalformedByItsLength() {
        DUE.sentence("Terms, \"MALFORMED if it hasn't just as many bytes as one of this statement\"");
        for (FoldedProof x : new FoldedProof[] {Given.range(1, 1), Given.range(8, 1, 2, 3, 4), Given.circuit()}) {
            x.prove();
            DUE.yes("cut to its size", x.cut(x.size()));
            DUE.is("verify()", x.verify(), 0);
            for (int n = x.size() - 1; n >= 0; n--) {
                x.cut(n);
                DUE.is("cut to " + n, x.verify(), 1);
            }
        }
    }

    private static void verifyIsMalformedByANumber() {
        DUE.sentence("Terms, \"or an element in it isn't one, or a scalar is Q or more\"");
        FoldedProof[] made = {Given.range(1, 1), Given.range(2, 1, 2), Given.circuit(), Given.shaped(1, 1, 0)};
        for (FoldedProof x : made) {
            x.prove();
            int numbers = x.size() / 4;
            int elements = x.holds() ? 8 : 4;
            for (int k = 0; k < numbers; k++) {
                boolean isScalar = k >= elements && k < elements + 3 || k >= numbers - 2;
                long old = Given.number(x, k);
                long[] wrong = isScalar ? new long[] {Q, Q + 1, P, 1L << 31, 0xffffffffL}
                    : new long[] {0, 2, P - old, P, P + 1L, P + 4L, P + old, 1L << 31, 0xffffffffL};
                for (long number : wrong) {
                    Given.putNumber(x, k, number);
                    DUE.is("number " + k + " is " + number, x.verify(), 1);
                }
                for (long number : isScalar ? new long[] {0, 1, Q - 1} : new long[] {1, 4, P - 2}) {
                    Given.putNumber(x, k, number);
                    DUE.no("number " + k + " is " + number, x.verify() == 1);
                }
                Given.putNumber(x, k, old);
            }
            DUE.is("put back", x.verify(), 0);
        }
    }

    private static void verifyTellsFirstFirst() {
        DUE.sentence("12, \"2 comes first\"");
        FoldedProof x = Given.range(4, 9);
        x.spoil(0, 2, 1);
        x.prove();
        DUE.is("SECOND alone", x.verify(), 3);
        x.spoil(0, 1, 1);
        x.prove();
        DUE.is("both", x.verify(), 2);
        x.spoil(0, 2, -1);
        x.prove();
        DUE.is("FIRST alone", x.verify(), 2);
        Given.putNumber(x, 0, P);
        DUE.is("but MALFORMED before that", x.verify(), 1);
    }

    // Promises 13 to 16: size, byteAt, change, cut.

    private static void sizeIsZeroWithoutAProof() {
        DUE.sentence("13, \"0 if there is none\"");
        FoldedProof x = new FoldedProof();
        DUE.is("a new object", x.size(), 0);
        x.verify();
        DUE.is("behind verify()", x.size(), 0);
        x.prove();
        DUE.is("the smallest proof", x.size(), 36);
        x.shape(0, 8, 4);
        DUE.is("behind shape()", x.size(), 0);
        x.prove();
        DUE.is("the largest proof of a range", x.size(), 76);
        x.cut(0);
        DUE.is("behind cut(0)", x.size(), 0);
        x.shape(1, 8, 4);
        x.prove();
        DUE.is("the largest proof of a circuit", x.size(), 76);
        x.shape(1, 1, 0);
        x.prove();
        DUE.is("the smallest proof of a circuit", x.size(), 52);
    }

    private static void byteAtIsNone() {
        DUE.sentence("14, \"NONE if there is none such\"");
        FoldedProof none = new FoldedProof();
        for (int k : new int[] {0, 1, 35, 75, -1, MAX, MIN}) {
            DUE.is("byteAt(" + k + ") without a proof", none.byteAt(k), NONE);
        }
        FoldedProof x = Given.proved(Given.shaped(0, 8, 4));
        x.change(75, 255);
        DUE.is("byteAt(75)", x.byteAt(75), 255);
        DUE.is("byteAt(76)", x.byteAt(76), NONE);
        x.shape(0, 1, 1);
        x.prove();
        x.change(0, 128);
        DUE.is("byteAt(0)", x.byteAt(0), 128);
        DUE.yes("byteAt(35)", x.byteAt(35) >= 0);
        for (int k : new int[] {36, 37, 75, 76, -1, MAX, MIN}) {
            DUE.is("byteAt(" + k + ") of 36", x.byteAt(k), NONE);
        }
        x.cut(7);
        DUE.yes("byteAt(6) of 7", x.byteAt(6) >= 0);
        DUE.is("byteAt(7) of 7", x.byteAt(7), NONE);
    }

    private static void changeKeepsTheLowest8Bits() {
        DUE.sentence("15, \"the lowest 8 bits of b\"");
        FoldedProof x = Given.proved(Given.range(8, 200));
        int[][] asked = {{0, 0}, {127, 127}, {128, 128}, {255, 255}, {256, 0}, {511, 255}, {-1, 255}, {-128, 128},
            {-256, 0}, {-257, 255}, {MAX, 255}, {MIN, 0}, {0x12345681, 0x81}};
        for (int k : new int[] {0, 30, 59}) {
            int before = x.byteAt(k - 1);
            int behind = x.byteAt(k + 1);
            for (int[] pair : asked) {
                DUE.yes("change(" + k + ", " + pair[0] + ")", x.change(k, pair[0]));
                DUE.is("byteAt(" + k + ")", x.byteAt(k), pair[1]);
            }
            DUE.is("the byte before", x.byteAt(k - 1), before);
            DUE.is("the byte behind", x.byteAt(k + 1), behind);
        }
        DUE.is("size()", x.size(), 60);
    }

    private static void changeIsFalse() {
        DUE.sentence("15, \"false if there is none such\"");
        for (int k : new int[] {0, 35, 75, -1, MAX, MIN}) {
            DUE.no("change(" + k + ", 1) without a proof", new FoldedProof().change(k, 1));
        }
        for (int k : new int[] {44, 45, 75, 76, -1, MAX, MIN}) {
            DUE.no("change(" + k + ", 1) of 44", Given.proved(Given.range(2, 1)).change(k, 1));
            changesNothing("change(" + k + ", 1) of 44", () -> Given.proved(Given.range(2, 1)), x -> x.change(k, 1));
        }
        FoldedProof x = Given.proved(Given.range(2, 1));
        x.cut(7);
        DUE.no("change(7, 1) of 7", x.change(7, 1));
        DUE.yes("change(6, 1) of 7", x.change(6, 1));
        DUE.is("size()", x.size(), 7);
    }

    private static void cutKeepsTheFirst() {
        DUE.sentence("16, \"The proof keeps its first n bytes\"");
        for (int n : new int[] {0, 1, 3, 4, 43, 44}) {
            FoldedProof x = Given.proved(Given.range(2, 1));
            FoldedProof whole = Given.proved(Given.range(2, 1));
            DUE.yes("cut(" + n + ") of 44", x.cut(n));
            DUE.is("size()", x.size(), n);
            for (int k = 0; k <= 44; k++) {
                DUE.is("byteAt(" + k + ")", x.byteAt(k), k < n ? whole.byteAt(k) : NONE);
            }
            DUE.yes("cut(" + n + ") again", x.cut(n));
            DUE.no("the bytes don't come back", x.cut(n + 1));
            DUE.is("but with a new proof", Given.proved(x).size(), 44);
        }
        DUE.yes("nothing of nothing", new FoldedProof().cut(0));
    }

    private static void cutIsFalse() {
        DUE.sentence("16, \"false if it has not so many, or n is below 0\"");
        for (int n : new int[] {1, 36, MAX, -1, MIN}) {
            DUE.no("cut(" + n + ") without a proof", new FoldedProof().cut(n));
        }
        for (int n : new int[] {45, 46, 76, 77, MAX, -1, -44, MIN}) {
            DUE.no("cut(" + n + ") of 44", Given.proved(Given.range(2, 1)).cut(n));
            changesNothing("cut(" + n + ") of 44", () -> Given.proved(Given.range(2, 1)), x -> x.cut(n));
        }
    }

    // Promise 17: challenge.

    private static void challengeIsOfTheLatest() {
        DUE.sentence("17, \"of the latest prove or verify\"");
        FoldedProof x = Given.proved(Given.range(4, 9));
        int proved = x.challenge(0);
        Given.type(x, "a");
        x.verify();
        int checked = x.challenge(0);
        DUE.no("of verify()", checked == proved);
        x.party(0, 8, 7, 6);
        x.spoil(0, 0, 1);
        x.claim(0, 25);
        x.type('a');
        x.change(0, 0);
        x.cut(1);
        DUE.is("other calls leave it", x.challenge(0), checked);
        x.prove();
        DUE.no("of prove()", x.challenge(0) == checked || x.challenge(0) == proved);
    }

    private static void challengeIsNoneOutside() {
        DUE.sentence("17, \"NONE if there was none such\"");
        for (int places = 1; places <= 32; places *= 2) {
            int foldings = Integer.numberOfTrailingZeros(places);
            FoldedProof x = Given.proved(Given.shaped(0, places, 1));
            for (int k : new int[] {-1, MAX, MIN, 4 + foldings, 5 + foldings, 9}) {
                DUE.is("challenge(" + k + ") of " + places + " places", x.challenge(k), NONE);
            }
            for (int k = 0; k < 4 + foldings; k++) {
                DUE.yes("challenge(" + k + ")", x.challenge(k) >= 0 && x.challenge(k) < Q);
            }
            x.verify();
            DUE.yes("the last one behind verify()", x.challenge(3 + foldings) >= 0);
            DUE.is("and no more", x.challenge(4 + foldings), NONE);
        }
        // Fewer challenges than before: those of the longer proof are gone.
        FoldedProof x = Given.proved(Given.shaped(0, 8, 4));
        x.shape(0, 1, 1);
        x.prove();
        DUE.is("challenge(4) of a shorter proof", x.challenge(4), NONE);
    }

    private static void challengeIsNoneBehindMalformedOrShape() {
        DUE.sentence("17, \"as behind a MALFORMED proof, or shape\"");
        for (int end = 0; end < 4; end++) {
            FoldedProof x = Given.proved(Given.range(4, 9));
            if (end == 0) {
                x.cut(51);
                x.verify();
            } else if (end == 1) {
                Given.putNumber(x, 12, Q);
                x.verify();
            } else if (end == 2) {
                x.shape(0, 4, 1);
            } else {
                DUE.refused("shape(0, 4, 3)", () -> x.shape(0, 4, 3));
            }
            for (int k = 0; k < 6; k++) {
                DUE.is("is challenge(" + k + ") there", x.challenge(k) == NONE ? 0 : 1, end == 3 ? 1 : 0);
            }
            x.prove();
            DUE.yes("there behind prove()", x.challenge(5) >= 0);
        }
        FoldedProof wrong = Given.proved(Given.range(4, 9));
        Given.type(wrong, "a");
        DUE.is("FIRST doesn't hold", wrong.verify(), 2);
        DUE.yes("there though it isn't right", wrong.challenge(5) >= 0);
    }

    // What it is.

    private static void anObjectLastsFor512Calls() {
        DUE.sentence("\"An object is used for at most 512 calls\"");
        FoldedProof x = new FoldedProof();
        x.shape(0, 8, 4);
        for (int call = 1; call < 507; call += 5) {
            x.spoil(call % 4, call % 5, call % 2 == 0 ? MAX : MIN);
            x.type(65);
            x.prove();
            x.verify();
            x.challenge(0);
        }
        x.shape(0, 8, 4);
        FoldedProof fresh = Given.shaped(0, 8, 4);
        DUE.is("prove()", x.prove(), fresh.prove());
        DUE.is("verify()", x.verify(), fresh.verify());
        DUE.yes("as a fresh one", Given.seen(x).equals(Given.seen(fresh)));
    }
}

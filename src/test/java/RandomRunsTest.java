import java.math.BigInteger;
import java.util.Random;

/** Runs of calls made up by a seeded generator: the program and the reference must answer alike, all the way. */
public final class RandomRunsTest {
    private static final int RUNS = 240;
    private static final int CALLS = 60;

    private final Due due;
    private final Random random;
    private final String name;
    private final FoldedProof program = new FoldedProof();
    private final Reference reference = new Reference();
    private final int[] verdicts;

    private RandomRunsTest(Due due, int run, int[] verdicts) {
        this.due = due;
        this.random = new Random(run);
        this.name = "run " + run + ": ";
        this.verdicts = verdicts;
    }

    public static void main(String[] args) {
        Due due = new Due();
        int[] verdicts = new int[4];
        for (int run = 0; run < RUNS; run++) {
            new RandomRunsTest(due, run, verdicts).run();
        }
        for (int verdict = 0; verdict < 4; verdict++) {
            due.yes("verdict " + verdict + " came up often", verdicts[verdict] > 100);
        }
        due.end();
    }

    private void run() {
        shape();
        for (int k = 0; k < CALLS; k++) {
            int choice = random.nextInt(100);
            if (choice < 4) {
                shape();
            } else if (choice < 22) {
                party();
            } else if (choice < 40) {
                circuit();
            } else if (choice < 46) {
                spoil();
            } else if (choice < 56) {
                prove();
            } else if (choice < 74) {
                verify();
            } else {
                tamper();
            }
        }
        prove();
        verify();
    }

    private int pick(int... choices) {
        return choices[random.nextInt(choices.length)];
    }

    private int anyNumber() {
        return random.nextInt(3) == 0
            ? pick(0, 1, -1, 1073741788, 1073741789, 1073741790, -1073741789, Integer.MAX_VALUE, Integer.MIN_VALUE)
            : random.nextInt(2) == 0 ? random.nextInt() : random.nextInt(40) - 4;
    }

    private void shape() {
        int kind = random.nextInt(12) == 0 ? pick(-1, 2) : random.nextInt(2);
        int n = random.nextInt(12) == 0 ? random.nextInt(70) - 3 : pick(1, 2, 4, 8, 16, 32);
        int m = random.nextInt(12) == 0 ? random.nextInt(10) - 3 : pick(0, 1, 1, 2, 2, 3, 4);
        both("shape(" + kind + ", " + n + ", " + m + ")", () -> program.shape(kind, n, m),
            () -> reference.shape(kind, n, m));
    }

    private void party() {
        int j = random.nextInt(6) == 0 ? pick(-1, 4, 5) : random.nextInt(Math.max(1, reference.m));
        boolean fits = random.nextInt(8) != 0 && reference.kind == 0 && reference.n < 32;
        int value = fits ? random.nextInt(1 << Math.min(30, reference.n)) : anyNumber();
        int blind = anyNumber();
        int seed = anyNumber();
        both("party(" + j + ", " + value + ", " + blind + ", " + seed + ")", () -> program.party(j, value, blind, seed),
            () -> reference.party(j, value, blind, seed));
    }

    private void circuit() {
        int left = anyNumber();
        int i = random.nextInt(9) - (random.nextInt(9) == 0 ? 1 : 0);
        int by = anyNumber();
        if (random.nextInt(3) == 0) {
            both("multiply(" + i + ", " + left + ", " + by + ")", () -> program.multiply(i, left, by),
                () -> reference.multiply(i, left, by));
            return;
        }
        int c = random.nextInt(10) == 0 ? pick(-1, 12, 13) : random.nextInt(12);
        int side = random.nextInt(10) == 0 ? pick(-1, 5) : random.nextInt(5);
        int place = random.nextInt(3) == 0 ? i : random.nextInt(2);
        both("weigh(" + c + ", " + side + ", " + place + ", " + by + ")", () -> program.weigh(c, side, place, by),
            () -> reference.weigh(c, side, place, by));
    }

    /** Lets each constraint hold by its C. */
    private void mend() {
        for (int c = 0; c < 12 && reference.kind == 1; c++) {
            int row = c;
            int by = reference.weights[4][c][0].add(reference.excess(c)).mod(Reference.Q).intValue();
            both("weigh(" + c + ", 4, 0, " + by + ")", () -> program.weigh(row, 4, 0, by),
                () -> reference.weigh(row, 4, 0, by));
        }
    }

    private void spoil() {
        int j = random.nextInt(6) == 0 ? pick(-1, 4) : random.nextInt(Math.max(1, reference.m));
        int what = random.nextInt(8) == 0 ? pick(-1, 5) : random.nextInt(5);
        // What is spoilt is often spoilt back, here or by the neighbour.
        int by = pick(1, -1, 1, -1, anyNumber());
        both("spoil(" + j + ", " + what + ", " + by + ")", () -> program.spoil(j, what, by),
            () -> reference.spoil(j, what, by));
    }

    private void prove() {
        if (random.nextInt(3) != 0) {
            mend();
        }
        String text = typeSome();
        due.is(name + "prove()", program.prove(), reference.prove());
        compare("prove()");
        if (random.nextInt(4) != 0) {
            type(text);
        }
        verify();
    }

    private void verify() {
        int verdict = program.verify();
        due.is(name + "verify()", verdict, reference.verify());
        if (verdict >= 0 && verdict < 4) {
            verdicts[verdict]++;
        }
        compare("verify()");
    }

    private String typeSome() {
        StringBuilder text = new StringBuilder();
        for (int k = random.nextInt(3) == 0 ? random.nextInt(45) : 0; k > 0; k--) {
            text.append((char) (random.nextInt(100) + 30));
        }
        type(text.toString());
        return text.toString();
    }

    private void type(String text) {
        for (int k = 0; k < text.length(); k++) {
            int c = text.charAt(k);
            due.yes(name + "type(" + c + ")", program.type(c) == reference.type(c));
        }
    }

    private void tamper() {
        switch (random.nextInt(6)) {
            case 0: {
                int k = random.nextInt(Math.max(1, reference.size()) + 2) - 1;
                int b = random.nextInt();
                due.yes(name + "change(" + k + ", " + b + ")", program.change(k, b) == reference.change(k, b));
                break;
            }
            case 1: {
                int n = reference.size() + pick(-1, 0, 1, -4, -reference.size() - 1);
                due.yes(name + "cut(" + n + ")", program.cut(n) == reference.cut(n));
                break;
            }
            case 2: {
                int j = random.nextInt(6) - 1;
                int element = random.nextInt(2) == 0 ? anyNumber() : anyElement().intValue();
                both("claim(" + j + ", " + element + ")", () -> program.claim(j, element),
                    () -> reference.claim(j, element));
                break;
            }
            default:
                replaceNumber();
        }
        if (random.nextBoolean()) {
            verify();
        }
    }

    private BigInteger anyElement() {
        return Reference.power(Reference.B, BigInteger.valueOf(random.nextInt(1073741789)));
    }

    private void replaceNumber() {
        int k = random.nextInt(Math.max(1, reference.size() / 4));
        BigInteger number = random.nextInt(3) == 0 ? anyElement() : BigInteger.valueOf(random.nextInt(1073741789));
        if (random.nextInt(6) == 0) {
            number = Reference.Q.subtract(BigInteger.valueOf(random.nextInt(2)));
        }
        for (int b = 0; b < 4; b++) {
            int place = 4 * k + b;
            int value = number.shiftRight(8 * b).intValue();
            due.yes(name + "change(" + place + ", " + value + ")",
                program.change(place, value) == reference.change(place, value));
        }
    }

    private void both(String call, Runnable ours, Runnable theirs) {
        boolean refused = Due.isRefused(theirs);
        due.is(name + call + " is refused", Due.isRefused(ours) ? 1 : 0, refused ? 1 : 0);
        compare(call);
    }

    private void compare(String call) {
        due.is(name + "size() behind " + call, program.size(), reference.size());
        for (int k = -1; k <= reference.size(); k++) {
            due.is(name + "byteAt(" + k + ") behind " + call, program.byteAt(k), reference.byteAt(k));
        }
        for (int k = -1; k < 11; k++) {
            due.is(name + "challenge(" + k + ") behind " + call, program.challenge(k), reference.challenge(k));
        }
        for (int j = -1; j < 6; j++) {
            due.is(name + "claimed(" + j + ") behind " + call, program.claimed(j), reference.claimed(j));
        }
        due.yes(name + "holds() behind " + call, program.holds() == reference.holds());
    }
}

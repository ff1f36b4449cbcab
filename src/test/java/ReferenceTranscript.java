import java.nio.charset.StandardCharsets;

/** The document's transcript, with Keccak's numbers made by their rules and not by tables. */
final class ReferenceTranscript {
    private final int[] state = new int[200];
    private int at;
    private int begun;

    ReferenceTranscript() {
        int[] first = {1, 168, 1, 0, 1, 96};
        System.arraycopy(first, 0, state, 0, 6);
        System.arraycopy(bytes("STROBEv1.0.2"), 0, state, 6, 12);
        permute(state);
        start(18);
        absorb(bytes("Merlin v1.0"));
    }

    static int[] bytes(String text) {
        byte[] bytes = text.getBytes(StandardCharsets.ISO_8859_1);
        int[] row = new int[bytes.length];
        for (int k = 0; k < row.length; k++) {
            row[k] = bytes[k] & 255;
        }
        return row;
    }

    void message(String label, int[] bytes) {
        announce(label, bytes.length);
        start(2);
        absorb(bytes);
    }

    int[] challenge(String label, int count) {
        announce(label, count);
        start(7);
        int[] bytes = new int[count];
        for (int k = 0; k < count; k++) {
            bytes[k] = state[at];
            state[at] = 0;
            at++;
            if (at == 166) {
                turn();
            }
        }
        return bytes;
    }

    private void announce(String label, int length) {
        start(18);
        absorb(bytes(label));
        absorb(length & 255, length >> 8 & 255, length >> 16 & 255, length >> 24 & 255);
    }

    private void start(int f) {
        int old = begun;
        begun = at + 1;
        absorb(old, f);
        if (f == 7 && at != 0) {
            turn();
        }
    }

    private void absorb(int... bytes) {
        for (int b : bytes) {
            state[at] ^= b;
            at++;
            if (at == 166) {
                turn();
            }
        }
    }

    private void turn() {
        state[at] ^= begun;
        state[at + 1] ^= 4;
        state[167] ^= 128;
        permute(state);
        at = 0;
        begun = 0;
    }

    static void permute(int[] bytes) {
        long[][] a = new long[5][5];
        for (int k = 0; k < 200; k++) {
            a[k / 8 % 5][k / 40] |= (long) bytes[k] << 8 * (k % 8);
        }
        int feedback = 1;
        for (int round = 0; round < 24; round++) {
            a = chi(rhoPi(theta(a)));
            for (int j = 0; j <= 6; j++) {
                if ((feedback & 1) == 1) {
                    a[0][0] ^= 1L << (1 << j) - 1;
                }
                feedback = feedback << 1 ^ (feedback >> 7) * 0x171;
            }
        }
        for (int k = 0; k < 200; k++) {
            bytes[k] = (int) (a[k / 8 % 5][k / 40] >>> 8 * (k % 8)) & 255;
        }
    }

    private static long[][] theta(long[][] a) {
        long[] c = new long[5];
        for (int x = 0; x < 5; x++) {
            for (int y = 0; y < 5; y++) {
                c[x] ^= a[x][y];
            }
        }
        for (int x = 0; x < 5; x++) {
            for (int y = 0; y < 5; y++) {
                a[x][y] ^= c[(x + 4) % 5] ^ Long.rotateLeft(c[(x + 1) % 5], 1);
            }
        }
        return a;
    }

    private static long[][] rhoPi(long[][] a) {
        long[][] moved = new long[5][5];
        moved[0][0] = a[0][0];
        int x = 1;
        int y = 0;
        for (int t = 0; t < 24; t++) {
            moved[y][(2 * x + 3 * y) % 5] = Long.rotateLeft(a[x][y], (t + 1) * (t + 2) / 2);
            int next = (2 * x + 3 * y) % 5;
            x = y;
            y = next;
        }
        return moved;
    }

    private static long[][] chi(long[][] a) {
        long[][] mixed = new long[5][5];
        for (int x = 0; x < 5; x++) {
            for (int y = 0; y < 5; y++) {
                mixed[x][y] = a[x][y] ^ ~a[(x + 1) % 5][y] & a[(x + 2) % 5][y];
            }
        }
        return mixed;
    }
}

import java.security.MessageDigest;

/** Whether the reference is right: its Keccak against the library's SHA3, its transcript against Merlin's own test. */
public final class ReferenceTest {
    private ReferenceTest() {
    }

    public static void main(String[] args) throws Exception {
        Due due = new Due();
        byte[] message = "hidden numbers".getBytes("US-ASCII");
        byte[] digest = MessageDigest.getInstance("SHA3-256").digest(message);
        int[] state = new int[200];
        for (int k = 0; k < message.length; k++) {
            state[k] = message[k];
        }
        state[message.length] ^= 6;
        state[135] ^= 128;
        ReferenceTranscript.permute(state);
        for (int k = 0; k < digest.length; k++) {
            due.is("SHA3 byte " + k, state[k], digest[k] & 255);
        }
        ReferenceTranscript transcript = new ReferenceTranscript();
        transcript.message("dom-sep", ReferenceTranscript.bytes("test protocol"));
        transcript.message("some label", ReferenceTranscript.bytes("some data"));
        StringBuilder hex = new StringBuilder();
        for (int b : transcript.challenge("challenge", 32)) {
            hex.append(String.format("%02x", b));
        }
        due.yes("Merlin's own test",
            hex.toString().equals("d5a21972d0d5fe320c0d263fac7fffb8145aa640af6e9bca177c03c7efcf0615"));
        due.end();
    }
}

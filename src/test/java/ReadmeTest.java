import java.io.IOException;
import java.lang.reflect.Method;
import java.nio.file.Files;
import java.nio.file.Path;
import java.util.List;

/** README.md's code stands here too, line by line, and does what is said behind it. */
public final class ReadmeTest {
    private static final Due DUE = new Due();

    private ReadmeTest() {
    }

    public static void main(String[] args) throws IOException {
        range();
        circuit();
        codeStandsHere();
        tellsOfEveryCall();
        DUE.end();
    }

    private static void range() {
        DUE.sentence("A range");
        FoldedProof proof = new FoldedProof();
        proof.shape(0, 8, 2);
        proof.party(0, 200, 77, 5);
        proof.party(1, 13, 78, 6);
        proof.type('a');
        int blamed = proof.prove();
        proof.type('a');
        int verdict = proof.verify();
        DUE.is("blamed", blamed, 0);
        DUE.is("verdict", verdict, 0);

        proof.party(1, 300, 78, 6);
        blamed = proof.prove();
        verdict = proof.verify();
        DUE.is("blamed for 300", blamed, 2);
        DUE.is("verdict of 300", verdict, 2);

        DUE.sentence("Carrying a proof");
        FoldedProof checker = new FoldedProof();
        checker.shape(0, 8, 2);
        checker.prove();
        proof.party(1, 13, 78, 6);
        proof.prove();
        for (int k = 0; k < proof.size(); k++) {
            checker.change(k, proof.byteAt(k));
        }
        checker.claim(0, proof.claimed(0));
        checker.claim(1, proof.claimed(1));
        int checked = checker.verify();
        DUE.is("checked", checked, 0);
    }

    private static void circuit() {
        DUE.sentence("A circuit");
        FoldedProof factors = new FoldedProof();
        factors.shape(1, 1, 1);
        factors.party(0, 42, 11, 9);
        factors.multiply(0, 6, 7);
        factors.weigh(0, 2, 0, 1);
        factors.weigh(0, 3, 0, 1);
        boolean fits = factors.holds();
        factors.prove();
        int known = factors.verify();
        DUE.yes("fits", fits);
        DUE.is("known", known, 0);
    }

    private static void codeStandsHere() throws IOException {
        DUE.sentence("README.md");
        List<String> here = Files.readAllLines(Path.of("src/test/java/ReadmeTest.java"));
        here.replaceAll(String::strip);
        boolean inCode = false;
        int lines = 0;
        for (String line : Files.readAllLines(Path.of("README.md"))) {
            if (line.startsWith("```")) {
                inCode = line.equals("```java");
            } else if (inCode) {
                String code = line.replaceFirst("//.*", "").strip();
                DUE.yes("\"" + code + "\" is run by its test", here.contains(code));
                lines++;
            }
        }
        DUE.yes("there is code in it", lines > 0);
    }

    private static void tellsOfEveryCall() throws IOException {
        String readme = Files.readString(Path.of("README.md"));
        for (Method method : FoldedProof.class.getMethods()) {
            if (method.getDeclaringClass() == FoldedProof.class) {
                DUE.yes("a row for " + method.getName(), readme.contains("| `" + method.getName() + "("));
            }
        }
    }
}

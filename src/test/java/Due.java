/** Counts the answers that are not as due, and prints them. */
final class Due {
    private int wrong;
    private int asked;
    private String sentence = "";

    /** Names the document's sentence that the answers from now on are for. */
    void sentence(String words) {
        sentence = words + ": ";
    }

    void is(String what, long got, long want) {
        asked++;
        if (got != want) {
            wrong++;
            System.out.println(sentence + what + " answered " + got + ", due is " + want);
        }
    }

    void yes(String what, boolean got) {
        is(what, got ? 1 : 0, 1);
    }

    void no(String what, boolean got) {
        is(what, got ? 1 : 0, 0);
    }

    void refused(String what, Runnable call) {
        refusedOr(what, call, true);
    }

    void taken(String what, Runnable call) {
        refusedOr(what, call, false);
    }

    void refusedOr(String what, Runnable call, boolean refused) {
        is(what + " throws IllegalArgumentException", isRefused(call) ? 1 : 0, refused ? 1 : 0);
    }

    static boolean isRefused(Runnable call) {
        try {
            call.run();
            return false;
        } catch (IllegalArgumentException e) {
            return e.getClass() == IllegalArgumentException.class;
        }
    }

    void end() {
        System.out.println(asked + " answers, " + wrong + " not as due");
        if (wrong != 0) {
            System.exit(1);
        }
    }
}

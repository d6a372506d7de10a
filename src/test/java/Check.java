/** Counts the answers that are not as due, and ends a test with exit code 1 if there was one. */
final class Check {
    private int wrong;
    private String sentence = "";

    /** What is checked from here on is what these words of the document say. */
    void sentence(String words) {
        sentence = "\"" + words + "\": ";
    }

    void due(String what, long got, long want) {
        if (got != want) {
            wrong++;
            System.out.println(sentence + what + ": " + got + ", due is " + want);
        }
    }

    void due(String what, boolean got, boolean want) {
        due(what, got ? 1 : 0, want ? 1 : 0);
    }

    /** 0 nothing, 1 IllegalArgumentException, 2 IndexOutOfBoundsException, 3 any other. */
    static int thrownBy(Runnable call) {
        try {
            call.run();
            return 0;
        } catch (RuntimeException e) {
            if (e.getClass() == IllegalArgumentException.class) {
                return 1;
            }
            return e.getClass() == IndexOutOfBoundsException.class ? 2 : 3;
        }
    }

    void illegalArgument(String what, Runnable call) {
        due(what + " throws (1 IllegalArgumentException)", thrownBy(call), 1);
    }

    void outOfBounds(String what, Runnable call) {
        due(what + " throws (2 IndexOutOfBoundsException)", thrownBy(call), 2);
    }

    void end() {
        System.out.println(wrong == 0 ? "all answers are as due" : wrong + " answers are not as due");
        if (wrong != 0) {
            System.exit(1);
        }
    }
}

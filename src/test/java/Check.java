/** Counts and prints the answers that are not as due; shared by the tests of the project. */
final class Check {
    private final String name;
    private String subject = "";
    private int wrong;
    private int asked;

    Check(String name) {
        this.name = name;
    }

    /** What is asked next is about this; it is printed before each wrong answer. */
    void about(String text) {
        subject = text.isEmpty() ? "" : text + ": ";
    }

    void due(String call, long got, long want) {
        asked++;
        if (got != want) {
            wrong++;
            System.out.println(name + ": " + subject + call + " answered " + got + ", due is " + want);
        }
    }

    int wrong() {
        return wrong;
    }

    int asked() {
        return asked;
    }

    /** Ends the test: exit code 1 if an answer was wrong, or if nothing was asked. */
    void end() {
        System.out.println(name + ": " + asked + " answers, " + wrong + " not as due");
        if (wrong != 0 || asked == 0) {
            System.exit(1);
        }
    }
}

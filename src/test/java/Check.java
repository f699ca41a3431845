/** Counts the answers that are not as due, and prints each of them. */
final class Check {
    private final String title;
    private String heading = "";
    private String sentence = "";
    private int sentences;
    private int wrong;
    private int asked;

    Check(String title) {
        this.title = title;
    }

    /** What follows is of this heading of the document. */
    void of(String newHeading) {
        heading = newHeading;
    }

    /** One sentence of the document, and the test that fails if it is broken. */
    void holds(String words, Runnable test) {
        int before = asked;
        sentence = heading + ", \"" + words + "\": ";
        test.run();
        due("a test that asks nothing", asked > before, true);
        sentence = "";
        sentences++;
    }

    void due(String what, long got, long want) {
        asked++;
        if (got != want) {
            wrong++;
            System.out.println(title + ": " + sentence + what + " answered " + got + ", due is " + want);
        }
    }

    void due(String what, boolean got, boolean want) {
        due(what, got ? 1 : 0, want ? 1 : 0);
    }

    int wrong() {
        return wrong;
    }

    void end() {
        String of = sentences == 0 ? "" : " to " + sentences + " sentences";
        System.out.println(title + ": " + asked + " answers" + of + ", " + wrong + " not as due");
        if (wrong != 0) {
            System.exit(1);
        }
    }
}

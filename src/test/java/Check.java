/** Tells the answers that are not the due ones, and ends a test with exit code 1 if there were any. */
final class Check {
    private static final int MOST_LINES = 20;

    private final String name;
    private final Document document = new Document();
    private String about = "";
    private int wrong;
    private int looked;

    Check(String name) {
        this.name = name;
    }

    /** What the next answers are about. */
    void about(String what) {
        about = what;
    }

    /** The next answers are about a sentence, or a part of one: the section in which it stands, and its very words. */
    void sentence(String section, String words) {
        about(section + ": \"" + words + "\"");
        if (!document.holds(section, words)) {
            fail("the document does not say so");
        }
    }

    void due(String call, long got, long want) {
        looked++;
        if (got != want) {
            fail(call + " answered " + got + ", due is " + want);
        }
    }

    void due(String call, boolean got, boolean want) {
        due(call, got ? 1 : 0, want ? 1 : 0);
    }

    void fail(String text) {
        wrong++;
        if (wrong <= MOST_LINES) {
            System.out.println(name + ", " + about + ": " + text);
        }
    }

    boolean hasFailed() {
        return wrong > 0;
    }

    void end() {
        System.out.println(name + ": " + looked + " answers, " + wrong + " not as due");
        if (wrong > 0) {
            System.exit(1);
        }
    }
}

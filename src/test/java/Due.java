/** Counts the answers that are not as due, and tells of them. */
final class Due {
    private int asked = 0;
    private int wrong = 0;
    private int sentences = 0;
    private int askedAhead = 0;
    private String about = "";

    /** The document's words that the answers from here on are held against. */
    void sentence(String words) {
        endSentence();
        about = words;
        askedAhead = asked;
        sentences++;
    }

    private void endSentence() {
        if (sentences > 0 && asked == askedAhead) {
            wrong++;
            System.out.println("nothing was asked of: " + about);
        }
    }

    void is(String call, long want, long got) {
        asked++;
        if (want != got) {
            wrong++;
            if (wrong <= 40) {
                System.out.println(call + " answered " + got + ", due is " + want
                        + (about.isEmpty() ? "" : " [" + about + "]"));
            }
        }
    }

    void holds(String what, boolean so) {
        is(what, 1, so ? 1 : 0);
    }

    /** Ends the test: exit code 1 if an answer was wrong, or if nothing was asked. */
    void end(String name) {
        endSentence();
        System.out.println(name + ": " + asked + " asked" + (sentences > 0 ? " of " + sentences + " sentences" : "")
                + ", " + wrong + " wrong");
        if (wrong != 0 || asked == 0) {
            System.exit(1);
        }
    }
}

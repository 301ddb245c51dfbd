/** Counts the answers that are not as due, and tells of them. */
final class Due {
    private int asked = 0;
    private int wrong = 0;

    void is(String call, long want, long got) {
        asked++;
        if (want != got) {
            wrong++;
            if (wrong <= 40) {
                System.out.println(call + " answered " + got + ", due is " + want);
            }
        }
    }

    void holds(String what, boolean so) {
        is(what, 1, so ? 1 : 0);
    }

    /** Ends the test: exit code 1 if an answer was wrong, or if nothing was asked. */
    void end(String name) {
        System.out.println(name + ": " + asked + " asked, " + wrong + " wrong");
        if (wrong != 0 || asked == 0) {
            System.exit(1);
        }
    }
}

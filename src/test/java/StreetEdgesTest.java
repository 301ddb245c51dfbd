/** The edges that the document names: the street, gloves, promises 1 to 4 and 23, a sentence at a time. */
public final class StreetEdgesTest {
    private static final Due due = new Due();
    private static final int LEAST = Integer.MIN_VALUE;
    private static final int MOST = Integer.MAX_VALUE;

    private StreetEdgesTest() {
    }

    public static void main(String[] args) {
        calls();
        places();
        heights();
        sides();
        days();
        walkAtFirst();
        passes();
        glovesAtMost();
        kinds();
        numbers();
        asOneComes();
        noneAndNo();
        quotients();
        aNewObject();
        setWhatever();
        setWhatItWas();
        setBad();
        gloveRefused();
        toldAsOfSet();
        toldKindAndLasts();
        toldBad();
        countHowMany();
        countBad();
        due.end("StreetEdgesTest");
    }

    private static void calls() {
        due.sentence("An object is used for at most 512 calls after it has been made");
        OneGlove x = new OneGlove();
        x.glove(0, 0, 5);
        for (int call = 2; call <= 508; call++) {
            long where = call % 2 == 0 ? x.hang(0, 0) : x.walk(0, 0);
            due.is("call " + call, call % 2 == 0 ? 4 : 5050, where);
        }
        due.is("call 509", 30, x.day(0, 19, 1));
        due.is("call 510", 1, x.feed(32));
        due.is("call 511", 1, x.glove(0, 0, 5));
        due.is("call 512", 5050, x.walk(1, 0));
    }

    /** Set must take what is from least to most, and nothing else. */
    private static void takes(OneGlove x, int what, int most) {
        for (int v = 0; v <= most; v++) {
            x.set(what, 0, v);
            due.is("told(0, " + what + ") is " + v, v, x.told(0, what));
        }
        int[] others = {-1, most + 1, LEAST, MOST};
        for (int v : others) {
            due.is("set(" + what + ", 0, " + v + ")", -2, x.set(what, 0, v));
            due.is("told(0, " + what + ") then", most, x.told(0, what));
        }
    }

    private static void places() {
        due.sentence("PLACES 0 .. 19 in a row.");
        OneGlove x = new OneGlove();
        due.is("glove(0, 0, 0)", 0, x.glove(0, 0, 0));
        due.is("glove(0, 0, 19)", 1, x.glove(0, 0, 19));
        int[] none = {-1, 20, LEAST, MOST};
        for (int place : none) {
            due.is("glove(0, 0, " + place + ")", -2, x.glove(0, 0, place));
        }
        takes(x, 0, 19);
        takes(x, 1, 19);
        takes(x, 4, 19);
    }

    private static void heights() {
        due.sentence("HEIGHTS 0 .. 4.");
        OneGlove x = new OneGlove();
        x.glove(0, 0, 0);
        takes(x, 5, 4);
    }

    private static void sides() {
        due.sentence("SIDES 0, 1.");
        OneGlove x = new OneGlove();
        x.glove(0, 0, 0);
        takes(x, 2, 1);
        takes(x, 6, 1);
    }

    private static void days() {
        due.sentence("DAYS 0 .. 29.");
        OneGlove x = new OneGlove();
        x.glove(5, 0, 7);
        for (int day = 0; day < 30; day++) {
            due.is("day(0, " + day + ", 0)", 7, x.day(0, day, 0));
        }
        int[] none = {-1, 30, LEAST, MOST};
        for (int day : none) {
            for (int what = 0; what < 3; what++) {
                due.is("day(0, " + day + ", " + what + ")", -2, x.day(0, day, what));
            }
        }
    }

    private static void walkAtFirst() {
        due.sentence("HER WALK: FROM a PLACE TO a PLACE (0, 19 at first), on a SIDE (0 at first)");
        OneGlove x = new OneGlove();
        due.is("FROM at first", 0, x.told(0, 0));
        due.is("TO at first", 19, x.told(0, 1));
        due.is("her SIDE at first", 0, x.told(0, 2));
        due.is("set(0, 0, 5)", 0, x.set(0, 0, 5));
        due.is("set(1, 0, 5)", 19, x.set(1, 0, 5));
        due.is("set(2, 0, 1)", 0, x.set(2, 0, 1));
        x = new OneGlove();
        due.is("PLACES at first", 20, x.count(1));
        x.glove(0, 0, 0);
        x.glove(0, 0, 19);
        due.is("LIKELY on the first PLACE", 30, x.day(0, 0, 1));
        due.is("LIKELY on the last PLACE", 30, x.day(1, 0, 1));
    }

    /** How LIKELY she sees one on each PLACE, walking so. */
    private static void passesOn(int from, int to, int first, int last) {
        OneGlove x = new OneGlove();
        x.glove(0, 0, 0);
        x.set(0, 0, from);
        x.set(1, 0, to);
        String of = " from " + from + " to " + to;
        due.is("PLACES she passes" + of, last - first + 1, x.count(1));
        for (int place = 0; place < 20; place++) {
            x.set(4, 0, place);
            due.is("LIKELY on " + place + of, first <= place && place <= last ? 30 : 0, x.day(0, 0, 1));
        }
    }

    private static void passes() {
        due.sentence("she passes all from the one to the other");
        passesOn(0, 19, 0, 19);
        passesOn(19, 0, 0, 19);
        passesOn(3, 8, 3, 8);
        passesOn(8, 3, 3, 8);
        passesOn(0, 0, 0, 0);
        passesOn(7, 7, 7, 7);
        passesOn(19, 19, 19, 19);
        passesOn(18, 19, 18, 19);
        passesOn(1, 0, 0, 1);
    }

    private static void glovesAtMost() {
        due.sentence("GLOVES (6 at most, numbered from 0)");
        OneGlove x = new OneGlove();
        due.is("told(0, 3), none", -2, x.told(0, 3));
        for (int glove = 0; glove < 6; glove++) {
            due.is("told(" + glove + ", 3) ahead", -2, x.told(glove, 3));
            due.is("glove " + glove, glove, x.glove(0, glove, 0));
            due.is("told(" + glove + ", 3)", glove, x.told(glove, 3));
            due.is("GLOVES", glove + 1, x.count(0));
        }
        due.is("a seventh", -4, x.glove(0, 6, 0));
        due.is("GLOVES", 6, x.count(0));
        due.is("told(6, 3)", -2, x.told(6, 3));
        due.is("told(5, 3)", 5, x.told(5, 3));
    }

    private static void kinds() {
        due.sentence("have a KIND: 0 GLOVE, 1 GREY under GLOVE, 2 RED under GLOVE, 3 SMALL under GREY, "
                + "4 WOOLLY under RED, 5 LEATHER under GLOVE");
        OneGlove x = new OneGlove();
        int[] none = {-1, 6, LEAST, MOST};
        for (int kind : none) {
            due.is("glove(" + kind + ", 7, 0)", -2, x.glove(kind, 7, 0));
        }
        boolean[][] under = {
            {true, false, false, false, false, false},
            {true, true, false, false, false, false},
            {true, false, true, false, false, false},
            {true, true, false, true, false, false},
            {true, false, true, false, true, false},
            {true, false, false, false, false, true}};
        for (int kind = 0; kind < 6; kind++) {
            due.is("glove(" + kind + ", 7, 0)", kind, x.glove(kind, 7, 0));
            for (int k = 0; k < 6; k++) {
                due.is("taken(" + kind + ", " + k + ")", under[kind][k] ? 7 : -13, x.taken(kind, k));
            }
        }
    }

    private static void numbers() {
        due.sentence("a NUMBER (0 .. 9)");
        OneGlove x = new OneGlove();
        due.is("glove(0, 0, 0)", 0, x.glove(0, 0, 0));
        due.is("glove(0, 9, 0)", 1, x.glove(0, 9, 0));
        due.is("its NUMBER", 9, x.told(1, 3));
        int[] none = {-1, 10, LEAST, MOST};
        for (int number : none) {
            due.is("glove(0, " + number + ", 0)", -2, x.glove(0, number, 0));
        }
        takes(x, 3, 9);
    }

    private static void asOneComes() {
        due.sentence("at a HEIGHT (2 as one comes), on a SIDE (0 as one comes) on DAY 0");
        OneGlove x = new OneGlove();
        x.set(2, 0, 1);
        x.image();
        x.glove(0, 0, 0);
        x.set(5, 0, 4);
        x.set(6, 0, 1);
        due.is("HEIGHT of the next one", 1, x.glove(5, 9, 19));
        due.is("HEIGHT", 2, x.told(1, 5));
        due.is("SIDE", 0, x.told(1, 6));
        // One that comes where another has gone is no other than a first one.
        x.set(5, 1, 0);
        x.set(6, 1, 1);
        due.is("back()", 0, x.back());
        due.is("glove(1, 2, 3)", 0, x.glove(1, 2, 3));
        due.is("glove(4, 5, 6)", 1, x.glove(4, 5, 6));
        for (int glove = 0; glove < 2; glove++) {
            due.is("HEIGHT of " + glove, 2, x.told(glove, 5));
            due.is("SIDE of " + glove, 0, x.told(glove, 6));
        }
        due.is("LIKELY off her SIDE at HEIGHT 2", 7, x.day(0, 0, 1));
    }

    private static void noneAndNo() {
        due.sentence("NONE is -1; NO, where a long is answered, -4611686018427387904");
        OneGlove x = new OneGlove();
        due.is("NONE", -1, OneGlove.NONE);
        due.is("NO", -(1L << 62), OneGlove.NO);
        due.is("first(0, 0), no GLOVES", -1, x.first(0, 0));
        due.is("parts(0, 0), no GLOVES", -(1L << 62), x.parts(0, 0));
        due.sentence("BAD (-2: a number is none such or not as told), STATE (-3), FULL (-4); the host's: "
                + "-11 nothing where something is asked, -12 a place outside, -13 a thing of another sort or KIND, "
                + "-14 a size below 0");
        due.is("BAD", -2, OneGlove.BAD);
        due.is("STATE", -3, OneGlove.STATE);
        due.is("FULL", -4, OneGlove.FULL);
        due.is("a number is none such", -2, x.count(5));
        due.is("STATE", -3, x.back());
        due.is("nothing", -11, x.cell(0, 0, 0));
        due.is("a size below 0", -14, x.sheet(0, 0, -1));
        x.sheet(0, 0, 1);
        x.sheet(1, 1, 1);
        due.is("a place outside", -12, x.cell(0, 1, 0));
        due.is("another sort", -13, x.copy(0, 0, 1, 0, 1));
        x.glove(0, 0, 0);
        due.is("another KIND", -13, x.taken(0, 1));
        for (int i = 1; i < 6; i++) {
            x.glove(0, 0, 0);
        }
        due.is("FULL", -4, x.glove(0, 0, 0));
    }

    private static void quotients() {
        due.sentence("Quotients are cut toward 0.");
        OneGlove x = Told.under("shows 99; moves -3; minds 0;");
        x.glove(5, 0, 10);
        x.glove(1, 0, 10);
        due.is("half of -3 to move", 9, x.day(0, 1, 0));
        due.is("half of 99", 49, x.day(1, 0, 1));
        x.set(6, 1, 1);
        due.is("half of half of 99", 24, x.day(1, 0, 1));
        x = Told.under("shows 99; moves -1; minds 0;");
        x.glove(5, 0, 10);
        due.is("half of -1 to move", 10, x.day(0, 29, 0));
    }

    private static void aNewObject() {
        due.sentence("No GLOVES.");
        OneGlove x = new OneGlove();
        due.is("GLOVES", 0, x.count(0));
        due.is("told(0, 7)", -2, x.told(0, 7));
        due.is("day(0, 0, 0)", -2, x.day(0, 0, 0));
        due.is("first(30, 0)", -1, x.first(30, 0));
        x.glove(0, 0, 0);
        due.is("another object's", 0, new OneGlove().count(0));
    }

    private static void setWhatever() {
        due.sentence("FROM (what 0; of does not matter), TO (1), her SIDE (2; nor)");
        int[] any = {0, -1, 1, 5, 6, 99, LEAST, MOST};
        for (int of : any) {
            OneGlove x = new OneGlove();
            due.is("set(0, " + of + ", 4), no GLOVES", 0, x.set(0, of, 4));
            due.is("set(1, " + of + ", 6), no GLOVES", 19, x.set(1, of, 6));
            due.is("set(2, " + of + ", 1), no GLOVES", 0, x.set(2, of, 1));
            due.is("FROM", 4, x.told(of, 0));
            due.is("TO", 6, x.told(of, 1));
            due.is("her SIDE", 1, x.told(of, 2));
        }
    }

    private static void setWhatItWas() {
        due.sentence("NUMBER (3), PLACE (4), HEIGHT (5), SIDE (6) of a GLOVE becomes v: what it was.");
        OneGlove x = new OneGlove();
        for (int glove = 0; glove < 6; glove++) {
            x.glove(glove, 9, 19);
        }
        int[] was = {9, 19, 2, 0};
        int[] next = {4, 3, 2, 1};
        for (int what = 3; what < 7; what++) {
            // The last one of them, and none of the others.
            due.is("set(" + what + ", 5, next)", was[what - 3], x.set(what, 5, next[what - 3]));
            due.is("told(5, " + what + ")", next[what - 3], x.told(5, what));
            due.is("set(" + what + ", 5, the same)", next[what - 3], x.set(what, 5, next[what - 3]));
            for (int glove = 0; glove < 5; glove++) {
                due.is("told(" + glove + ", " + what + ")", was[what - 3], x.told(glove, what));
            }
            due.is("set(" + what + ", 0, 0)", was[what - 3], x.set(what, 0, 0));
            due.is("told(5, " + what + ")", next[what - 3], x.told(5, what));
        }
        due.is("its KIND is as it was", 5, x.told(5, 7));
    }

    private static void setBad() {
        due.sentence("becomes v: what it was. BAD.");
        OneGlove x = new OneGlove();
        x.glove(0, 0, 0);
        int[] none = {-1, 7, 8, LEAST, MOST};
        for (int what : none) {
            due.is("set(" + what + ", 0, 0)", -2, x.set(what, 0, 0));
        }
        int[] noGlove = {-1, 1, 5, 6, LEAST, MOST};
        for (int what = 3; what < 7; what++) {
            for (int of : noGlove) {
                due.is("set(" + what + ", " + of + ", 0)", -2, x.set(what, of, 0));
            }
        }
        int[] above = {20, 20, 2, 10, 20, 5, 2};
        for (int what = 0; what < 7; what++) {
            due.is("set(" + what + ", 0, -1)", -2, x.set(what, 0, -1));
            due.is("set(" + what + ", 0, above)", -2, x.set(what, 0, above[what]));
        }
    }

    private static void gloveRefused() {
        due.sentence("A GLOVE: its number. BAD; FULL.");
        OneGlove x = new OneGlove();
        int[][] bad = {{-1, 0, 0}, {6, 0, 0}, {0, -1, 0}, {0, 10, 0}, {0, 0, -1}, {0, 0, 20}};
        for (int round = 0; round < 2; round++) {
            for (int[] a : bad) {
                String call = "glove(" + a[0] + ", " + a[1] + ", " + a[2] + ")";
                due.is(call + (round == 0 ? "" : ", FULL"), -2, x.glove(a[0], a[1], a[2]));
            }
            for (int glove = x.count(0); glove < 6; glove++) {
                due.is("glove(5, 9, 19)", glove, x.glove(5, 9, 19));
            }
            due.is("glove(5, 9, 19), FULL", -4, x.glove(5, 9, 19));
        }
    }

    private static void toldAsOfSet() {
        due.sentence("What 0 .. 6 as of set()");
        int[] any = {0, -1, 1, 6, LEAST, MOST};
        OneGlove x = new OneGlove();
        for (int of : any) {
            due.is("told(" + of + ", 0), no GLOVES", 0, x.told(of, 0));
            due.is("told(" + of + ", 1), no GLOVES", 19, x.told(of, 1));
            due.is("told(" + of + ", 2), no GLOVES", 0, x.told(of, 2));
        }
        for (int glove = 0; glove < 6; glove++) {
            x.glove(glove, 9 - glove, 10 + glove);
            x.set(5, glove, glove % 5);
            x.set(6, glove, glove % 2);
        }
        for (int glove = 0; glove < 6; glove++) {
            due.is("NUMBER of " + glove, 9 - glove, x.told(glove, 3));
            due.is("PLACE of " + glove, 10 + glove, x.told(glove, 4));
            due.is("HEIGHT of " + glove, glove % 5, x.told(glove, 5));
            due.is("SIDE of " + glove, glove % 2, x.told(glove, 6));
        }
    }

    private static void toldKindAndLasts() {
        due.sentence("7 KIND, 8 LASTS of a GLOVE");
        OneGlove x = new OneGlove();
        int[] lasts = {20, 29, 20, 29, 10, 30};
        for (int kind = 0; kind < 6; kind++) {
            x.glove(kind, 9, 0);
            due.is("told(" + kind + ", 7)", kind, x.told(kind, 7));
            due.is("told(" + kind + ", 8)", lasts[kind], x.told(kind, 8));
        }
    }

    private static void toldBad() {
        due.sentence("8 LASTS of a GLOVE. BAD.");
        OneGlove x = new OneGlove();
        x.glove(0, 0, 0);
        int[] none = {-1, 9, LEAST, MOST};
        for (int what : none) {
            due.is("told(0, " + what + ")", -2, x.told(0, what));
        }
        int[] noGlove = {-1, 1, 5, 6, LEAST, MOST};
        for (int what = 3; what < 9; what++) {
            for (int of : noGlove) {
                due.is("told(" + of + ", " + what + ")", -2, x.told(of, what));
            }
        }
    }

    private static void countHowMany() {
        due.sentence("How many: 0 GLOVES, 1 PLACES she passes, 2 TEXTS, 3 bytes of THE TAPE, 4 THE RULE.");
        OneGlove x = new OneGlove();
        int[] atFirst = {0, 20, 1, 0, 0};
        for (int what = 0; what < 5; what++) {
            due.is("count(" + what + ") at first", atFirst[what], x.count(what));
        }
        for (int text = 1; text < 6; text++) {
            Told.text(x, "shows 0;moves 0;minds 0;");
            x.glove(0, 0, 0);
        }
        x.glove(0, 0, 0);
        x.force(5);
        x.set(0, 0, 12);
        x.set(1, 0, 12);
        for (int i = 0; i < 160; i++) {
            x.feed(0);
        }
        int[] atLast = {6, 1, 6, 160, 5};
        for (int what = 0; what < 5; what++) {
            due.is("count(" + what + ") at last", atLast[what], x.count(what));
        }
        x.set(1, 0, 0);
        due.is("count(1) leftward", 13, x.count(1));
    }

    private static void countBad() {
        due.sentence("4 THE RULE. BAD.");
        OneGlove x = new OneGlove();
        int[] none = {-1, 5, LEAST, MOST};
        for (int what : none) {
            due.is("count(" + what + ")", -2, x.count(what));
        }
    }
}

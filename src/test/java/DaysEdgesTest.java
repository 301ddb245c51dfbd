/** The edges that the document names: day by day, promises 8 to 11, a sentence at a time. */
public final class DaysEdgesTest {
    private static final Due due = new Due();
    private static final int LEAST = Integer.MIN_VALUE;
    private static final int MOST = Integer.MAX_VALUE;
    private static final int GLOVE = 0, GREY = 1, RED = 2, SMALL = 3, WOOLLY = 4, LEATHER = 5;

    private DaysEdgesTest() {
    }

    public static void main(String[] args) {
        showsOfGlove();
        showsOfGrey();
        showsOfRed();
        showsOfSmall();
        showsOfWoolly();
        showsOfLeather();
        showsInTheEnd();
        movesOfEach();
        lastsOfEach();
        onDay0();
        moved();
        gone();
        likely();
        foundBy();
        eachByItself();
        partsBy();
        cutEachTime();
        waitingDays();
        notGone();
        leftAtFirst();
        leftIsCut();
        dayAnswers();
        dayBad();
        foundLowest();
        foundNo();
        partsNo();
        waitingNo();
        due.end("DaysEdgesTest");
    }

    /** Under shows v, of this KIND, with this NUMBER: how LIKELY on her SIDE, and off it. */
    private static void shows(int kind, int number, int v, int onHers, int offHers) {
        OneGlove x = Told.under("shows " + v + "; moves 0; minds 0;");
        x.glove(kind, number, 9);
        for (int side = 0; side < 2; side++) {
            String of = "KIND " + kind + ", NUMBER " + number + ", shows " + v + ", her SIDE " + side;
            x.set(2, 0, side);
            x.set(6, 0, side);
            due.is("on her SIDE: " + of, onHers, x.day(0, 0, 1));
            x.set(6, 0, 1 - side);
            due.is("off her SIDE: " + of, offHers, x.day(0, 0, 1));
        }
    }

    private static void showsOfGlove() {
        due.sentence("GLOVE: v, if it is on her SIDE, else half (cut)");
        shows(GLOVE, 9, 0, 0, 0);
        shows(GLOVE, 9, 1, 1, 0);
        shows(GLOVE, 9, 2, 2, 1);
        shows(GLOVE, 9, 99, 99, 49);
        shows(GLOVE, 9, 100, 100, 50);
    }

    private static void showsOfGrey() {
        due.sentence("GREY: half (cut) of a GLOVE's");
        shows(GREY, 9, 0, 0, 0);
        shows(GREY, 9, 1, 0, 0);
        shows(GREY, 9, 3, 1, 0);
        shows(GREY, 9, 99, 49, 24);
        shows(GREY, 9, 100, 50, 25);
    }

    private static void showsOfRed() {
        due.sentence("RED: 20 more than a GLOVE");
        shows(RED, 9, 0, 20, 20);
        shows(RED, 9, 1, 21, 20);
        shows(RED, 9, 79, 99, 59);
        shows(RED, 9, 80, 100, 60);
        shows(RED, 9, 81, 100, 60);
        shows(RED, 9, 100, 100, 70);
    }

    private static void showsOfSmall() {
        due.sentence("SMALL: NUMBER less than a GREY");
        shows(SMALL, 0, 100, 50, 25);
        shows(SMALL, 1, 100, 49, 24);
        shows(SMALL, 9, 100, 41, 16);
        shows(SMALL, 9, 39, 10, 0);
        shows(SMALL, 9, 18, 0, 0);
        shows(SMALL, 9, 20, 1, 0);
        shows(SMALL, 0, 0, 0, 0);
        shows(SMALL, 9, 0, 0, 0);
    }

    private static void showsOfWoolly() {
        due.sentence("WOOLLY: as a RED");
        shows(WOOLLY, 9, 0, 20, 20);
        shows(WOOLLY, 9, 51, 71, 45);
        shows(WOOLLY, 9, 80, 100, 60);
        shows(WOOLLY, 9, 100, 100, 70);
    }

    private static void showsOfLeather() {
        due.sentence("LEATHER: NUMBER more than a GLOVE.");
        shows(LEATHER, 0, 0, 0, 0);
        shows(LEATHER, 9, 0, 9, 9);
        shows(LEATHER, 9, 51, 60, 34);
        shows(LEATHER, 9, 91, 100, 54);
        shows(LEATHER, 9, 92, 100, 55);
        shows(LEATHER, 0, 100, 100, 50);
    }

    private static void showsInTheEnd() {
        due.sentence("(SHOWS 0 .. 100, else the bound, in the end.)");
        shows(RED, 0, 100, 100, 70);
        shows(WOOLLY, 0, 90, 100, 65);
        shows(LEATHER, 1, 100, 100, 51);
        shows(LEATHER, 9, 100, 100, 59);
        shows(SMALL, 9, 1, 0, 0);
        shows(SMALL, 1, 1, 0, 0);
        OneGlove x = Told.under("shows 100; moves 0; minds 1;");
        x.glove(RED, 0, 0);
        due.is("PARTS of no more than all", 1000000000, x.parts(0, 1));
        due.is("WAITING of no less than nothing", 1000000, x.waiting(0, 30));
        due.is("FOUND of no more than all", 1, x.found(0, 3, 0));
    }

    /** What of each KIND a GLOVE on PLACE 10 moves by on a DAY. */
    private static void moves(int v, int... by) {
        OneGlove x = Told.under("shows 0; moves " + v + "; minds 0;");
        for (int kind = 0; kind < 6; kind++) {
            x.glove(kind, 9, 10);
            int place = Math.max(0, Math.min(19, 10 + by[kind]));
            due.is("KIND " + kind + ", moves " + v, place, x.day(kind, 1, 0));
        }
    }

    private static void movesOfEach() {
        due.sentence("MOVES (moves telling v): GLOVE: v; GREY: as a GLOVE; RED: twice a GLOVE's; "
                + "SMALL: 1 more than a GREY; WOOLLY: 1 less than a RED; LEATHER: half (cut) of a GLOVE's.");
        moves(0, 0, 0, 0, 1, -1, 0);
        moves(1, 1, 1, 2, 2, 1, 0);
        moves(-1, -1, -1, -2, 0, -3, 0);
        moves(2, 2, 2, 4, 3, 3, 1);
        moves(3, 3, 3, 6, 4, 5, 1);
        moves(-2, -2, -2, -4, -1, -5, -1);
        moves(-3, -3, -3, -6, -2, -7, -1);
        moves(5, 5, 5, 10, 6, 9, 2);
        moves(19, 19, 19, 38, 20, 37, 9);
        moves(-19, -19, -19, -38, -18, -39, -9);
    }

    private static void lasts(int kind, int number, int day) {
        OneGlove x = Told.under("shows 100; moves 0; minds 1;");
        x.glove(kind, 0, 10);
        x.set(3, 0, number);
        String of = " of KIND " + kind + ", NUMBER " + number;
        due.is("LASTS" + of, day, x.told(0, 8));
        due.holds("there on the DAY ahead" + of, x.day(0, day - 1, 0) >= 0);
        due.holds("LIKELY on the DAY ahead" + of, x.day(0, day - 1, 1) > 0);
        for (int later = day; later < 30; later++) {
            due.is("WHERE on DAY " + later + of, -1, x.day(0, later, 0));
            due.is("LIKELY on DAY " + later + of, 0, x.day(0, later, 1));
        }
    }

    private static void lastsOfEach() {
        due.sentence("LASTS (the DAY on which it is gone): GLOVE: 20; GREY: NUMBER more than a GLOVE; "
                + "RED: as a GLOVE; SMALL: as a GREY; WOOLLY: half (cut) of a RED's; LEATHER: 10 more than a GLOVE.");
        for (int number = 0; number < 10; number++) {
            lasts(GLOVE, number, 20);
            lasts(GREY, number, 20 + number);
            lasts(RED, number, 20);
            lasts(SMALL, number, 20 + number);
            lasts(WOOLLY, number, 10);
            lasts(LEATHER, number, 30);
        }
    }

    private static void onDay0() {
        due.sentence("WHERE a GLOVE is on a DAY: on DAY 0 on its PLACE");
        OneGlove x = Told.under("shows 0; moves 19 - place * 2; minds 0;");
        for (int kind = 0; kind < 6; kind++) {
            x.glove(kind, 0, 0);
            for (int place = 0; place < 20; place++) {
                x.set(4, kind, place);
                due.is("WHERE, KIND " + kind, place, x.day(kind, 0, 0));
            }
        }
    }

    private static void moved() {
        due.sentence("on each next one it has MOVED by what it MOVES on the DAY ahead (0 .. 19, else the bound)");
        // By the DAY ahead, not by the DAY itself.
        OneGlove x = Told.under("shows 0; moves (day = 0) + 2 * (day = 1) + 3 * (day = 28); minds 0;");
        x.glove(LEATHER, 0, 4);
        x.glove(GLOVE, 0, 4);
        x.glove(RED, 0, 4);
        due.is("DAY 1", 5, x.day(1, 1, 0));
        due.is("DAY 2", 7, x.day(1, 2, 0));
        due.is("DAY 19", 7, x.day(1, 19, 0));
        due.is("half of it: DAY 1", 4, x.day(0, 1, 0));
        due.is("half of it: DAY 28", 5, x.day(0, 28, 0));
        due.is("half of it: DAY 29", 6, x.day(0, 29, 0));
        due.is("twice: DAY 2", 10, x.day(2, 2, 0));
        // By the PLACE ahead.
        x = Told.under("shows 0; moves place; minds 0;");
        x.glove(GLOVE, 0, 1);
        int[] doubled = {1, 2, 4, 8, 16, 19, 19};
        for (int day = 0; day < doubled.length; day++) {
            due.is("twice the PLACE, DAY " + day, doubled[day], x.day(0, day, 0));
        }
        // At the bound it is on the last PLACE: it goes on from there.
        x = Told.under("shows 0; moves 15 - 16 * (0 < day); minds 0;");
        x.glove(GLOVE, 0, 10);
        due.is("at the right bound", 19, x.day(0, 1, 0));
        due.is("and on from it", 18, x.day(0, 2, 0));
        x = Told.under("shows 0; moves 16 * (0 < day) - 15; minds 0;");
        x.glove(GLOVE, 0, 10);
        due.is("at the left bound", 0, x.day(0, 1, 0));
        due.is("and on from it", 1, x.day(0, 2, 0));
        // To the very last PLACE, and to the very first, there is no bound in it.
        x = Told.under("shows 0; moves 19 - 38 * (day = 1); minds 0;");
        x.glove(GLOVE, 0, 0);
        due.is("from the first to the last", 19, x.day(0, 1, 0));
        due.is("and back", 0, x.day(0, 2, 0));
    }

    private static void gone() {
        due.sentence("from the DAY LASTS on it is gone (NONE).");
        OneGlove x = Told.under("shows 9; moves 1; minds 7;");
        int[] lasts = {20, 29, 20, 29, 10, 30};
        for (int kind = 0; kind < 6; kind++) {
            x.glove(kind, 9, 0);
            for (int day = 0; day < 30; day++) {
                String of = ", KIND " + kind + ", DAY " + day;
                due.holds("WHERE" + of, (x.day(kind, day, 0) == -1) == (day >= lasts[kind]));
                due.is("minds" + of, day < lasts[kind] ? 7 : 0, x.day(kind, day, 2));
            }
        }
    }

    private static void likely() {
        due.sentence("LIKELY on a DAY (of 100): what it SHOWS, if it isn't gone, and is on a PLACE that she passes; "
                + "else 0.");
        OneGlove x = Told.under("shows 35; moves 1; minds 0;");
        x.glove(RED, 0, 0);
        x.set(0, 0, 6);
        x.set(1, 0, 11);
        // RED moves by 2: on 6, 8, 10 on DAYS 3, 4, 5, on the last PLACE from DAY 10 on.
        for (int day = 0; day < 30; day++) {
            due.is("LIKELY on DAY " + day, day >= 3 && day <= 5 ? 55 : 0, x.day(0, day, 1));
        }
        x.set(0, 0, 19);
        x.set(1, 0, 19);
        for (int day = 0; day < 30; day++) {
            due.is("LIKELY at the end of the street on DAY " + day, day >= 10 && day < 20 ? 55 : 0, x.day(0, day, 1));
        }
    }

    private static void foundIs(OneGlove x, int n, long above, long below) {
        due.is("found(0, " + n + ", 0)", above, x.found(0, n, 0));
        due.is("found(0, " + n + ", 1)", below, x.found(0, n, 1));
    }

    /** The same, told by a fraction that is not in lowest terms yet. */
    private static void foundIs(OneGlove x, int n, long above, long below, long divisor) {
        foundIs(x, n, above / divisor, below / divisor);
    }

    private static void foundBy() {
        due.sentence("FOUND by n DAYS (0 .. 8)");
        OneGlove x = Told.under("shows 10 * (day = 0) + 100 * (day = 7); moves 0; minds 0;");
        x.glove(GLOVE, 0, 0);
        foundIs(x, 0, 0, 1);
        foundIs(x, 1, 1, 10);
        foundIs(x, 7, 1, 10);
        foundIs(x, 8, 1, 1);
        int[] none = {-1, 9, 30, LEAST, MOST};
        for (int n : none) {
            foundIs(x, n, Told.NO, Told.NO);
        }
    }

    private static void eachByItself() {
        due.sentence("how likely she sees it on any of DAYS 0 .. n less 1, each by itself");
        OneGlove x = Told.under("shows 50; moves 0; minds 0;");
        x.glove(GLOVE, 0, 0);
        for (int n = 0; n <= 8; n++) {
            foundIs(x, n, (1L << n) - 1, 1L << n);
        }
        // 9, 8, 7, .. 2 of 10 are left: of 10000000 there are 36288 after eight DAYS.
        x = Told.under("shows (day + 1) * 10; moves 0; minds 0;");
        x.glove(GLOVE, 0, 0);
        foundIs(x, 2, 28, 100, 4);
        foundIs(x, 3, 496, 1000, 8);
        foundIs(x, 8, 9963712, 10000000, 64);
        // The dearest of them: nothing in it can be cut down.
        x = Told.under("shows 97; moves 0; minds 0;");
        x.glove(GLOVE, 0, 0);
        foundIs(x, 8, 10000000000000000L - 6561, 10000000000000000L);
        x = Told.under("shows 1; moves 0; minds 0;");
        x.glove(GLOVE, 0, 0);
        foundIs(x, 8, 10000000000000000L - 9227446944279201L, 10000000000000000L);
    }

    private static void partsBy() {
        due.sentence("PARTS by n DAYS (0 .. 30)");
        OneGlove x = Told.under("shows 10 * (day = 0) + 50 * (day = 29); moves 0; minds 0;");
        x.glove(LEATHER, 0, 0);
        due.is("parts(0, 0)", 0, x.parts(0, 0));
        due.is("parts(0, 1)", 100000000, x.parts(0, 1));
        due.is("parts(0, 29)", 100000000, x.parts(0, 29));
        due.is("parts(0, 30)", 550000000, x.parts(0, 30));
        int[] none = {-1, 31, LEAST, MOST};
        for (int n : none) {
            due.is("parts(0, " + n + ")", Told.NO, x.parts(0, n));
        }
        x = Told.under("shows 100; moves 0; minds 0;");
        x.glove(LEATHER, 0, 0);
        due.is("surely, by none", 0, x.parts(0, 0));
        due.is("surely, by one", 1000000000, x.parts(0, 1));
        due.is("surely, by all", 1000000000, x.parts(0, 30));
    }

    private static void cutEachTime() {
        due.sentence("1000000000 less (1000000000, of each DAY 0 .. n less 1 times (100 less LIKELY) by 100, "
                + "cut each time)");
        OneGlove x = Told.under("shows 99; moves 0; minds 0;");
        x.glove(GLOVE, 0, 0);
        long[] want = {0, 990000000, 999900000, 999999000, 999999990, 1000000000, 1000000000};
        for (int n = 0; n < want.length; n++) {
            due.is("99 of 100, parts(0, " + n + ")", want[n], x.parts(0, n));
        }
        x = Told.under("shows 67; moves 0; minds 0;");
        x.glove(GLOVE, 0, 0);
        // 33 of 100 are left: 330000000, 108900000, 35937000, 11859210, 3913539 (.3), 1291467 (.87), 426184 (.11)
        long[] left = {1000000000, 330000000, 108900000, 35937000, 11859210, 3913539, 1291467, 426184};
        for (int n = 0; n < left.length; n++) {
            due.is("67 of 100, parts(0, " + n + ")", 1000000000 - left[n], x.parts(0, n));
        }
    }

    private static void waitingDays() {
        due.sentence("WAITING (n DAYS, 0 .. 30)");
        OneGlove x = Told.under("shows 0; moves 0; minds (day = 0) * 5 + (day = 29) * 7;");
        x.glove(LEATHER, 0, 0);
        due.is("waiting(0, 0)", 0, x.waiting(0, 0));
        due.is("waiting(0, 1)", 5000000, x.waiting(0, 1));
        due.is("waiting(0, 29)", 5000000, x.waiting(0, 29));
        due.is("waiting(0, 30)", 12000000, x.waiting(0, 30));
        int[] none = {-1, 31, LEAST, MOST};
        for (int n : none) {
            due.is("waiting(0, " + n + ")", Told.NO, x.waiting(0, n));
        }
        // The most that can come of it is more than an int holds.
        x = Told.under("shows 0; moves 0; minds 99;");
        x.glove(LEATHER, 0, 0);
        due.is("waiting(0, 30), the most", 2970000000L, x.waiting(0, 30));
    }

    private static void notGone() {
        due.sentence("of each DAY 0 .. n less 1 on which it isn't gone minds times LEFT, together");
        OneGlove x = Told.under("shows 0; moves 0; minds 3;");
        int[] lasts = {20, 29, 20, 29, 10, 30};
        for (int kind = 0; kind < 6; kind++) {
            x.glove(kind, 9, 0);
            x.set(0, 0, 19);
            long days = lasts[kind];
            due.is("KIND " + kind + " by its last DAY", 3000000 * days, x.waiting(kind, lasts[kind]));
            due.is("KIND " + kind + " by 30 DAYS", 3000000 * days, x.waiting(kind, 30));
            due.is("KIND " + kind + " a DAY ahead", 3000000 * (days - 1), x.waiting(kind, lasts[kind] - 1));
        }
    }

    private static void leftAtFirst() {
        due.sentence("LEFT is 1000000 on DAY 0, on each next one that of the DAY ahead times (100 less LIKELY on that) "
                + "by 100 (cut)");
        OneGlove x = Told.under("shows 100; moves 0; minds 2;");
        x.glove(GLOVE, 0, 0);
        due.is("seen on DAY 0: waiting(0, 1)", 2000000, x.waiting(0, 1));
        due.is("seen on DAY 0: waiting(0, 30)", 2000000, x.waiting(0, 30));
        x = Told.under("shows 50 * (day = 0) + 100 * (day = 2); moves 0; minds 2;");
        x.glove(GLOVE, 0, 0);
        due.is("waiting(0, 1)", 2000000, x.waiting(0, 1));
        due.is("waiting(0, 2)", 3000000, x.waiting(0, 2));
        due.is("waiting(0, 3)", 4000000, x.waiting(0, 3));
        due.is("waiting(0, 4)", 4000000, x.waiting(0, 4));
        // On a DAY without minds LEFT goes on.
        x = Told.under("shows 50; moves 0; minds (day = 2) * 8;");
        x.glove(GLOVE, 0, 0);
        due.is("waiting(0, 3)", 2000000, x.waiting(0, 3));
    }

    private static void leftIsCut() {
        due.sentence("times (100 less LIKELY on that) by 100 (cut)");
        OneGlove x = Told.under("shows 99; moves 0; minds 1;");
        x.glove(GLOVE, 0, 0);
        long[] together = {0, 1000000, 1010000, 1010100, 1010101, 1010101};
        for (int n = 0; n < together.length; n++) {
            due.is("99 of 100, waiting(0, " + n + ")", together[n], x.waiting(0, n));
        }
        x = Told.under("shows 67; moves 0; minds 99 * (day = 5);");
        x.glove(GLOVE, 0, 0);
        // 330000, 108900, 35937, 11859 (.21), 3913 (.47)
        due.is("67 of 100, waiting(0, 6)", 99 * 3913, x.waiting(0, 6));
    }

    private static void dayAnswers() {
        due.sentence("On a DAY: WHERE (what 0; NONE), LIKELY (1), minds (2; 0: it is gone).");
        OneGlove x = Told.under("shows 30 + day; moves 1; minds 50 + day;");
        x.glove(WOOLLY, 0, 3);
        // WOOLLY: 1 a DAY to the right, 20 more, gone on DAY 10.
        for (int day = 0; day < 30; day++) {
            boolean there = day < 10;
            due.is("day(0, " + day + ", 0)", there ? 3 + day : -1, x.day(0, day, 0));
            due.is("day(0, " + day + ", 1)", there ? 50 + day : 0, x.day(0, day, 1));
            due.is("day(0, " + day + ", 2)", there ? 50 + day : 0, x.day(0, day, 2));
        }
        // Where she does not pass it is bad to be without it, too.
        x.set(0, 0, 19);
        due.is("LIKELY where she does not pass", 0, x.day(0, 0, 1));
        due.is("minds where she does not pass", 50, x.day(0, 0, 2));
        due.is("WHERE she does not pass", 3, x.day(0, 0, 0));
    }

    private static void dayBad() {
        due.sentence("minds (2; 0: it is gone). BAD.");
        OneGlove x = new OneGlove();
        due.is("day(0, 0, 0), no GLOVES", -2, x.day(0, 0, 0));
        x.glove(5, 0, 0);
        int[][] bad = {{-1, 0, 0}, {1, 0, 0}, {6, 0, 0}, {LEAST, 0, 0}, {MOST, 0, 0}, {0, -1, 0}, {0, 30, 0},
            {0, LEAST, 0}, {0, MOST, 0}, {0, 0, -1}, {0, 0, 3}, {0, 0, LEAST}, {0, 0, MOST}};
        for (int[] a : bad) {
            due.is("day(" + a[0] + ", " + a[1] + ", " + a[2] + ")", -2, x.day(a[0], a[1], a[2]));
        }
    }

    private static void foundLowest() {
        due.sentence("FOUND: part 0 above, 1 below the line, in lowest terms.");
        int[][] want = {{0, 0, 1}, {1, 1, 100}, {2, 1, 50}, {25, 1, 4}, {50, 1, 2}, {75, 3, 4}, {99, 99, 100},
            {100, 1, 1}};
        for (int[] a : want) {
            OneGlove x = Told.under("shows " + a[0] + "; moves 0; minds 0;");
            x.glove(GLOVE, 0, 0);
            foundIs(x, 1, a[1], a[2]);
        }
        OneGlove x = Told.under("shows 0; moves 0; minds 0;");
        x.glove(GLOVE, 0, 0);
        foundIs(x, 8, 0, 1);
        x = Told.under("shows 100; moves 0; minds 0;");
        x.glove(GLOVE, 0, 0);
        foundIs(x, 0, 0, 1);
        foundIs(x, 8, 1, 1);
        x = Told.under("shows 20; moves 0; minds 0;");
        x.glove(GLOVE, 0, 0);
        // 1 less (4 by 5) to the third
        foundIs(x, 3, 61, 125);
    }

    private static void foundNo() {
        due.sentence("in lowest terms. NO: no such GLOVE, n, part.");
        OneGlove x = new OneGlove();
        due.is("found(0, 0, 0), no GLOVES", Told.NO, x.found(0, 0, 0));
        x.glove(0, 0, 0);
        int[][] none = {{-1, 0, 0}, {1, 0, 0}, {6, 0, 1}, {LEAST, 0, 0}, {MOST, 0, 0}, {0, -1, 0}, {0, 9, 1},
            {0, LEAST, 0}, {0, MOST, 0}, {0, 0, -1}, {0, 0, 2}, {0, 0, LEAST}, {0, 0, MOST}};
        for (int[] a : none) {
            due.is("found(" + a[0] + ", " + a[1] + ", " + a[2] + ")", Told.NO, x.found(a[0], a[1], a[2]));
        }
    }

    private static void partsNo() {
        due.sentence("PARTS. NO: no such GLOVE, n.");
        OneGlove x = new OneGlove();
        due.is("parts(0, 0), no GLOVES", Told.NO, x.parts(0, 0));
        x.glove(0, 0, 0);
        int[][] none = {{-1, 0}, {1, 0}, {6, 30}, {LEAST, 0}, {MOST, 0}, {0, -1}, {0, 31}, {0, LEAST}, {0, MOST}};
        for (int[] a : none) {
            due.is("parts(" + a[0] + ", " + a[1] + ")", Told.NO, x.parts(a[0], a[1]));
        }
    }

    private static void waitingNo() {
        due.sentence("WAITING. NO: no such GLOVE, n.");
        OneGlove x = new OneGlove();
        due.is("waiting(0, 0), no GLOVES", Told.NO, x.waiting(0, 0));
        x.glove(0, 0, 0);
        int[][] none = {{-1, 0}, {1, 0}, {6, 30}, {LEAST, 0}, {MOST, 0}, {0, -1}, {0, 31}, {0, LEAST}, {0, MOST}};
        for (int[] a : none) {
            due.is("waiting(" + a[0] + ", " + a[1] + ")", Told.NO, x.waiting(a[0], a[1]));
        }
    }
}

/** Promises 8 to 11: day, found, parts, waiting; what the KINDS make of the texts. */
public final class DaysTest {
    private static final Due due = new Due();

    private DaysTest() {
    }

    public static void main(String[] args) {
        promise8Where();
        promise8Shows();
        promise8Gone();
        promise8Walk();
        promise8Refused();
        promise9();
        promise9Refused();
        promise10();
        promise11();
        due.end("DaysTest");
    }

    /** A GLOVE of each KIND, with this NUMBER, at this PLACE. */
    private static OneGlove oneOfEach(String rule, int number, int place) {
        OneGlove x = Told.under(rule);
        for (int kind = 0; kind < 6; kind++) {
            x.glove(kind, number, place);
        }
        return x;
    }

    private static void promise8Where() {
        OneGlove x = oneOfEach("shows 1; moves 3; minds 0;", 5, 4);
        int[] moved = {3, 3, 6, 4, 5, 1};
        for (int kind = 0; kind < 6; kind++) {
            due.is("DAY 0 of KIND " + kind, 4, x.day(kind, 0, 0));
            due.is("DAY 1 of KIND " + kind, 4 + moved[kind], x.day(kind, 1, 0));
            due.is("DAY 2 of KIND " + kind, 4 + 2 * moved[kind], x.day(kind, 2, 0));
            due.is("DAY 9 of KIND " + kind, Math.min(19, 4 + 9 * moved[kind]), x.day(kind, 9, 0));
        }
        x = oneOfEach("shows 1; moves -3; minds 0;", 5, 19);
        int[] back = {-3, -3, -6, -2, -7, -1};
        for (int kind = 0; kind < 6; kind++) {
            due.is("DAY 1 of KIND " + kind, 19 + back[kind], x.day(kind, 1, 0));
            due.is("DAY 9 of KIND " + kind, Math.max(0, 19 + 9 * back[kind]), x.day(kind, 9, 0));
        }
        // By the DAY ahead, and where it was on that.
        x = Told.under("shows 1; moves (day < 2) - (4 < day) * place; minds 0;");
        x.glove(0, 0, 7);
        int[] want = {7, 8, 9, 9, 9, 9, 0, 0};
        for (int day = 0; day < want.length; day++) {
            due.is("WHERE on DAY " + day, want[day], x.day(0, day, 0));
        }
        // A RED one may move by more than 19 at once.
        x = Told.under("shows 1; moves 19 - 38 * (day = 0); minds 0;");
        x.glove(2, 0, 19);
        due.is("bound to the left", 0, x.day(0, 1, 0));
        due.is("bound to the right", 19, x.day(0, 2, 0));
    }

    private static void promise8Shows() {
        OneGlove x = oneOfEach("shows 47; moves 0; minds 0;", 6, 4);
        int[] onHers = {47, 23, 67, 17, 67, 53};
        int[] offHers = {23, 11, 43, 5, 43, 29};
        for (int kind = 0; kind < 6; kind++) {
            due.is("KIND " + kind + " on her SIDE", onHers[kind], x.day(kind, 0, 1));
            x.set(6, kind, 1);
            due.is("KIND " + kind + " off her SIDE", offHers[kind], x.day(kind, 0, 1));
            x.set(2, 0, 1);
            due.is("KIND " + kind + " on her SIDE 1", onHers[kind], x.day(kind, 0, 1));
            x.set(6, kind, 0);
            due.is("KIND " + kind + " off her SIDE 1", offHers[kind], x.day(kind, 0, 1));
            x.set(2, 0, 0);
        }
        x = oneOfEach("shows 100; moves 0; minds 0;", 9, 4);
        int[] most = {100, 50, 100, 41, 100, 100};
        for (int kind = 0; kind < 6; kind++) {
            due.is("KIND " + kind + " of 100", most[kind], x.day(kind, 0, 1));
        }
        x = oneOfEach("shows 0; moves 0; minds 0;", 9, 4);
        int[] least = {0, 0, 20, 0, 20, 9};
        for (int kind = 0; kind < 6; kind++) {
            due.is("KIND " + kind + " of 0", least[kind], x.day(kind, 0, 1));
        }
    }

    private static void promise8Gone() {
        int[] lasts = {20, 23, 20, 23, 10, 30};
        for (int kind = 0; kind < 6; kind++) {
            OneGlove x = oneOfEach("shows 50; moves 0; minds 7 + day;", 3, 11);
            for (int day = 0; day < 30; day++) {
                boolean there = day < lasts[kind];
                String of = "KIND " + kind + " on DAY " + day;
                // A SMALL one and a WOOLLY one move by themselves.
                int moved = kind == 3 ? Math.min(8, day) : kind == 4 ? -day : 0;
                due.is("WHERE, " + of, there ? 11 + moved : -1, x.day(kind, day, 0));
                due.is("minds, " + of, there ? 7 + day : 0, x.day(kind, day, 2));
                due.holds("LIKELY, " + of, there == x.day(kind, day, 1) > 0);
            }
        }
    }

    private static void promise8Walk() {
        int[][] walks = {{3, 8}, {8, 3}, {5, 5}, {0, 0}, {19, 19}, {19, 0}, {0, 19}};
        for (int[] walk : walks) {
            OneGlove x = new OneGlove();
            x.glove(0, 0, 0);
            x.set(0, 0, walk[0]);
            x.set(1, 0, walk[1]);
            for (int place = 0; place < 20; place++) {
                x.set(4, 0, place);
                boolean passed = place >= Math.min(walk[0], walk[1]) && place <= Math.max(walk[0], walk[1]);
                String of = "from " + walk[0] + " to " + walk[1] + ", at " + place;
                due.is("LIKELY, " + of, passed ? 30 : 0, x.day(0, 0, 1));
                due.is("WHERE, " + of, place, x.day(0, 0, 0));
                due.is("minds, " + of, 1, x.day(0, 0, 2));
            }
        }
    }

    private static void promise8Refused() {
        OneGlove x = new OneGlove();
        due.is("day(0, 0, 0), no GLOVE", -2, x.day(0, 0, 0));
        x.glove(5, 0, 0);
        due.is("day(-1, 0, 0)", -2, x.day(-1, 0, 0));
        due.is("day(1, 0, 0)", -2, x.day(1, 0, 0));
        due.is("day(6, 0, 0)", -2, x.day(6, 0, 0));
        due.is("day(0, -1, 0)", -2, x.day(0, -1, 0));
        due.is("day(0, 30, 0)", -2, x.day(0, 30, 0));
        due.is("day(0, 0, -1)", -2, x.day(0, 0, -1));
        due.is("day(0, 0, 3)", -2, x.day(0, 0, 3));
        due.is("day(0, 29, 2)", 1, x.day(0, 29, 2));
    }

    private static void foundIs(OneGlove x, int glove, int n, long above, long below) {
        due.is("found(" + glove + ", " + n + ", 0)", above, x.found(glove, n, 0));
        due.is("found(" + glove + ", " + n + ", 1)", below, x.found(glove, n, 1));
    }

    private static void promise9() {
        OneGlove x = Told.under("shows (day + 1) * 10; moves 1; minds 0;");
        x.glove(0, 0, 0);
        foundIs(x, 0, 0, 0, 1);
        foundIs(x, 0, 1, 1, 10);
        foundIs(x, 0, 2, 7, 25);
        foundIs(x, 0, 3, 62, 125);
        foundIs(x, 0, 8, 155683, 156250);
        x = Told.under("shows 97; moves 0; minds 0;");
        x.glove(0, 0, 0);
        foundIs(x, 0, 1, 97, 100);
        foundIs(x, 0, 8, 9999999999993439L, 10000000000000000L);
        x = Told.under("shows 1; moves 0; minds 0;");
        x.glove(0, 0, 0);
        foundIs(x, 0, 8, 772553055720799L, 10000000000000000L);
        x = Told.under("shows 100 * (day = 3); moves 0; minds 0;");
        x.glove(0, 0, 0);
        foundIs(x, 0, 3, 0, 1);
        foundIs(x, 0, 4, 1, 1);
        foundIs(x, 0, 8, 1, 1);
        x = Told.under("shows 50; moves 1; minds 0;");
        x.glove(0, 0, 0);
        x.set(1, 0, 2);
        foundIs(x, 0, 3, 7, 8);
        foundIs(x, 0, 8, 7, 8);
    }

    private static void promise9Refused() {
        OneGlove x = new OneGlove();
        due.is("found(0, 0, 0), no GLOVE", Told.NO, x.found(0, 0, 0));
        x.glove(0, 0, 0);
        due.is("found(1, 0, 0)", Told.NO, x.found(1, 0, 0));
        due.is("found(-1, 0, 0)", Told.NO, x.found(-1, 0, 0));
        due.is("found(0, -1, 0)", Told.NO, x.found(0, -1, 0));
        due.is("found(0, 9, 0)", Told.NO, x.found(0, 9, 0));
        due.is("found(0, 1, -1)", Told.NO, x.found(0, 1, -1));
        due.is("found(0, 1, 2)", Told.NO, x.found(0, 1, 2));
    }

    private static void promise10() {
        OneGlove x = Told.under("shows 7; moves 0; minds 0;");
        x.glove(5, 0, 0);
        long left = 1000000000L;
        for (int n = 0; n <= 30; n++) {
            due.is("parts(0, " + n + ")", 1000000000L - left, x.parts(0, n));
            left = left * 93 / 100;
        }
        x = Told.under("shows 99; moves 0; minds 0;");
        x.glove(5, 0, 0);
        due.is("parts(0, 4)", 999999990, x.parts(0, 4));
        due.is("parts(0, 5): cut", 1000000000, x.parts(0, 5));
        due.is("parts(-1, 0)", Told.NO, x.parts(-1, 0));
        due.is("parts(1, 0)", Told.NO, x.parts(1, 0));
        due.is("parts(0, -1)", Told.NO, x.parts(0, -1));
        due.is("parts(0, 31)", Told.NO, x.parts(0, 31));
        due.is("parts(0, 0)", 0, x.parts(0, 0));
    }

    private static void promise11() {
        OneGlove x = Told.under("shows 33; moves 0; minds 3 + day;");
        x.glove(4, 0, 0);
        long left = 1000000;
        long together = 0;
        for (int n = 0; n <= 30; n++) {
            due.is("waiting(0, " + n + ")", together, x.waiting(0, n));
            if (n < 10) {
                together += (3 + n) * left;
                left = left * 47 / 100;
            }
        }
        // She does not pass: nothing is less bad from day to day.
        x.glove(0, 0, 6);
        x.set(1, 0, 5);
        due.is("waiting(1, 3)", 12000000, x.waiting(1, 3));
        due.is("waiting(1, 30)", 250000000, x.waiting(1, 30));
        x = Told.under("shows 100 * (day = 1); moves 0; minds 99;");
        x.glove(0, 0, 0);
        due.is("waiting(0, 30): seen on DAY 1", 198000000, x.waiting(0, 30));
        due.is("waiting(-1, 0)", Told.NO, x.waiting(-1, 0));
        due.is("waiting(1, 0)", Told.NO, x.waiting(1, 0));
        due.is("waiting(0, -1)", Told.NO, x.waiting(0, -1));
        due.is("waiting(0, 31)", Told.NO, x.waiting(0, 31));
    }
}

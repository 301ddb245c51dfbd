/** The edges that the document names: what would be best, promises 12 to 16, a sentence at a time. */
public final class BestEdgesTest {
    private static final Due due = new Due();
    private static final int LEAST = Integer.MIN_VALUE;
    private static final int MOST = Integer.MAX_VALUE;
    private static final int[][] NO_GLOVE_OR_WHAT = {{-1, 0}, {1, 0}, {5, 1}, {6, 0}, {LEAST, 0}, {MOST, 0},
        {0, -1}, {0, 2}, {0, LEAST}, {0, MOST}};

    private BestEdgesTest() {
    }

    public static void main(String[] args) {
        hangNumber();
        hangOnItsSide();
        hangBy30();
        hangFirst();
        hangAnswers();
        hangNo();
        walkNumber();
        walkFromTo();
        walkLess();
        walkBy30();
        walkFirst();
        walkAnswers();
        walkNo();
        bestDay();
        bestAnswers();
        bestBad();
        firstGlove();
        firstNone();
        firstNo();
        giveUpFrom();
        giveUpOrMore();
        giveUp30();
        giveUpBad();
        due.end("BestEdgesTest");
    }

    private static OneGlove one(String shows, String moves, int kind, int place) {
        OneGlove x = Told.under("shows " + shows + "; moves " + moves + "; minds 0;");
        x.glove(kind, 0, place);
        return x;
    }

    private static void hangNumber() {
        due.sentence("HANG (a GLOVE): 10 times PLACE, and HEIGHT (0 .. 4)");
        int[][] bests = {{0, 0}, {0, 4}, {19, 0}, {19, 4}, {7, 3}, {1, 0}, {18, 4}};
        for (int[] best : bests) {
            OneGlove x = one("5 + (place = " + best[0] + ") * (height = " + best[1] + ")", "0", 0, 9);
            due.is("hang(0, 0)", 10 * best[0] + best[1], x.hang(0, 0));
        }
        OneGlove x = one("height * 9 - place", "0", 0, 9);
        due.is("HEIGHTS end with 4", 4, x.hang(0, 0));
        x = one("place * 2", "0", 0, 9);
        due.is("PLACES end with 19", 190, x.hang(0, 0));
    }

    private static void hangOnItsSide() {
        due.sentence("from which, on its SIDE, PARTS by 30 DAYS would be most");
        OneGlove x = one("10 + (side = 0) * (place = 3) * 9 + (side = 1) * (place = 5) * 9", "0", 0, 9);
        due.is("on SIDE 0", 30, x.hang(0, 0));
        x.set(6, 0, 1);
        due.is("on SIDE 1", 50, x.hang(0, 0));
        due.is("PARTS on SIDE 1, off hers", 1000000000 - leftOf(91, 20), x.hang(0, 1));
        x.set(2, 0, 1);
        due.is("on SIDE 1, hers too", 50, x.hang(0, 0));
        due.is("PARTS on SIDE 1, hers too", 1000000000 - leftOf(81, 20), x.hang(0, 1));
        // Where she walks matters, and so does how far off FROM it is.
        x = one("10", "0", 0, 9);
        x.set(0, 0, 15);
        x.set(1, 0, 11);
        due.is("walking from 15 to 11", 110, x.hang(0, 0));
        x = one("far", "0", 0, 9);
        x.set(0, 0, 15);
        x.set(1, 0, 11);
        due.is("far off 15", 110, x.hang(0, 0));
        x.set(0, 0, 11);
        x.set(1, 0, 15);
        due.is("far off 11", 150, x.hang(0, 0));
    }

    /** Of 1000000000 what is left by so many DAYS, this many of 100 each, cut each time. */
    private static long leftOf(int ofHundred, int days) {
        long left = 1000000000;
        for (int day = 0; day < days; day++) {
            left = left * ofHundred / 100;
        }
        return left;
    }

    private static void hangBy30() {
        due.sentence("PARTS by 30 DAYS would be most");
        OneGlove x = one("50 * (day = 29) * (place = 13) * (height = 1)", "0", 5, 9);
        due.is("seen on DAY 29 alone", 131, x.hang(0, 0));
        due.is("PARTS then", 500000000, x.hang(0, 1));
        x = one("50 * (day = 0) * (place = 13) * (height = 1)", "0", 5, 9);
        due.is("seen on DAY 0 alone", 131, x.hang(0, 0));
        // More DAYS that are less LIKELY against one that is more so.
        x = one("50 * (day = 0) * (place = 13) + 3 * (place = 12)", "0", 5, 9);
        due.is("thirty DAYS", 120, x.hang(0, 0));
        x = one("62 * (day = 0) * (place = 13) + 3 * (place = 12)", "0", 5, 9);
        due.is("the one DAY", 130, x.hang(0, 0));
    }

    private static void hangFirst() {
        due.sentence("PARTS by 30 DAYS would be most; of like ones the first.");
        OneGlove x = one("5", "0", 0, 9);
        due.is("all are alike", 0, x.hang(0, 0));
        x.set(4, 0, 19);
        x.set(5, 0, 4);
        due.is("all are alike, wherever it is", 0, x.hang(0, 0));
        x.set(0, 0, 19);
        x.set(1, 0, 4);
        due.is("all that she passes are alike", 40, x.hang(0, 0));
        x = one("0", "0", 0, 9);
        due.is("nothing is ever seen", 0, x.hang(0, 0));
        x = one("5 + (1 < height) * (6 < place)", "0", 0, 9);
        due.is("the first of the higher ones", 72, x.hang(0, 0));
        x = one("5 + (height = 3) * (place = 2) + (height = 1) * (place = 4)", "0", 0, 9);
        due.is("the first of two", 23, x.hang(0, 0));
        x = one("5 + (height = 3) * (place = 4) + (height = 1) * (place = 4)", "0", 0, 9);
        due.is("the first of two on a PLACE", 41, x.hang(0, 0));
    }

    private static void hangAnswers() {
        due.sentence("HANG (what 0), PARTS then (1).");
        OneGlove x = one("20 + height", "0", 4, 9);
        due.is("hang(0, 0)", 4, x.hang(0, 0));
        due.is("hang(0, 1)", 1000000000 - leftOf(56, 10), x.hang(0, 1));
        due.is("it hangs where it hung", 9, x.told(0, 4));
        due.is("as high as it did", 2, x.told(0, 5));
        x = one("0", "0", 0, 9);
        due.is("hang(0, 1): never seen", 0, x.hang(0, 1));
        x = one("100", "0", 0, 9);
        due.is("hang(0, 1): surely", 1000000000, x.hang(0, 1));
    }

    private static void hangNo() {
        due.sentence("HANG (what 0), PARTS then (1). NO: no such GLOVE, what.");
        due.is("hang(0, 0), no GLOVES", Told.NO, new OneGlove().hang(0, 0));
        OneGlove x = one("5", "0", 0, 9);
        for (int[] a : NO_GLOVE_OR_WHAT) {
            due.is("hang(" + a[0] + ", " + a[1] + ")", Told.NO, x.hang(a[0], a[1]));
        }
    }

    private static void walkNumber() {
        due.sentence("BEST WALK (a GLOVE): 1000 times FROM, 10 times TO, and SIDE");
        int[] places = {0, 1, 9, 18, 19};
        for (int place : places) {
            OneGlove x = one("40", "0", 0, place);
            due.is("on " + place + ", SIDE 0", 1010 * place, x.walk(0, 0));
            x.set(6, 0, 1);
            due.is("on " + place + ", SIDE 1", 1010 * place + 1, x.walk(0, 0));
        }
        OneGlove x = one("3", "1", 0, 0);
        due.is("through all of the street, SIDE 0", 190, x.walk(0, 0));
        x.set(6, 0, 1);
        due.is("through all of the street, SIDE 1", 191, x.walk(0, 0));
        x = one("3", "0-1", 0, 19);
        due.is("it comes through all of the street", 190, x.walk(0, 0));
        x = one("3", "1", 0, 14);
        due.is("to the end of the street", 14190, x.walk(0, 0));
        x = one("3", "0-1", 0, 4);
        due.is("from the beginning of the street", 40, x.walk(0, 0));
    }

    private static void walkFromTo() {
        due.sentence("FROM no more than TO, such that");
        // It were seen from afar alone: FROM behind it she can't come by.
        OneGlove x = one("far * 9", "0", 0, 0);
        due.is("on the first PLACE", 0, x.walk(0, 0));
        due.is("PARTS then", 0, x.walk(0, 1));
        // FROM 4: 36 of 100 on each of 20 DAYS; FROM 3: 45; a PLACE more costs more than it brings.
        x = one("far * 9", "0", 0, 9);
        due.is("far from the FROM that is tried", 5090, x.walk(0, 0));
        int[][] walks = {{0, 19}, {19, 0}, {9, 9}, {17, 3}};
        for (int[] walk : walks) {
            x.set(0, 0, walk[0]);
            x.set(1, 0, walk[1]);
            due.is("whichever her own walk is", 5090, x.walk(0, 0));
        }
        // Where it goes hangs on FROM, too: FROM 0 it stays on 4, and is passed by.
        x = one("30", "1 - (far = 4)", 0, 2);
        due.is("it moves by the FROM that is tried", 40, x.walk(0, 0));
        x.set(0, 0, 6);
        due.is("not by her own FROM", 40, x.walk(0, 0));
    }

    private static void walkLess() {
        due.sentence("PARTS by 30 DAYS, less 1000000 times the PLACES she passes, would be most");
        // 10 of 100, of 11, of 9 are left behind DAY 0: 1 of 100 of that is like 1000000, more, less.
        OneGlove x = one("90 * (day = 0) + (day = 1)", "1", 0, 9);
        due.is("brings what it costs", 9090, x.walk(0, 0));
        x = one("89 * (day = 0) + (day = 1)", "1", 0, 9);
        due.is("brings more", 9100, x.walk(0, 0));
        x = one("91 * (day = 0) + (day = 1)", "1", 0, 9);
        due.is("brings less", 9090, x.walk(0, 0));
        x = one("91 * (day = 0) + (day = 1)", "0-1", 0, 9);
        due.is("brings less, to the left", 9090, x.walk(0, 0));
        // Two PLACES more for what comes on the second of them.
        x = one("80 * (day = 0) + (day = 2)", "1", 0, 9);
        due.is("two PLACES for what two cost", 9090, x.walk(0, 0));
        x = one("79 * (day = 0) + (day = 2)", "1", 0, 9);
        due.is("two PLACES for more", 9110, x.walk(0, 0));
        x = one("100 * (day = 3)", "1", 0, 9);
        due.is("surely, on DAY 3", 12120, x.walk(0, 0));
        x = one("100", "1", 0, 9);
        due.is("surely, on every DAY", 9090, x.walk(0, 0));
    }

    private static void walkBy30() {
        due.sentence("such that PARTS by 30 DAYS");
        OneGlove x = one("50 * (day = 29)", "0", 5, 9);
        due.is("seen on DAY 29 alone", 9090, x.walk(0, 0));
        due.is("PARTS then", 500000000, x.walk(0, 1));
        x = one("50 * (day = 0)", "1", 0, 9);
        due.is("seen on DAY 0 alone", 9090, x.walk(0, 0));
        x = one("50 * (day = 0)", "0", 0, 9);
        x.set(6, 0, 1);
        due.is("off SIDE 0", 9091, x.walk(0, 0));
    }

    private static void walkFirst() {
        due.sentence("less 1000000 times the PLACES she passes, would be most; of like ones the first.");
        OneGlove x = one("0", "0", 0, 19);
        due.is("nothing is ever seen", 0, x.walk(0, 0));
        x.set(6, 0, 1);
        due.is("nothing is ever seen, SIDE 1", 0, x.walk(0, 0));
        x = one("90 * (day = 0) + (day = 1)", "0-1", 0, 9);
        due.is("the one that begins ahead", 8090, x.walk(0, 0));
        x = one("90 * (day = 0) + (day = 1)", "1", 0, 9);
        due.is("the one that ends ahead", 9090, x.walk(0, 0));
        x = one("0", "0", 2, 9);
        due.is("alike on both SIDES", 9090, x.walk(0, 0));
        x.set(6, 0, 1);
        due.is("alike on both SIDES, hanging on SIDE 1", 9090, x.walk(0, 0));
        x = one("100 * (day = 0) + 100 * (day = 1)", "1", 0, 9);
        due.is("surely on two PLACES", 9090, x.walk(0, 0));
        x = one("100 * (day = 0) + 100 * (day = 1)", "0-1", 0, 9);
        due.is("surely on two PLACES, to the left", 8080, x.walk(0, 0));
    }

    private static void walkAnswers() {
        due.sentence("BEST WALK (what 0), PARTS then (1).");
        OneGlove x = one("20", "0", 4, 11);
        x.set(6, 0, 1);
        // WOOLLY moves by -1 and LASTS 10 DAYS: on 11, 10, .. 2.
        due.is("walk(0, 0)", 1000 * 2 + 10 * 11 + 1, x.walk(0, 0));
        due.is("walk(0, 1)", 1000000000 - leftOf(60, 10), x.walk(0, 1));
        due.is("FROM is as it was", 0, x.told(0, 0));
        due.is("TO is as it was", 19, x.told(0, 1));
        due.is("her SIDE is as it was", 0, x.told(0, 2));
        x = one("0", "0", 0, 9);
        due.is("walk(0, 1): never seen", 0, x.walk(0, 1));
        x = one("100", "0", 0, 9);
        due.is("walk(0, 1): surely", 1000000000, x.walk(0, 1));
    }

    private static void walkNo() {
        due.sentence("BEST WALK (what 0), PARTS then (1). NO: no such GLOVE, what.");
        due.is("walk(0, 0), no GLOVES", Told.NO, new OneGlove().walk(0, 0));
        OneGlove x = one("5", "0", 0, 9);
        for (int[] a : NO_GLOVE_OR_WHAT) {
            due.is("walk(" + a[0] + ", " + a[1] + ")", Told.NO, x.walk(a[0], a[1]));
        }
    }

    private static void bestDay() {
        due.sentence("BEST DAY (a GLOVE): that on which it is most LIKELY; of like ones the first.");
        for (int day = 0; day < 30; day++) {
            OneGlove x = one("5 + (day = " + day + ")", "0", 5, 9);
            due.is("on DAY " + day + " alone", day, x.best(0, 0));
            x = one("5 + (" + day + " < day)", "0", 5, 9);
            due.is("the first behind DAY " + day, day == 29 ? 0 : day + 1, x.best(0, 0));
        }
        OneGlove x = one("5", "0", 5, 9);
        due.is("all are alike", 0, x.best(0, 0));
        x = one("5 + day", "0", 0, 9);
        due.is("gone on DAY 20", 19, x.best(0, 0));
        x = one("100 - day", "0", 2, 9);
        due.is("20 more, bound by 100: the first", 0, x.best(0, 0));
        x = one("70 + day", "0", 2, 9);
        due.is("100 on DAY 10 and on: the first", 10, x.best(0, 0));
        x = one("5 + day", "1", 0, 0);
        x.set(0, 0, 3);
        x.set(1, 0, 8);
        due.is("she passes it until DAY 8", 8, x.best(0, 0));
        x.set(1, 0, 0);
        due.is("until DAY 3", 3, x.best(0, 0));
    }

    private static void bestAnswers() {
        due.sentence("BEST DAY (what 0), how LIKELY (1).");
        OneGlove x = one("5 + day", "0", 4, 9);
        due.is("best(0, 0)", 9, x.best(0, 0));
        due.is("best(0, 1)", 34, x.best(0, 1));
        x = one("0", "0", 0, 9);
        due.is("best(0, 0): never seen", 0, x.best(0, 0));
        due.is("best(0, 1): never seen", 0, x.best(0, 1));
        x = one("100 * (day = 29)", "0", 5, 9);
        due.is("best(0, 0): the last DAY", 29, x.best(0, 0));
        due.is("best(0, 1): the last DAY", 100, x.best(0, 1));
    }

    private static void bestBad() {
        due.sentence("BEST DAY (what 0), how LIKELY (1). BAD.");
        due.is("best(0, 0), no GLOVES", -2, new OneGlove().best(0, 0));
        OneGlove x = one("5", "0", 0, 9);
        for (int[] a : NO_GLOVE_OR_WHAT) {
            due.is("best(" + a[0] + ", " + a[1] + ")", -2, x.best(a[0], a[1]));
        }
    }

    private static void firstGlove() {
        due.sentence("FIRST (n DAYS): the GLOVE whose PARTS by n DAYS are most; of like ones the first.");
        OneGlove x = Told.under("shows number + 90 * (day = 29) * (place = 3); moves 0; minds 0;");
        x.glove(0, 0, 9);
        due.is("alone, never seen", 0, x.first(30, 0));
        x.glove(0, 5, 9);
        x.glove(0, 5, 9);
        due.is("the first of two", 1, x.first(1, 0));
        x.glove(0, 4, 9);
        due.is("one that is less LIKELY", 1, x.first(1, 0));
        x.glove(5, 0, 3);
        x.glove(0, 6, 9);
        due.is("the last one", 5, x.first(1, 0));
        due.is("by no DAYS all are alike", 0, x.first(0, 0));
        due.is("by 29 DAYS", 5, x.first(29, 0));
        due.is("by 30 DAYS", 4, x.first(30, 0));
        due.is("by 30 DAYS: PARTS", 900000000, x.first(30, 1));
        due.is("by none: PARTS", 0, x.first(0, 1));
        // By 5 in 100 on each of 20 DAYS, cut each time.
        x.set(4, 4, 9);
        x.set(3, 5, 0);
        due.is("by 29 DAYS: the first of two", 1, x.first(29, 0));
        due.is("by 29 DAYS: PARTS", 1000000000 - leftOf(95, 20), x.first(29, 1));
        x.set(0, 0, 9);
        due.is("she passes them on her first PLACE", 1, x.first(30, 0));
        x.set(0, 0, 10);
        due.is("she passes none: the first", 0, x.first(30, 0));
        due.is("she passes none: PARTS", 0, x.first(30, 1));
    }

    private static void firstNone() {
        due.sentence("FIRST (what 0; NONE: no GLOVES), PARTS (1; NONE).");
        OneGlove x = new OneGlove();
        for (int n = 0; n <= 30; n++) {
            due.is("first(" + n + ", 0), no GLOVES", -1, x.first(n, 0));
            due.is("first(" + n + ", 1), no GLOVES", -1, x.first(n, 1));
        }
        x.image();
        x.glove(0, 0, 0);
        due.is("first(0, 0)", 0, x.first(0, 0));
        due.is("first(0, 1)", 0, x.first(0, 1));
        x.back();
        due.is("first(30, 0), no GLOVES any more", -1, x.first(30, 0));
        due.is("first(30, 1), no GLOVES any more", -1, x.first(30, 1));
    }

    private static void firstNo() {
        due.sentence("PARTS (1; NONE). NO: n, what.");
        int[][] none = {{-1, 0}, {31, 0}, {31, 1}, {LEAST, 0}, {MOST, 0}, {0, -1}, {0, 2}, {0, LEAST}, {0, MOST}};
        OneGlove x = one("5", "0", 0, 9);
        for (int[] a : none) {
            due.is("first(" + a[0] + ", " + a[1] + ")", Told.NO, x.first(a[0], a[1]));
            due.is("first(" + a[0] + ", " + a[1] + "), no GLOVES", Told.NO, new OneGlove().first(a[0], a[1]));
        }
    }

    private static void giveUpFrom() {
        due.sentence("GIVE UP (a GLOVE, k 1 .. 100): the first DAY such that on none from it on it is LIKELY k or more");
        for (int day = 0; day < 30; day++) {
            OneGlove x = one("5 * (day = " + day + ")", "0", 5, 9);
            due.is("LIKELY on DAY " + day + " alone", day + 1, x.giveUp(0, 5));
        }
        OneGlove x = one("100 * (day = 2 or day = 11)", "0", 5, 9);
        due.is("on none from it on, k 100", 12, x.giveUp(0, 100));
        due.is("on none from it on, k 1", 12, x.giveUp(0, 1));
        x = one("0", "0", 5, 9);
        due.is("never LIKELY, k 1", 0, x.giveUp(0, 1));
        due.is("never LIKELY, k 100", 0, x.giveUp(0, 100));
        int[] lasts = {20, 29, 20, 29, 10};
        for (int kind = 0; kind < 5; kind++) {
            x = Told.under("shows 60; moves 0; minds 0;");
            x.glove(kind, 9, 9);
            due.is("till it is gone, KIND " + kind, lasts[kind], x.giveUp(0, 1));
        }
    }

    private static void giveUpOrMore() {
        due.sentence("LIKELY k or more");
        int[] ks = {1, 2, 50, 99, 100};
        for (int k : ks) {
            OneGlove x = one(k + " - (9 < day)", "0", 5, 9);
            due.is("just k, k " + k, 10, x.giveUp(0, k));
        }
        OneGlove x = one("50", "0", 0, 9);
        due.is("one less than k", 0, x.giveUp(0, 51));
        due.is("just k", 20, x.giveUp(0, 50));
        due.is("one more than k", 20, x.giveUp(0, 49));
    }

    private static void giveUp30() {
        due.sentence("30: it is on DAY 29.");
        OneGlove x = one("5 + 95 * (day = 29)", "0", 5, 9);
        due.is("giveUp(0, 100)", 30, x.giveUp(0, 100));
        due.is("giveUp(0, 6)", 30, x.giveUp(0, 6));
        due.is("giveUp(0, 5)", 30, x.giveUp(0, 5));
        x = one("5 + 95 * (day = 28)", "0", 5, 9);
        due.is("giveUp(0, 100): on DAY 28", 29, x.giveUp(0, 100));
    }

    private static void giveUpBad() {
        due.sentence("GIVE UP. BAD.");
        due.is("giveUp(0, 1), no GLOVES", -2, new OneGlove().giveUp(0, 1));
        OneGlove x = one("5", "0", 0, 9);
        int[][] bad = {{-1, 1}, {1, 1}, {6, 100}, {LEAST, 1}, {MOST, 1}, {0, 0}, {0, -1}, {0, 101}, {0, LEAST},
            {0, MOST}};
        for (int[] a : bad) {
            due.is("giveUp(" + a[0] + ", " + a[1] + ")", -2, x.giveUp(a[0], a[1]));
        }
        due.is("giveUp(0, 1)", 20, x.giveUp(0, 1));
        due.is("giveUp(0, 100)", 0, x.giveUp(0, 100));
    }
}

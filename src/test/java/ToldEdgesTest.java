/** The edges that the document names: days that were told, promises 17 to 22, a sentence at a time. */
public final class ToldEdgesTest {
    private static final Due due = new Due();
    private static final int LEAST = Integer.MIN_VALUE;
    private static final int MOST = Integer.MAX_VALUE;

    private ToldEdgesTest() {
    }

    public static void main(String[] args) {
        daysTold();
        firstOtherwise();
        kinds();
        numbers();
        places();
        heights();
        texts();
        tellsAnswers();
        tellsRefused();
        films();
        filmBad();
        lotBelow();
        lotOnEachDay();
        lotFirstDay();
        lotRefused();
        seeds();
        chanceLowest();
        chanceNo();
        imageKeeps();
        imageGlovesGo();
        images();
        backAsInTheImage();
        backState();
        due.end("ToldEdgesTest");
    }

    private static OneGlove one(String moves, int kind, int number, int place) {
        OneGlove x = Told.under("shows 0; moves " + moves + "; minds 0;");
        x.glove(kind, number, place);
        return x;
    }

    private static void daysTold() {
        due.sentence("TOLD: a SHEET tells PLACES where a GLOVE is on DAYS 0, 1, .. (30 at most; NONE: gone)");
        int[] lasts = {20, 29, 20, 29, 10, 30};
        for (int kind = 0; kind < 6; kind++) {
            for (int sort = 0; sort < 3; sort++) {
                OneGlove x = one("2", kind, 9, 3);
                int[] where = Told.where(x, 0);
                due.is("gone from DAY LASTS on", 30 - lasts[kind],
                        java.util.Arrays.stream(where).filter(place -> place == -1).count());
                for (int n = 0; n <= 30; n += n < 27 ? 9 : 1) {
                    Told.row(x, 0, sort, java.util.Arrays.copyOf(where, n));
                    due.is(n + " DAYS of KIND " + kind, -1, x.tells(0, 0, 0));
                }
                x.sheet(0, sort, 31);
                due.is("31 DAYS", -2, x.tells(0, 0, 0));
                x.sheet(0, sort, 40);
                due.is("40 DAYS", -2, x.tells(0, 0, 0));
            }
        }
        // What is neither a PLACE nor NONE is so on no DAY.
        OneGlove x = one("0", 4, 0, 0);
        int[] others = {-2, 20, 255, LEAST, MOST};
        for (int other : others) {
            Told.row(x, 0, other);
            due.is(other + " told of DAY 0", 0, x.tells(0, 0, 0));
            due.is(other + " told of DAY 0: PLACES", 0, x.tells(0, 0, 3));
        }
        Told.row(x, 0, -1);
        due.is("gone on DAY 0", 0, x.tells(0, 0, 0));
    }

    private static void firstOtherwise() {
        due.sentence("the first DAY that is otherwise; NONE");
        for (int day = 0; day < 30; day++) {
            OneGlove x = one("1", 1, 8, 0);
            int[] where = Told.where(x, 0);
            Told.row(x, 0, where);
            x.cell(0, day, where[day] == 0 ? 1 : 0);
            due.is("DAY " + day + " alone", day, x.tells(0, 0, 0));
            x.cell(0, 29, 7);
            due.is("DAY " + day + " and the last one", day, x.tells(0, 0, 0));
            x.cell(0, 0, 7);
            due.is("DAY " + day + " and the first one", 0, x.tells(0, 0, 0));
        }
        OneGlove x = one("1", 1, 8, 0);
        int[] where = Told.where(x, 0);
        Told.row(x, 0, where);
        due.is("none", -1, x.tells(0, 0, 0));
        Told.row(x, 0);
        due.is("nothing is told", -1, x.tells(0, 0, 0));
        // Gone a DAY too early, a DAY too late.
        Told.row(x, 0, where);
        x.cell(0, 27, -1);
        due.is("a DAY too early", 27, x.tells(0, 0, 0));
        Told.row(x, 0, where);
        x.cell(0, 28, 19);
        due.is("a DAY too late", 28, x.tells(0, 0, 0));
    }

    private static void kinds() {
        due.sentence("KINDS (bits 0 .. 5)");
        // Moved by 2 they are all told apart, by where they are or by when they are gone.
        OneGlove x = Told.under("shows 0; moves 2; minds 0;");
        for (int kind = 0; kind < 6; kind++) {
            x.glove(kind, 9, 0);
        }
        for (int kind = 0; kind < 6; kind++) {
            x.film(0, kind, 30);
            for (int glove = 0; glove < 6; glove++) {
                due.is("KIND " + kind + " told, by GLOVE " + glove, 1 << kind, x.tells(0, glove, 1));
            }
        }
        x.film(0, 0, 20);
        due.is("20 DAYS of a GLOVE", 0b000011, x.tells(0, 0, 1));
        x.film(0, 0, 0);
        due.is("nothing is told", 0b111111, x.tells(0, 0, 1));
        Told.row(x, 0, 19);
        due.is("another PLACE", 0, x.tells(0, 0, 1));
        due.is("its KIND is as it was", 5, x.told(5, 7));
    }

    private static void numbers() {
        due.sentence("NUMBERS (bits 0 .. 9)");
        OneGlove x = one("number", 0, 4, 0);
        for (int number = 0; number < 10; number++) {
            Told.row(x, 0, 0, number);
            due.is("NUMBER " + number + " told", 1 << number, x.tells(0, 0, 2));
        }
        Told.row(x, 0, 0, 10);
        due.is("NUMBER 10 is none", 0, x.tells(0, 0, 2));
        Told.row(x, 0, 0);
        due.is("all", 1023, x.tells(0, 0, 2));
        due.is("its NUMBER is as it was", 4, x.told(0, 3));
        // By when it is gone.
        x = one("0", 1, 4, 6);
        for (int number = 0; number < 10; number++) {
            x.set(3, 0, number);
            x.film(0, 0, 30);
            x.set(3, 0, 9 - number);
            due.is("a GREY one of NUMBER " + number, 1 << number, x.tells(0, 0, 2));
        }
    }

    private static void places() {
        due.sentence("PLACES (bits 0 .. 19) on which it was hung up");
        OneGlove x = one("1", 0, 0, 5);
        for (int place = 0; place < 20; place++) {
            Told.row(x, 0, place);
            due.is("PLACE " + place + " told", 1 << place, x.tells(0, 0, 3));
            Told.row(x, 0, place, Math.min(19, place + 1));
            due.is("PLACE " + place + " and the next one told", 1 << place, x.tells(0, 0, 3));
        }
        Told.row(x, 0);
        due.is("all", (1 << 20) - 1, x.tells(0, 0, 3));
        Told.row(x, 0, 20);
        due.is("PLACE 20 is none", 0, x.tells(0, 0, 3));
        Told.row(x, 0, -1);
        due.is("gone", 0, x.tells(0, 0, 3));
        due.is("its PLACE is as it was", 5, x.told(0, 4));
    }

    private static void heights() {
        due.sentence("HEIGHTS (bits 0 .. 4)");
        OneGlove x = one("height", 0, 0, 5);
        for (int height = 0; height < 5; height++) {
            Told.row(x, 0, 5, 5 + height);
            due.is("HEIGHT " + height + " told", 1 << height, x.tells(0, 0, 4));
        }
        Told.row(x, 0, 5, 10);
        due.is("HEIGHT 5 is none", 0, x.tells(0, 0, 4));
        Told.row(x, 0, 5);
        due.is("all", 31, x.tells(0, 0, 4));
        due.is("its HEIGHT is as it was", 2, x.told(0, 5));
    }

    private static void texts() {
        due.sentence("TEXTS (bits), were they THE RULE, by which all would be so.");
        OneGlove x = new OneGlove();
        x.glove(0, 3, 5);
        Told.row(x, 0, 5);
        Told.row(x, 1, 5, 6);
        due.is("TEXT 0 alone", 1, x.tells(0, 0, 5));
        due.is("none", 0, x.tells(1, 0, 5));
        for (int text = 1; text < 6; text++) {
            Told.text(x, "shows 0; moves " + text + "; minds 0;");
            due.is("TEXTS until " + text, (1 << text + 1) - 1, x.tells(0, 0, 5));
        }
        for (int rule = 0; rule < 6; rule++) {
            x.force(rule);
            for (int text = 0; text < 6; text++) {
                Told.row(x, 1, 5, 5 + text);
                due.is("TEXT " + text + " told, under " + rule, 1 << text, x.tells(1, 0, 5));
            }
            due.is("THE RULE is as it was", rule, x.count(4));
        }
        // All DAYS have to be so, by one of them.
        Told.row(x, 1, 5, 6, 8);
        due.is("one DAY by 1, the next by 2", 0, x.tells(1, 0, 5));
    }

    private static void tellsAnswers() {
        due.sentence("TOLD: the first DAY that is otherwise (what 0; NONE), KINDS (1), NUMBERS (2), PLACES (3), "
                + "HEIGHTS (4), TEXTS (5).");
        OneGlove x = one("(number = 3) + (height = 2) * 2", 2, 3, 4);
        Told.row(x, 0, 4, 10, 16);
        int[] want = {-1, 0b000100, 0b1000, 0b10000, 0b100, 0b10};
        for (int what = 0; what < 6; what++) {
            due.is("tells(0, 0, " + what + ")", want[what], x.tells(0, 0, what));
        }
        x.cell(0, 2, 15);
        due.is("tells(0, 0, 0)", 2, x.tells(0, 0, 0));
        for (int what = 1; what < 6; what++) {
            due.is("tells(0, 0, " + what + "): none", 0, x.tells(0, 0, what));
        }
    }

    private static void tellsRefused() {
        due.sentence("BAD: SHEET, no such GLOVE, what; -11; BAD: it tells more than 30.");
        due.is("tells(0, 0, 0), no GLOVES", -2, new OneGlove().tells(0, 0, 0));
        OneGlove x = one("0", 0, 0, 4);
        int[][] bad = {{-1, 0, 0}, {4, 0, 0}, {LEAST, 0, 0}, {MOST, 0, 0}, {0, -1, 0}, {0, 1, 0}, {0, 6, 0},
            {0, LEAST, 0}, {0, MOST, 0}, {0, 0, -1}, {0, 0, 6}, {0, 0, LEAST}, {0, 0, MOST}};
        for (int size = -1; size <= 30; size += 31) {
            for (int[] a : bad) {
                x.sheet(0, size < 0 ? -1 : 2, size);
                due.is("tells(" + a[0] + ", " + a[1] + ", " + a[2] + ")", -2, x.tells(a[0], a[1], a[2]));
            }
        }
        for (int what = 0; what < 6; what++) {
            for (int sheet = 1; sheet < 4; sheet++) {
                due.is("tells(" + sheet + ", 0, " + what + "), missing", -11, x.tells(sheet, 0, what));
            }
            x.sheet(0, 1, 31);
            due.is("tells(0, 0, " + what + "), 31 DAYS", -2, x.tells(0, 0, what));
            x.sheet(0, 1, 30);
            due.is("tells(0, 0, " + what + "), 30 DAYS", 0, x.tells(0, 0, what));
        }
    }

    private static void films() {
        due.sentence("A SHEET truly becomes WHERE a GLOVE is on DAYS 0 .. n less 1 (0 .. 30; bytes): n.");
        OneGlove x = one("1", 1, 8, 2);
        int[] sizes = {0, 1, 28, 29, 30};
        for (int n : sizes) {
            for (int sort = -1; sort < 3; sort++) {
                // Whatever it was before, missing or of another sort, longer or shorter.
                x.sheet(1, sort, 33);
                due.is("film(1, 0, " + n + ")", n, x.film(1, 0, n));
                due.is("tells(1, 0, 0)", -1, x.tells(1, 0, 0));
                due.is("as long as told", -12, x.cell(1, n, 0));
                x.sheet(2, 0, 30);
                due.is("bytes", n, x.copy(1, 0, 2, 0, n));
            }
        }
        due.is("film of 30", 30, x.film(3, 0, 30));
        x.cell(3, 27, 0);
        due.is("DAY 27 was told", 27, x.tells(3, 0, 0));
        x.film(3, 0, 30);
        x.cell(3, 28, 255);
        due.is("NONE is a byte of 255", -1, x.tells(3, 0, 0));
        x.cell(3, 29, 256 + 19);
        due.is("the last DAY was told", 29, x.tells(3, 0, 0));
    }

    private static void filmBad() {
        due.sentence("(0 .. 30; bytes): n. BAD.");
        due.is("film(0, 0, 0), no GLOVES", -2, new OneGlove().film(0, 0, 0));
        OneGlove x = one("0", 0, 0, 4);
        int[][] bad = {{-1, 0, 5}, {4, 0, 5}, {LEAST, 0, 5}, {MOST, 0, 5}, {0, -1, 5}, {0, 1, 5}, {0, 6, 5},
            {0, LEAST, 5}, {0, MOST, 5}, {0, 0, -1}, {0, 0, 31}, {0, 0, 40}, {0, 0, LEAST}, {0, 0, MOST}};
        for (int[] a : bad) {
            due.is("film(" + a[0] + ", " + a[1] + ", " + a[2] + ")", -2, x.film(a[0], a[1], a[2]));
        }
        due.is("the SHEET is missing still", -11, x.cell(0, 0, 0));
    }

    /** What is held against LIKELY on a DAY: reckoned with longs, so that nothing wraps by itself. */
    private static int lotOn(int day, int seed) {
        long z = seed & 0xffffffffL;
        for (int d = 0; d <= day; d++) {
            z = (z * 1103515245L + 12345L) & 0xffffffffL;
        }
        return (int) ((z >> 9) % 100);
    }

    private static void lotBelow() {
        due.sentence("she sees it, if (z >>> 9) % 100 is below LIKELY");
        // By hand: 12345 / 512 is 24; (1103515245 + 12345) / 512 is 2155327; -1103502900 is 3191464396 of 32 bits.
        int[][] seeds = {{0, 24}, {1, 27}, {-1, 28}, {MOST, 24}, {LEAST, 28}};
        for (int[] seed : seeds) {
            for (int more = -1; more <= 1; more++) {
                OneGlove x = Told.under("shows " + (seed[1] + more) + " * (day = 0); moves 0; minds 0;");
                x.glove(0, 0, 0);
                due.is("lot(0, " + seed[0] + "), LIKELY " + (seed[1] + more), more == 1 ? 0 : -1, x.lot(0, seed[0]));
            }
        }
        OneGlove x = Told.under("shows 100; moves 0; minds 0;");
        x.glove(0, 0, 0);
        OneGlove y = Told.under("shows 0; moves 0; minds 0;");
        y.glove(0, 0, 0);
        for (int seed = -100; seed <= 100; seed++) {
            due.is("surely, by " + seed, 0, x.lot(0, seed));
            due.is("never, by " + seed, -1, y.lot(0, seed));
        }
    }

    private static void lotOnEachDay() {
        due.sentence("BY LOT (a SEED): on each DAY, from 0 on, z being z * 1103515245 + 12345 (an int; SEED at first) "
                + "anew");
        int[] seeds = {0, 1, -1, MOST, LEAST, 20261118};
        for (int seed : seeds) {
            for (int day = 0; day < 30; day++) {
                int lot = lotOn(day, seed);
                OneGlove x = Told.under("shows " + (lot + 1) + " * (day = " + day + "); moves 0; minds 0;");
                x.glove(5, 0, 0);
                due.is("lot(0, " + seed + ") on DAY " + day, day, x.lot(0, seed));
                x = Told.under("shows " + lot + " * (day = " + day + "); moves 0; minds 0;");
                x.glove(5, 0, 0);
                due.is("lot(0, " + seed + ") not on DAY " + day, -1, x.lot(0, seed));
            }
        }
        // Also on DAYS on which she does not pass it.
        OneGlove x = Told.under("shows " + (lotOn(3, 0) + 1) + "; moves 1; minds 0;");
        x.glove(0, 0, 0);
        x.set(0, 0, 3);
        x.set(1, 0, 3);
        due.is("she passes it on DAY 3 alone", 3, x.lot(0, 0));
    }

    private static void lotFirstDay() {
        due.sentence("the first such DAY of 0 .. 29; NONE.");
        OneGlove x = Told.under("shows 100 * (day = 0 or day = 29); moves 0; minds 0;");
        x.glove(5, 0, 0);
        due.is("the first of two", 0, x.lot(0, 5));
        for (int day = 0; day < 30; day++) {
            x = Told.under("shows 100 * (" + day + " < day + 1); moves 0; minds 0;");
            x.glove(5, 0, 0);
            due.is("from DAY " + day + " on", day, x.lot(0, 5));
        }
        x = Told.under("shows 100 * (19 < day); moves 0; minds 0;");
        x.glove(0, 0, 0);
        due.is("gone by then", -1, x.lot(0, 5));
    }

    private static void lotRefused() {
        due.sentence("BY LOT. BAD: no such GLOVE; NONE.");
        due.is("lot(0, 0), no GLOVES", -2, new OneGlove().lot(0, 0));
        OneGlove x = new OneGlove();
        x.glove(0, 0, 0);
        int[] none = {-1, 1, 5, 6, LEAST, MOST};
        for (int glove : none) {
            due.is("lot(" + glove + ", 0)", -2, x.lot(glove, 0));
        }
        x.set(0, 0, 19);
        due.is("lot(0, 0), she does not pass", -1, x.lot(0, 0));
    }

    private static void chanceIs(OneGlove x, int seed, int n, int above, int below) {
        due.is("chance(0, " + seed + ", " + n + ", 0)", above, x.chance(0, seed, n, 0));
        due.is("chance(0, " + seed + ", " + n + ", 1)", below, x.chance(0, seed, n, 1));
    }

    private static OneGlove onDay0(int likely) {
        OneGlove x = Told.under("shows " + likely + " * (day = 0); moves 0; minds 0;");
        x.glove(0, 0, 0);
        return x;
    }

    private static void seeds() {
        due.sentence("IN n seeds (1 .. 20), SEED and each 1 more (an int): of these those by which it is seen.");
        // On DAY 0 the lot of 0 is 24, of 1 it is 27, of the most int 24, of the least 28.
        chanceIs(onDay0(25), 0, 1, 1, 1);
        chanceIs(onDay0(24), 0, 1, 0, 1);
        chanceIs(onDay0(25), 0, 2, 1, 2);
        chanceIs(onDay0(28), 0, 2, 1, 1);
        chanceIs(onDay0(24), MOST, 2, 0, 1);
        chanceIs(onDay0(25), MOST, 2, 1, 2);
        chanceIs(onDay0(28), MOST, 2, 1, 2);
        chanceIs(onDay0(29), MOST, 2, 1, 1);
        for (int from = -3; from <= 3; from++) {
            OneGlove x = onDay0(50);
            int seen = 0;
            for (int n = 1; n <= 20; n++) {
                int seed = MOST - 10 + from;
                seen += lotOn(0, seed + n - 1) < 50 ? 1 : 0;
                long above = x.chance(0, seed, n, 0);
                due.is("of " + n + " from " + seed, seen * x.chance(0, seed, n, 1), above * n);
            }
        }
        OneGlove x = onDay0(50);
        int[] none = {0, -1, 21, LEAST, MOST};
        for (int n : none) {
            chanceIsNo(x, 0, n, 0);
        }
    }

    private static void chanceIsNo(OneGlove x, int glove, int n, int part) {
        due.is("chance(" + glove + ", 0, " + n + ", " + part + ")", Told.NO, x.chance(glove, 0, n, part));
    }

    private static void chanceLowest() {
        due.sentence("IN n seeds: part 0 above, 1 below the line, in lowest terms.");
        for (int likely = 0; likely <= 100; likely += 10) {
            OneGlove x = onDay0(likely);
            int seen = 0;
            for (int n = 1; n <= 20; n++) {
                seen += lotOn(0, n - 1) < likely ? 1 : 0;
                int by = n;
                while (seen % by != 0 || n % by != 0) {
                    by--;
                }
                chanceIs(x, 0, n, seen / by, n / by);
            }
        }
        chanceIs(onDay0(0), 0, 20, 0, 1);
        chanceIs(onDay0(100), 0, 20, 1, 1);
    }

    private static void chanceNo() {
        due.sentence("in lowest terms. NO: no such GLOVE, n, part.");
        due.is("chance(0, 0, 1, 0), no GLOVES", Told.NO, new OneGlove().chance(0, 0, 1, 0));
        OneGlove x = onDay0(50);
        int[] noGlove = {-1, 1, 6, LEAST, MOST};
        for (int glove : noGlove) {
            chanceIsNo(x, glove, 1, 0);
        }
        int[] noPart = {-1, 2, LEAST, MOST};
        for (int part : noPart) {
            chanceIsNo(x, 0, 1, part);
        }
        chanceIsNo(x, 0, 0, 1);
        chanceIsNo(x, 0, 21, 1);
        chanceIs(onDay0(100), 0, 1, 1, 1);
        chanceIs(onDay0(100), 0, 20, 1, 1);
    }

    private static void imageKeeps() {
        due.sentence("AN IMAGE keeps HER WALK, NUMBERS, PLACES, HEIGHTS, SIDES of GLOVES, THE RULE");
        // Each of them by itself, of the first GLOVE and of the last.
        for (int what = 0; what < 7; what++) {
            for (int of = 0; of < 6; of += 5) {
                OneGlove x = new OneGlove();
                for (int glove = 0; glove < 6; glove++) {
                    x.glove(glove, 3, 4);
                }
                int was = x.told(of, what);
                due.is("image()", 6, x.image());
                due.is("set(" + what + ", " + of + ", 1)", was, x.set(what, of, 1));
                due.is("back()", 6, x.back());
                due.is("told(" + of + ", " + what + ")", was, x.told(of, what));
            }
        }
        OneGlove x = new OneGlove();
        Told.text(x, "shows 1; moves 1; minds 1;");
        x.image();
        x.force(1);
        x.back();
        due.is("THE RULE", 0, x.count(4));
        x.force(1);
        x.image();
        x.force(0);
        x.back();
        due.is("THE RULE", 1, x.count(4));
        // Nothing else: TEXTS, THE TAPE, SHEETS stay.
        Told.text(x, "shows 2; moves 2; minds 2;");
        x.feed(32);
        x.sheet(0, 1, 3);
        x.image();
        Told.text(x, "shows 3; moves 3; minds 3;");
        x.feed(32);
        x.feed(32);
        x.sheet(0, 2, 5);
        x.back();
        due.is("TEXTS stay", 4, x.count(2));
        due.is("THE TAPE stays", 2, x.count(3));
        due.is("SHEETS stay", 1, x.cell(0, 4, 0));
    }

    private static void imageGlovesGo() {
        due.sentence("THE RULE (GLOVES that came since go).");
        for (int kept = 0; kept <= 6; kept++) {
            OneGlove x = new OneGlove();
            for (int glove = 0; glove < kept; glove++) {
                x.glove(5, 9, 19);
            }
            due.is("image()", kept, x.image());
            for (int glove = kept; glove < 6; glove++) {
                x.glove(1, 1, 1);
            }
            due.is("GLOVES", 6, x.count(0));
            due.is("back()", kept, x.back());
            due.is("GLOVES", kept, x.count(0));
            for (int glove = 0; glove < 6; glove++) {
                due.is("told(" + glove + ", 7)", glove < kept ? 5 : -2, x.told(glove, 7));
            }
            for (int glove = kept; glove < 6; glove++) {
                due.is("the next GLOVE", glove, x.glove(2, 3, 4));
                due.is("its NUMBER", 3, x.told(glove, 3));
            }
            due.is("no GLOVE more", -4, x.glove(2, 3, 4));
        }
    }

    private static void images() {
        due.sentence("AN IMAGE is kept: how many GLOVES.");
        OneGlove x = new OneGlove();
        for (int glove = 0; glove <= 6; glove++) {
            due.is("image()", glove, x.image());
            due.is("image() once more", glove, x.image());
            x.glove(0, 0, glove);
        }
        // The last one counts; what comes behind it does not change it.
        x = new OneGlove();
        x.glove(0, 0, 5);
        x.image();
        x.set(4, 0, 6);
        x.set(0, 0, 3);
        x.set(1, 0, 4);
        x.set(2, 0, 1);
        Told.text(x, "shows 1; moves 1; minds 1;");
        x.force(1);
        x.glove(1, 2, 8);
        x.image();
        x.set(4, 0, 7);
        x.set(0, 0, 9);
        x.set(1, 0, 9);
        x.set(2, 0, 0);
        x.force(0);
        x.set(4, 1, 7);
        due.is("back()", 2, x.back());
        int[] last = {3, 4, 1, 0, 6};
        for (int round = 0; round < 2; round++) {
            for (int what = 0; what < 5; what++) {
                due.is("told(0, " + what + "), as in the last IMAGE", last[what], x.told(0, what));
            }
            due.is("PLACE of 1, as in the last IMAGE", 8, x.told(1, 4));
            due.is("THE RULE, as in the last IMAGE", 1, x.count(4));
            due.is("GLOVES", 2, x.count(0));
            due.is("image() leaves all as it is", 2, x.image());
        }
    }

    private static void backAsInTheImage() {
        due.sentence("All that it keeps is as in THE IMAGE: how many GLOVES.");
        OneGlove x = new OneGlove();
        x.image();
        x.glove(0, 0, 5);
        due.is("back() to none", 0, x.back());
        due.is("first(30, 0)", -1, x.first(30, 0));
        due.is("back() to none, once more", 0, x.back());
        x.glove(4, 3, 2);
        x.image();
        // Time and again.
        for (int round = 0; round < 3; round++) {
            x.set(0, 0, 9);
            x.set(4, 0, round);
            x.set(3, 0, round);
            x.glove(0, 0, 0);
            due.is("back()", 1, x.back());
            due.is("FROM", 0, x.told(0, 0));
            due.is("PLACE", 2, x.told(0, 4));
            due.is("NUMBER", 3, x.told(0, 3));
            due.is("KIND", 4, x.told(0, 7));
        }
        due.is("with nothing changed", 1, x.back());
        due.is("PLACE", 2, x.told(0, 4));
    }

    private static void backState() {
        due.sentence("STATE: there is none.");
        OneGlove x = new OneGlove();
        due.is("back()", -3, x.back());
        x.glove(0, 0, 5);
        x.set(0, 0, 4);
        due.is("back()", -3, x.back());
        due.is("GLOVES", 1, x.count(0));
        due.is("FROM", 4, x.told(0, 0));
        x.image();
        due.is("back()", 1, x.back());
        due.is("another object's", -3, new OneGlove().back());
    }
}

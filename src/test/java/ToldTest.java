/** Promises 17 to 22: tells, film, lot, chance, image, back. */
public final class ToldTest {
    private static final Due due = new Due();

    private ToldTest() {
    }

    public static void main(String[] args) {
        promise17Otherwise();
        promise17Kinds();
        promise17Numbers();
        promise17Places();
        promise17Heights();
        promise17Texts();
        promise17Refused();
        promise18();
        promise18Refused();
        promise19();
        promise20();
        promise21();
        promise22();
        due.end("ToldTest");
    }

    private static void promise17Otherwise() {
        OneGlove x = Told.under("shows 0; moves 1; minds 0;");
        x.glove(0, 0, 4);
        Told.row(x, 0, 4, 5, 6);
        due.is("tells(0, 0, 0)", -1, x.tells(0, 0, 0));
        Told.row(x, 0, 4, 5, 7, 9);
        due.is("tells(0, 0, 0): DAY 2", 2, x.tells(0, 0, 0));
        Told.row(x, 0, 5);
        due.is("tells(0, 0, 0): DAY 0", 0, x.tells(0, 0, 0));
        Told.row(x, 0);
        due.is("tells(0, 0, 0): nothing told", -1, x.tells(0, 0, 0));
        int[] all = Told.where(x, 0);
        due.is("gone by the last DAY", -1, all[29]);
        for (int sort = 0; sort < 3; sort++) {
            Told.row(x, 1, sort, all);
            due.is("tells(1, 0, 0): all DAYS", -1, x.tells(1, 0, 0));
            x.cell(1, 29, 19);
            due.is("tells(1, 0, 0): DAY 29", 29, x.tells(1, 0, 0));
            x.cell(1, 29, -1);
            x.cell(1, 20, -2);
            due.is("tells(1, 0, 0): DAY 20", 20, x.tells(1, 0, 0));
        }
        // A byte of 255 is NONE, an int of 255 isn't.
        Told.row(x, 1, 0, all);
        x.cell(1, 20, 255);
        due.is("255 among bytes", -1, x.tells(1, 0, 0));
        Told.row(x, 1, 2, all);
        x.cell(1, 20, 255);
        due.is("255 among ints", 20, x.tells(1, 0, 0));
        // By her FROM it goes otherwise.
        x = Told.under("shows 0; moves far; minds 0;");
        x.glove(0, 0, 4);
        x.set(0, 0, 3);
        Told.row(x, 0, 4, 5, 7, 11);
        due.is("tells(0, 0, 0): far", -1, x.tells(0, 0, 0));
        x.set(0, 0, 4);
        due.is("tells(0, 0, 0): nearer", 1, x.tells(0, 0, 0));
    }

    private static void promise17Kinds() {
        OneGlove x = Told.under("shows 0; moves 2; minds 0;");
        x.glove(3, 4, 0);
        int[][] days = {{0, 2}, {0, 4}, {0, 3, 6}, {0, 1, 2}, {0, 5}, {0}, {1}};
        int[] kinds = {0b000011, 0b000100, 0b011000, 0b100000, 0, 0b111111, 0};
        for (int i = 0; i < days.length; i++) {
            Told.row(x, 2, days[i]);
            due.is("KINDS of row " + i, kinds[i], x.tells(2, 0, 1));
        }
        due.is("its KIND is as it was", 3, x.told(0, 7));
        int[] till = new int[30];
        for (int last = 0; last < 30; last++) {
            x = Told.under("shows 0; moves 0; minds 0;");
            x.glove(0, 4, 7);
            for (int day = 0; day < 30; day++) {
                till[day] = day < last ? 7 : -1;
            }
            Told.row(x, 2, till);
            int want = last == 20 ? 0b000101 : last == 24 ? 0b000010 : 0;
            due.is("KINDS of LASTS " + last, want, x.tells(2, 0, 1));
        }
    }

    private static void promise17Numbers() {
        OneGlove x = Told.under("shows 0; moves number * 2; minds 0;");
        x.glove(0, 4, 0);
        Told.row(x, 0, 0, 6, 12);
        due.is("NUMBERS", 1 << 3, x.tells(0, 0, 2));
        Told.row(x, 0, 0, 18, 19);
        due.is("NUMBERS", 1 << 9, x.tells(0, 0, 2));
        Told.row(x, 0, 0, 7);
        due.is("NUMBERS: none", 0, x.tells(0, 0, 2));
        Told.row(x, 0, 0);
        due.is("NUMBERS: all", 1023, x.tells(0, 0, 2));
        Told.row(x, 0, 1);
        due.is("NUMBERS: another PLACE", 0, x.tells(0, 0, 2));
        due.is("its NUMBER is as it was", 4, x.told(0, 3));
        // A GREY one's NUMBER tells by when it is gone.
        OneGlove y = new OneGlove();
        y.glove(1, 8, 3);
        y.film(0, 0, 30);
        due.is("NUMBERS of a GREY one", 1 << 8, y.tells(0, 0, 2));
        y.film(0, 0, 28);
        due.is("NUMBERS of a GREY one on 28 DAYS", 0b1100000000, y.tells(0, 0, 2));
    }

    private static void promise17Places() {
        OneGlove x = Told.under("shows 0; moves (8 < place) - (place < 8); minds 0;");
        x.glove(0, 0, 8);
        Told.row(x, 0, 17, 18, 19, 19);
        due.is("PLACES", 1 << 17, x.tells(0, 0, 3));
        Told.row(x, 0, 1, 0, 0);
        due.is("PLACES", 1 << 1, x.tells(0, 0, 3));
        Told.row(x, 0, 19);
        due.is("PLACES", 1 << 19, x.tells(0, 0, 3));
        Told.row(x, 0, 0);
        due.is("PLACES", 1, x.tells(0, 0, 3));
        Told.row(x, 0);
        due.is("PLACES: all", (1 << 20) - 1, x.tells(0, 0, 3));
        Told.row(x, 0, 9, 9);
        due.is("PLACES: none", 0, x.tells(0, 0, 3));
        Told.row(x, 0, -1);
        due.is("PLACES: gone", 0, x.tells(0, 0, 3));
        due.is("its PLACE is as it was", 8, x.told(0, 4));
    }

    private static void promise17Heights() {
        OneGlove x = Told.under("shows 0; moves (1 < height) * 3 + (height = 4); minds 0;");
        x.glove(0, 0, 8);
        Told.row(x, 0, 8, 8);
        due.is("HEIGHTS", 0b00011, x.tells(0, 0, 4));
        Told.row(x, 0, 8, 11);
        due.is("HEIGHTS", 0b01100, x.tells(0, 0, 4));
        Told.row(x, 0, 8, 12);
        due.is("HEIGHTS", 0b10000, x.tells(0, 0, 4));
        Told.row(x, 0, 9);
        due.is("HEIGHTS: none", 0, x.tells(0, 0, 4));
        due.is("its HEIGHT is as it was", 2, x.told(0, 5));
    }

    private static void promise17Texts() {
        OneGlove x = new OneGlove();
        x.glove(0, 0, 8);
        x.set(6, 0, 1);
        Told.row(x, 0, 8, 9, 10);
        due.is("TEXTS", 0, x.tells(0, 0, 5));
        Told.text(x, "shows 0; moves 1; minds 0;");
        Told.text(x, "shows 0; moves day < 1; minds 0;");
        due.is("TEXTS", 0b010, x.tells(0, 0, 5));
        Told.text(x, "shows 9; moves side; minds 9;");
        Told.text(x, "shows 9; moves far - 7; minds 9;");
        Told.text(x, "shows 9; moves place - 7; minds 9;");
        due.is("TEXTS", 0b001010, x.tells(0, 0, 5));
        Told.row(x, 0, 8, 9);
        due.is("TEXTS", 0b111110, x.tells(0, 0, 5));
        Told.row(x, 0, 8);
        due.is("TEXTS: all", 0b111111, x.tells(0, 0, 5));
        due.is("THE RULE is as it was", 0, x.count(4));
        x.force(3);
        Told.row(x, 0, 8, 8);
        due.is("TEXTS under another RULE", 0b000001, x.tells(0, 0, 5));
        due.is("THE RULE is as it was", 3, x.count(4));
    }

    private static void promise17Refused() {
        OneGlove x = new OneGlove();
        due.is("tells(0, 0, 0), no GLOVE", -2, x.tells(0, 0, 0));
        x.glove(0, 0, 0);
        due.is("tells(0, 0, 0), missing", -11, x.tells(0, 0, 0));
        due.is("tells(-1, 0, 0)", -2, x.tells(-1, 0, 0));
        due.is("tells(4, 0, 0)", -2, x.tells(4, 0, 0));
        due.is("tells(0, 1, 0), missing", -2, x.tells(0, 1, 0));
        due.is("tells(0, 0, 6), missing", -2, x.tells(0, 0, 6));
        due.is("tells(0, 0, -1), missing", -2, x.tells(0, 0, -1));
        x.sheet(0, 1, 31);
        for (int what = 0; what < 6; what++) {
            due.is("tells(0, 0, " + what + "), 31 DAYS", -2, x.tells(0, 0, what));
        }
        x.sheet(0, 1, 30);
        due.is("tells(0, 0, 0), 30 DAYS", 20, x.tells(0, 0, 0));
        due.is("tells(0, 0, 6)", -2, x.tells(0, 0, 6));
        due.is("tells(0, -1, 0)", -2, x.tells(0, -1, 0));
    }

    private static void promise18() {
        OneGlove x = Told.under("shows 0; moves 3 - place * (4 < day); minds 0;");
        x.glove(4, 1, 2);
        x.sheet(1, 2, 40);
        x.cell(1, 0, 70000);
        due.is("film(1, 0, 30)", 30, x.film(1, 0, 30));
        due.is("tells(1, 0, 0)", -1, x.tells(1, 0, 0));
        // It has 30 items now, and they are bytes.
        due.is("cell(1, 30, 0)", -12, x.cell(1, 30, 0));
        due.is("cell(1, 29, 511)", 1, x.cell(1, 29, 511));
        due.is("a byte", -1, x.tells(1, 0, 0));
        x.sheet(2, 0, 30);
        due.is("copy(1, 0, 2, 0, 30)", 30, x.copy(1, 0, 2, 0, 30));
        due.is("tells(2, 0, 0)", -1, x.tells(2, 0, 0));
        due.is("film(3, 0, 0)", 0, x.film(3, 0, 0));
        due.is("cell(3, 0, 0)", -12, x.cell(3, 0, 0));
        due.is("film(1, 0, 5)", 5, x.film(1, 0, 5));
        due.is("cell(1, 5, 0)", -12, x.cell(1, 5, 0));
        due.is("tells(1, 0, 0)", -1, x.tells(1, 0, 0));
        x.set(4, 0, 3);
        due.is("tells(1, 0, 0)", 0, x.tells(1, 0, 0));
    }

    private static void promise18Refused() {
        OneGlove x = new OneGlove();
        due.is("film(0, 0, 0), no GLOVE", -2, x.film(0, 0, 0));
        x.glove(0, 0, 0);
        x.sheet(0, 2, 2);
        x.cell(0, 1, 70000);
        due.is("film(0, 0, -1)", -2, x.film(0, 0, -1));
        due.is("film(0, 0, 31)", -2, x.film(0, 0, 31));
        due.is("film(0, 1, 3)", -2, x.film(0, 1, 3));
        due.is("film(0, -1, 3)", -2, x.film(0, -1, 3));
        due.is("film(-1, 0, 3)", -2, x.film(-1, 0, 3));
        due.is("film(4, 0, 3)", -2, x.film(4, 0, 3));
        due.is("the SHEET is as it was", -12, x.cell(0, 2, 0));
        x.sheet(1, 2, 1);
        due.is("and of its sort", 1, x.copy(0, 1, 1, 0, 1));
    }

    private static int lotOf(int seed, int[] likely) {
        int z = seed;
        for (int day = 0; day < 30; day++) {
            z = z * 1103515245 + 12345;
            if ((z >>> 9) % 100 < likely[day]) {
                return day;
            }
        }
        return -1;
    }

    private static void promise19() {
        OneGlove x = Told.under("shows 9 - (day < 4) * 8; moves 0; minds 0;");
        x.glove(5, 0, 6);
        int[] likely = Told.likely(x, 0);
        int[] seeds = {0, 1, -1, 5, 77, -77, 123456789, Integer.MAX_VALUE, Integer.MIN_VALUE, 24, 99};
        for (int seed : seeds) {
            due.is("lot(0, " + seed + ")", lotOf(seed, likely), x.lot(0, seed));
        }
        for (int seed = 1000; seed < 1200; seed++) {
            due.is("lot(0, " + seed + ")", lotOf(seed, likely), x.lot(0, seed));
        }
        due.is("lot(-1, 0)", -2, x.lot(-1, 0));
        due.is("lot(1, 0)", -2, x.lot(1, 0));
        x.set(0, 0, 7);
        due.is("lot: she does not pass", -1, x.lot(0, 5));
        x = Told.under("shows 100; moves 0; minds 0;");
        x.glove(0, 0, 0);
        due.is("lot: surely", 0, x.lot(0, 31));
        x = Told.under("shows 100 * (day = 29); moves 0; minds 0;");
        x.glove(5, 0, 0);
        due.is("lot: on the last DAY", 29, x.lot(0, 31));
    }

    private static void promise20() {
        OneGlove x = Told.under("shows 3; moves 0; minds 0;");
        x.glove(5, 0, 6);
        int[] likely = Told.likely(x, 0);
        int[] seeds = {0, -10, 4711, Integer.MAX_VALUE - 4, Integer.MIN_VALUE};
        for (int seed : seeds) {
            int seen = 0;
            for (int n = 1; n <= 20; n++) {
                seen += lotOf(seed + n - 1, likely) >= 0 ? 1 : 0;
                int divisor = java.math.BigInteger.valueOf(seen).gcd(java.math.BigInteger.valueOf(n)).intValue();
                String of = "chance(0, " + seed + ", " + n + ", ";
                due.is(of + "0)", seen / divisor, x.chance(0, seed, n, 0));
                due.is(of + "1)", n / divisor, x.chance(0, seed, n, 1));
            }
        }
        x.set(1, 0, 0);
        due.is("chance: never, above", 0, x.chance(0, 0, 20, 0));
        due.is("chance: never, below", 1, x.chance(0, 0, 20, 1));
        int[][] none = {{-1, 5, 0}, {1, 5, 0}, {0, 0, 0}, {0, -1, 0}, {0, 21, 0}, {0, 5, -1}, {0, 5, 2}};
        for (int[] args : none) {
            due.is("chance(" + args[0] + ", 0, " + args[1] + ", " + args[2] + ")", Told.NO,
                    x.chance(args[0], 0, args[1], args[2]));
        }
    }

    private static void promise21() {
        OneGlove x = new OneGlove();
        due.is("image(), no GLOVES", 0, x.image());
        x.glove(0, 0, 0);
        due.is("image()", 1, x.image());
        x.glove(0, 0, 0);
        due.is("image()", 2, x.image());
        x.glove(0, 0, 0);
        due.is("back() to the last one", 2, x.back());
        due.is("count(0)", 2, x.count(0));
    }

    private static void promise22() {
        OneGlove x = new OneGlove();
        due.is("back(), no IMAGE", -3, x.back());
        Told.text(x, "shows 5; moves 1; minds 2;");
        x.glove(3, 4, 5);
        x.set(5, 0, 1);
        x.set(6, 0, 1);
        x.set(0, 0, 7);
        x.set(1, 0, 9);
        x.set(2, 0, 1);
        x.force(1);
        due.is("image()", 1, x.image());
        for (int round = 0; round < 2; round++) {
            x.glove(4, 9, 8);
            x.set(3, 0, 1);
            x.set(4, 0, 2);
            x.set(5, 0, 3);
            x.set(6, 0, 0);
            x.set(0, 0, 5);
            x.set(1, 0, 6);
            x.set(2, 0, 0);
            x.force(0);
            x.sheet(0, 0, 5 + round);
            x.feed(32);
            Told.text(x, "shows 5; moves 1; minds 2;");
            x.feed(32);
            due.is("back()", 1, x.back());
            int[] want = {7, 9, 1, 4, 5, 1, 1, 3, 24};
            for (int what = 0; what < 9; what++) {
                due.is("told(0, " + what + ")", want[what], x.told(0, what));
            }
            due.is("GLOVES", 1, x.count(0));
            due.is("THE RULE", 1, x.count(4));
            due.is("told(1, 3)", -2, x.told(1, 3));
            // What an IMAGE does not keep stays.
            due.is("TEXTS", 3 + round, x.count(2));
            due.is("THE TAPE", 1, x.count(3));
            due.is("SHEET 0", 1, x.cell(0, 4 + round, 0));
            x.text();
        }
        // One that comes where one went comes as it is told.
        x.glove(4, 9, 8);
        x.set(5, 1, 4);
        x.set(6, 1, 1);
        x.back();
        due.is("glove(2, 6, 7)", 1, x.glove(2, 6, 7));
        int[] want = {6, 7, 2, 0, 2};
        for (int what = 3; what < 8; what++) {
            due.is("told(1, " + what + ")", want[what - 3], x.told(1, what));
        }
        // All GLOVES, the last of them too.
        for (int i = 2; i < 6; i++) {
            x.glove(0, 1, i);
        }
        due.is("image()", 6, x.image());
        x.set(4, 5, 17);
        due.is("back()", 6, x.back());
        due.is("told(5, 4)", 5, x.told(5, 4));
    }
}

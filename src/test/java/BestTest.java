/** Promises 12 to 16: hang, walk, best, first, giveUp. */
public final class BestTest {
    private static final Due due = new Due();

    private BestTest() {
    }

    public static void main(String[] args) {
        promise12();
        promise12Ties();
        promise12Moving();
        promise13();
        promise13Far();
        promise13Ties();
        promise14();
        promise15();
        promise16();
        refused();
        due.end("BestTest");
    }

    private static void hangIs(OneGlove x, int glove, long where) {
        due.is("hang(" + glove + ", 0)", where, x.hang(glove, 0));
        // PARTS then are its PARTS when it hangs there.
        long then = x.hang(glove, 1);
        int place = x.set(4, glove, (int) where / 10);
        int height = x.set(5, glove, (int) where % 10);
        due.is("hang(" + glove + ", 1)", x.parts(glove, 30), then);
        x.set(4, glove, place);
        x.set(5, glove, height);
    }

    private static void promise12() {
        OneGlove x = Told.under("shows 5 + (place = 13) * 9 + (height = 3) * 2; moves 0; minds 0;");
        x.glove(0, 0, 2);
        x.set(5, 0, 1);
        hangIs(x, 0, 133);
        due.is("its PLACE is as it was", 2, x.told(0, 4));
        due.is("its HEIGHT is as it was", 1, x.told(0, 5));
        x.set(1, 0, 12);
        hangIs(x, 0, 3);
        x.set(0, 0, 4);
        hangIs(x, 0, 43);
        // On its SIDE: off hers, half.
        x = Told.under("shows 4 + height; moves 0; minds 0;");
        x.glove(0, 0, 2);
        x.set(6, 0, 1);
        hangIs(x, 0, 4);
        x.set(5, 0, 4);
        due.is("PARTS off her SIDE", x.parts(0, 30), x.hang(0, 1));
        x = Told.under("shows 50 - side * 40 - 3 * height; moves 0; minds 0;");
        x.glove(0, 0, 2);
        x.set(6, 0, 1);
        hangIs(x, 0, 0);
        due.is("PARTS on its SIDE", 641514082L, x.hang(0, 1));
    }

    private static void promise12Ties() {
        OneGlove x = Told.under("shows 5; moves 0; minds 0;");
        x.glove(0, 0, 9);
        hangIs(x, 0, 0);
        x.set(0, 0, 7);
        x.set(1, 0, 11);
        hangIs(x, 0, 70);
        x = Told.under("shows 0; moves 0; minds 0;");
        x.glove(0, 0, 9);
        hangIs(x, 0, 0);
        due.is("hang(0, 1): none", 0, x.hang(0, 1));
        // The last of all may be the best.
        x = Told.under("shows place + height * 2; moves 0; minds 0;");
        x.glove(0, 0, 9);
        hangIs(x, 0, 194);
    }

    private static void promise12Moving() {
        OneGlove x = Told.under("shows 20; moves 1; minds 0;");
        x.glove(0, 0, 9);
        x.set(0, 0, 12);
        x.set(1, 0, 14);
        // It stays for three DAYS wherever it comes in; 0 to 12 all come by.
        hangIs(x, 0, 0);
        due.is("hang(0, 1)", 488000000, x.hang(0, 1));
        x = Told.under("shows 20; moves 2 - height; minds 0;");
        x.glove(0, 0, 9);
        x.set(0, 0, 12);
        x.set(1, 0, 14);
        hangIs(x, 0, 122);
    }

    private static void walkIs(OneGlove x, int glove, long which) {
        due.is("walk(" + glove + ", 0)", which, x.walk(glove, 0));
        // PARTS then are the GLOVE's when she walks so.
        long then = x.walk(glove, 1);
        int from = x.set(0, 0, (int) which / 1000);
        int to = x.set(1, 0, (int) which % 1000 / 10);
        int side = x.set(2, 0, (int) which % 10);
        due.is("walk(" + glove + ", 1)", x.parts(glove, 30), then);
        x.set(0, 0, from);
        x.set(1, 0, to);
        x.set(2, 0, side);
    }

    private static void promise13() {
        OneGlove x = Told.under("shows 40; moves day < 3; minds 0;");
        x.glove(0, 0, 9);
        walkIs(x, 0, 1000 * 12 + 10 * 12);
        due.is("FROM is as it was", 0, x.told(0, 0));
        due.is("TO is as it was", 19, x.told(0, 1));
        x.set(6, 0, 1);
        walkIs(x, 0, 1000 * 12 + 10 * 12 + 1);
        due.is("her SIDE is as it was", 0, x.told(0, 2));
        x = Told.under("shows 4; moves 1; minds 0;");
        x.glove(0, 0, 9);
        // 11 PLACES until it stays, and the DAYS there.
        walkIs(x, 0, 1000 * 9 + 10 * 19);
        x.set(6, 0, 1);
        walkIs(x, 0, 1000 * 9 + 10 * 19 + 1);
        // What a PLACE more brings is just what it costs: the first of both.
        x = Told.under("shows 90 * (day = 0) + (day = 1); moves 1; minds 0;");
        x.glove(0, 0, 9);
        walkIs(x, 0, 1000 * 9 + 10 * 9);
        x = Told.under("shows 90 * (day = 0) + (day = 1); moves -1; minds 0;");
        x.glove(0, 0, 9);
        walkIs(x, 0, 1000 * 8 + 10 * 9);
        x = Told.under("shows 100 * (day = 3) + (day < 3) * 90; moves 1; minds 0;");
        x.glove(0, 0, 9);
        walkIs(x, 0, 1000 * 12 + 10 * 12);
        x = Told.under("shows 60; moves day < 1; minds 0;");
        x.glove(0, 0, 18);
        walkIs(x, 0, 1000 * 19 + 10 * 19);
    }

    private static void promise13Far() {
        // From each FROM it is otherwise far off, and so goes otherwise.
        OneGlove x = Told.under("shows far * 9; moves 0; minds 0;");
        x.glove(0, 0, 9);
        walkIs(x, 0, 1000 * 5 + 10 * 9);
        x.set(0, 0, 17);
        walkIs(x, 0, 1000 * 5 + 10 * 9);
        x = Told.under("shows 30 - far; moves far = 4; minds 0;");
        x.glove(0, 0, 9);
        walkIs(x, 0, 1000 * 9 + 10 * 9);
        // FROM is no more than TO: she can't come from far to the first PLACE.
        x = Told.under("shows far * 9; moves 0; minds 0;");
        x.glove(0, 0, 0);
        walkIs(x, 0, 0);
        due.is("walk(0, 1)", 0, x.walk(0, 1));
        x = Told.under("shows 30; moves 1 - (far = 4); minds 0;");
        x.glove(0, 0, 2);
        // FROM 0 it stays on 4; FROM 6 it would stay on 2, and she not pass it.
        walkIs(x, 0, 40);
    }

    private static void promise13Ties() {
        // Nothing is ever seen: the shortest, the first of them.
        OneGlove x = Told.under("shows 0; moves 0; minds 0;");
        x.glove(0, 0, 9);
        walkIs(x, 0, 0);
        due.is("walk(0, 1)", 0, x.walk(0, 1));
        // RED shows as much on the one SIDE as on the other.
        x.glove(2, 0, 9);
        walkIs(x, 1, 9090);
        x.set(6, 1, 1);
        walkIs(x, 1, 9090);
        // Surely on two of the PLACES.
        x = Told.under("shows 100; moves 1; minds 0;");
        x.glove(0, 0, 9);
        walkIs(x, 0, 9090);
    }

    private static void promise14() {
        OneGlove x = Told.under("shows 50 - (day - 6) * (day - 6); moves 0; minds 0;");
        x.glove(0, 0, 9);
        due.is("best(0, 0)", 6, x.best(0, 0));
        due.is("best(0, 1)", 50, x.best(0, 1));
        x.set(6, 0, 1);
        due.is("best(0, 0): like ones", 6, x.best(0, 0));
        due.is("best(0, 1): half", 25, x.best(0, 1));
        x = Told.under("shows 5 + (4 < day) + (17 < day); moves 0; minds 0;");
        x.glove(0, 0, 9);
        due.is("best(0, 0): the first", 18, x.best(0, 0));
        due.is("best(0, 1)", 7, x.best(0, 1));
        x.glove(4, 0, 9);
        due.is("best(1, 0): gone by then", 5, x.best(1, 0));
        due.is("best(1, 1)", 26, x.best(1, 1));
        x.set(0, 0, 10);
        due.is("best(0, 0): never", 0, x.best(0, 0));
        due.is("best(0, 1): never", 0, x.best(0, 1));
        x = Told.under("shows day; moves 0; minds 0;");
        x.glove(5, 0, 9);
        due.is("best(0, 0): the last DAY", 29, x.best(0, 0));
        for (int day = 0; day < 30; day++) {
            x = Told.under("shows 7 + (day = " + day + "); moves 0; minds 0;");
            x.glove(5, 0, 9);
            due.is("best(0, 0): on DAY " + day, day, x.best(0, 0));
            due.is("best(0, 1): on DAY " + day, 8, x.best(0, 1));
        }
    }

    private static void promise15() {
        OneGlove x = Told.under("shows number + 20 * (day = 4) * (place = 3); moves 0; minds 0;");
        due.is("first(0, 0)", -1, x.first(0, 0));
        due.is("first(30, 0)", -1, x.first(30, 0));
        due.is("first(30, 1)", -1, x.first(30, 1));
        x.glove(0, 3, 9);
        x.glove(0, 1, 3);
        x.glove(0, 4, 9);
        x.glove(0, 4, 12);
        due.is("first(0, 0)", 0, x.first(0, 0));
        due.is("first(0, 1)", 0, x.first(0, 1));
        due.is("first(1, 0): like ones", 2, x.first(1, 0));
        due.is("first(1, 1)", 40000000, x.first(1, 1));
        due.is("first(5, 0)", 1, x.first(5, 0));
        due.is("first(5, 1)", x.parts(1, 5), x.first(5, 1));
        due.is("first(30, 0)", 2, x.first(30, 0));
        due.is("first(30, 1)", x.parts(3, 30), x.first(30, 1));
        x.glove(0, 5, 9);
        x.glove(0, 9, 19);
        due.is("first(30, 0)", 5, x.first(30, 0));
        x.set(1, 0, 18);
        due.is("first(30, 0)", 4, x.first(30, 0));
        x.set(1, 0, 0);
        due.is("first(30, 0): none is seen", 0, x.first(30, 0));
        due.is("first(30, 1): none is seen", 0, x.first(30, 1));
    }

    private static void promise16() {
        OneGlove x = Told.under("shows 50 - (day - 6) * (day - 6); moves 0; minds 0;");
        x.glove(5, 0, 9);
        due.is("giveUp(0, 50)", 7, x.giveUp(0, 50));
        due.is("giveUp(0, 51)", 0, x.giveUp(0, 51));
        due.is("giveUp(0, 49)", 8, x.giveUp(0, 49));
        due.is("giveUp(0, 1)", 14, x.giveUp(0, 1));
        due.is("giveUp(0, 100)", 0, x.giveUp(0, 100));
        // Days without it in between don't matter.
        x = Told.under("shows 100 * (day = 2 or day = 11); moves 0; minds 0;");
        x.glove(0, 0, 9);
        due.is("giveUp(0, 100)", 12, x.giveUp(0, 100));
        x = Told.under("shows 30; moves 0; minds 0;");
        x.glove(5, 0, 9);
        x.glove(1, 7, 9);
        due.is("giveUp(0, 30): on DAY 29", 30, x.giveUp(0, 30));
        due.is("giveUp(0, 31)", 0, x.giveUp(0, 31));
        due.is("giveUp(1, 15): till it is gone", 27, x.giveUp(1, 15));
    }

    private static void refused() {
        OneGlove x = new OneGlove();
        x.glove(0, 0, 0);
        int[][] none = {{-1, 0}, {1, 0}, {6, 0}, {0, -1}, {0, 2}, {Integer.MIN_VALUE, 1}};
        for (int[] args : none) {
            String of = "(" + args[0] + ", " + args[1] + ")";
            due.is("hang" + of, Told.NO, x.hang(args[0], args[1]));
            due.is("walk" + of, Told.NO, x.walk(args[0], args[1]));
            due.is("best" + of, -2, x.best(args[0], args[1]));
        }
        due.is("first(-1, 0)", Told.NO, x.first(-1, 0));
        due.is("first(31, 0)", Told.NO, x.first(31, 0));
        due.is("first(0, -1)", Told.NO, x.first(0, -1));
        due.is("first(0, 2)", Told.NO, x.first(0, 2));
        OneGlove y = new OneGlove();
        due.is("first(31, 0), no GLOVES", Told.NO, y.first(31, 0));
        due.is("first(0, 2), no GLOVES", Told.NO, y.first(0, 2));
        due.is("giveUp(0, 1), no GLOVES", -2, y.giveUp(0, 1));
        due.is("giveUp(-1, 1)", -2, x.giveUp(-1, 1));
        due.is("giveUp(1, 1)", -2, x.giveUp(1, 1));
        due.is("giveUp(0, 0)", -2, x.giveUp(0, 0));
        due.is("giveUp(0, -7)", -2, x.giveUp(0, -7));
        due.is("giveUp(0, 101)", -2, x.giveUp(0, 101));
    }
}

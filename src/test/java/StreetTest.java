/** Promises 1 to 4 and 23: a new object, set, glove, told, count. */
public final class StreetTest {
    private static final Due due = new Due();

    private StreetTest() {
    }

    public static void main(String[] args) {
        promise1();
        promise2();
        promise2Refused();
        promise3();
        promise4();
        promise4Lasts();
        promise23();
        due.end("StreetTest");
    }

    private static void promise1() {
        OneGlove x = new OneGlove();
        due.is("new: count(0)", 0, x.count(0));
        due.is("new: count(1)", 20, x.count(1));
        due.is("new: count(2)", 1, x.count(2));
        due.is("new: count(3)", 0, x.count(3));
        due.is("new: count(4)", 0, x.count(4));
        due.is("new: told(0, 0)", 0, x.told(0, 0));
        due.is("new: told(0, 1)", 19, x.told(0, 1));
        due.is("new: told(0, 2)", 0, x.told(0, 2));
        due.is("new: told(0, 3)", -2, x.told(0, 3));
        due.is("new: first(30, 0)", -1, x.first(30, 0));
        due.is("new: back()", -3, x.back());
        for (int sheet = 0; sheet < 4; sheet++) {
            due.is("new: cell(" + sheet + ", 0, 0)", -11, x.cell(sheet, 0, 0));
        }
        // Another one has a state of its own.
        x.glove(0, 0, 0);
        x.set(0, 0, 3);
        OneGlove y = new OneGlove();
        due.is("another: count(0)", 0, y.count(0));
        due.is("another: told(0, 0)", 0, y.told(0, 0));
    }

    private static void promise2() {
        OneGlove x = new OneGlove();
        due.is("set(0, 77, 4)", 0, x.set(0, 77, 4));
        due.is("set(0, -5, 19)", 4, x.set(0, -5, 19));
        due.is("set(1, 99, 0)", 19, x.set(1, 99, 0));
        due.is("set(1, -1, 7)", 0, x.set(1, -1, 7));
        due.is("set(2, 6, 1)", 0, x.set(2, 6, 1));
        due.is("set(2, -2, 0)", 1, x.set(2, -2, 0));
        due.is("told(0, 0)", 19, x.told(0, 0));
        due.is("told(0, 1)", 7, x.told(0, 1));
        due.is("told(0, 2)", 0, x.told(0, 2));
        x.glove(3, 8, 6);
        x.glove(4, 7, 5);
        due.is("set(3, 0, 9)", 8, x.set(3, 0, 9));
        due.is("set(3, 0, 0)", 9, x.set(3, 0, 0));
        due.is("set(4, 0, 19)", 6, x.set(4, 0, 19));
        due.is("set(4, 0, 0)", 19, x.set(4, 0, 0));
        due.is("set(5, 0, 4)", 2, x.set(5, 0, 4));
        due.is("set(5, 0, 0)", 4, x.set(5, 0, 0));
        due.is("set(6, 0, 1)", 0, x.set(6, 0, 1));
        due.is("set(6, 0, 0)", 1, x.set(6, 0, 0));
        // The other one is as it was.
        due.is("told(1, 3)", 7, x.told(1, 3));
        due.is("told(1, 4)", 5, x.told(1, 4));
        due.is("told(1, 5)", 2, x.told(1, 5));
        due.is("told(1, 6)", 0, x.told(1, 6));
        due.is("set(3, 1, 3)", 7, x.set(3, 1, 3));
        due.is("told(1, 3)", 3, x.told(1, 3));
        due.is("told(0, 3)", 0, x.told(0, 3));
    }

    private static void promise2Refused() {
        OneGlove x = new OneGlove();
        x.glove(1, 2, 3);
        int[] above = {20, 20, 2, 10, 20, 5, 2};
        for (int what = 0; what < 7; what++) {
            int was = x.told(0, what);
            due.is("set(" + what + ", 0, -1)", -2, x.set(what, 0, -1));
            due.is("set(" + what + ", 0, above)", -2, x.set(what, 0, above[what]));
            due.is("set(" + what + ", 0, least)", -2, x.set(what, 0, Integer.MIN_VALUE));
            due.is("set(" + what + ", 0, most)", -2, x.set(what, 0, Integer.MAX_VALUE));
            due.is("told after a refusal", was, x.told(0, what));
            due.is("set(" + what + ", 0, last)", was, x.set(what, 0, above[what] - 1));
            due.is("told", above[what] - 1, x.told(0, what));
        }
        for (int what = 3; what < 7; what++) {
            due.is("set(" + what + ", 1, 0)", -2, x.set(what, 1, 0));
            due.is("set(" + what + ", -1, 0)", -2, x.set(what, -1, 0));
            due.is("set(" + what + ", 6, 0)", -2, x.set(what, 6, 0));
        }
        due.is("set(-1, 0, 0)", -2, x.set(-1, 0, 0));
        due.is("set(7, 0, 0)", -2, x.set(7, 0, 0));
        due.is("set(8, 0, 0)", -2, x.set(8, 0, 0));
    }

    private static void promise3() {
        OneGlove x = new OneGlove();
        due.is("glove(-1, 0, 0)", -2, x.glove(-1, 0, 0));
        due.is("glove(6, 0, 0)", -2, x.glove(6, 0, 0));
        due.is("glove(0, -1, 0)", -2, x.glove(0, -1, 0));
        due.is("glove(0, 10, 0)", -2, x.glove(0, 10, 0));
        due.is("glove(0, 0, -1)", -2, x.glove(0, 0, -1));
        due.is("glove(0, 0, 20)", -2, x.glove(0, 0, 20));
        due.is("count(0)", 0, x.count(0));
        for (int i = 0; i < 6; i++) {
            due.is("glove " + i, i, x.glove(i, 9 - i, 19 - i));
        }
        for (int i = 0; i < 6; i++) {
            due.is("KIND", i, x.told(i, 7));
            due.is("NUMBER", 9 - i, x.told(i, 3));
            due.is("PLACE", 19 - i, x.told(i, 4));
            due.is("HEIGHT", 2, x.told(i, 5));
            due.is("SIDE", 0, x.told(i, 6));
        }
        due.is("a seventh", -4, x.glove(0, 0, 0));
        due.is("a bad seventh", -2, x.glove(0, 0, 20));
        due.is("count(0)", 6, x.count(0));
    }

    private static void promise4() {
        OneGlove x = new OneGlove();
        x.set(0, 0, 3);
        x.set(1, 0, 2);
        x.set(2, 0, 1);
        due.is("told(-9, 0)", 3, x.told(-9, 0));
        due.is("told(9, 1)", 2, x.told(9, 1));
        due.is("told(6, 2)", 1, x.told(6, 2));
        x.glove(5, 4, 17);
        x.set(5, 0, 3);
        x.set(6, 0, 1);
        int[] want = {3, 2, 1, 4, 17, 3, 1, 5, 30};
        for (int what = 0; what < 9; what++) {
            due.is("told(0, " + what + ")", want[what], x.told(0, what));
        }
        for (int what = 3; what < 9; what++) {
            due.is("told(1, " + what + ")", -2, x.told(1, what));
            due.is("told(-1, " + what + ")", -2, x.told(-1, what));
        }
        due.is("told(0, 9)", -2, x.told(0, 9));
        due.is("told(0, -1)", -2, x.told(0, -1));
    }

    private static void promise4Lasts() {
        int[] none = {20, 20, 20, 20, 10, 30};
        int[] eachMore = {0, 1, 0, 1, 0, 0};
        for (int kind = 0; kind < 6; kind++) {
            OneGlove x = new OneGlove();
            x.glove(kind, 0, 0);
            for (int number = 0; number < 10; number++) {
                x.set(3, 0, number);
                int want = none[kind] + eachMore[kind] * number;
                due.is("LASTS of KIND " + kind + ", NUMBER " + number, want, x.told(0, 8));
            }
        }
    }

    private static void promise23() {
        OneGlove x = new OneGlove();
        x.glove(0, 0, 0);
        x.glove(0, 0, 0);
        due.is("count(0)", 2, x.count(0));
        x.set(0, 0, 12);
        x.set(1, 0, 5);
        due.is("count(1) leftward", 8, x.count(1));
        x.set(1, 0, 12);
        due.is("count(1) at one place", 1, x.count(1));
        due.is("text", 1, Told.text(x, "shows 1;moves 1;minds 1;"));
        x.feed(65);
        x.feed(66);
        due.is("count(2)", 2, x.count(2));
        due.is("count(3)", 2, x.count(3));
        due.is("count(4)", 0, x.count(4));
        x.force(1);
        due.is("count(4)", 1, x.count(4));
        due.is("count(5)", -2, x.count(5));
        due.is("count(-1)", -2, x.count(-1));
    }
}

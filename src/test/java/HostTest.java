/** Promises 24 to 28: sheet, cell, copy, gloves, taken. */
public final class HostTest {
    private static final Due due = new Due();
    private static final int LEAST = Integer.MIN_VALUE;
    private static final int MOST = Integer.MAX_VALUE;

    private HostTest() {
    }

    public static void main(String[] args) {
        promise24();
        promise25();
        promise26();
        promise26Refused();
        promise26Order();
        promise27();
        promise27Refused();
        promise27Outside();
        promise28();
        due.end("HostTest");
    }

    private static void rowIs(OneGlove x, int sheet, int sort, int... want) {
        for (int i = 0; i < want.length; i++) {
            due.is("item " + i + " of SHEET " + sheet + ", sort " + sort, want[i], Told.item(x, sheet, sort, i));
        }
    }

    private static void promise24() {
        OneGlove x = new OneGlove();
        x.glove(0, 0, 0);
        for (int sheet = 0; sheet < 3; sheet++) {
            due.is("sheet(" + sheet + ", sort, 40)", 1, x.sheet(sheet, sheet, 40));
            due.is("its last item", 1, x.cell(sheet, 39, 5));
            due.is("behind it", -12, x.cell(sheet, 40, 5));
        }
        due.is("sheet(3, 0, 0)", 1, x.sheet(3, 0, 0));
        due.is("none in it", -12, x.cell(3, 0, 0));
        due.is("sheet(0, 1, 3)", 1, x.sheet(0, 1, 3));
        rowIs(x, 0, 1, 0, 0, 0);
        x.cell(0, 0, 7);
        x.cell(0, 2, 9);
        due.is("sheet(0, 1, 3) anew", 1, x.sheet(0, 1, 3));
        rowIs(x, 0, 1, 0, 0, 0);
        due.is("sheet(0, -1, -99)", 1, x.sheet(0, -1, -99));
        due.is("missing", -11, x.cell(0, 0, 0));
        due.is("sheet(1, -1, 99)", 1, x.sheet(1, -1, 99));
        due.is("missing", -11, x.cell(1, 0, 0));
        due.is("missing already", 1, x.sheet(1, -1, 0));
        due.is("sheet(-1, 0, 0)", -2, x.sheet(-1, 0, 0));
        due.is("sheet(4, 0, 0)", -2, x.sheet(4, 0, 0));
        due.is("sheet(4, -1, 0)", -2, x.sheet(4, -1, 0));
        due.is("sheet(0, -2, 0)", -2, x.sheet(0, -2, 0));
        due.is("sheet(0, 3, 0)", -2, x.sheet(0, 3, 0));
        due.is("sheet(0, 3, -1)", -2, x.sheet(0, 3, -1));
        due.is("sheet(0, 0, 41)", -2, x.sheet(0, 0, 41));
        due.is("sheet(0, 0, most)", -2, x.sheet(0, 0, MOST));
        due.is("sheet(0, 0, -1)", -14, x.sheet(0, 0, -1));
        due.is("sheet(0, 2, least)", -14, x.sheet(0, 2, LEAST));
        due.is("sheet(4, 0, -1)", -2, x.sheet(4, 0, -1));
        // Refusals change nothing.
        due.is("SHEET 0 is missing still", -11, x.cell(0, 0, 0));
        x.sheet(2, 0, 5);
        x.sheet(2, 0, 41);
        x.sheet(2, 0, -1);
        x.sheet(2, 3, 1);
        due.is("SHEET 2 has five still", 1, x.cell(2, 4, 0));
    }

    private static void promise25() {
        int[] v = {5, 256 + 6, 65536 + 7, -1, -257, 255, 65535, 128, -250};
        int[][] want = {
            {5, 6, 7, -1, -1, -1, -1, -99, 6},
            {5, -99, 7, -1, -99, -99, -1, -99, -99},
            {5, -99, -99, -1, -99, -99, -99, -99, -99}};
        for (int sort = 0; sort < 3; sort++) {
            for (int i = 0; i < v.length; i++) {
                OneGlove x = new OneGlove();
                x.glove(0, 0, 0);
                x.sheet(0, sort, 2);
                due.is("cell(0, 1, " + v[i] + ")", 1, x.cell(0, 1, v[i]));
                rowIs(x, 0, sort, 0, want[sort][i]);
            }
        }
        OneGlove x = new OneGlove();
        x.sheet(0, 2, 2);
        due.is("cell(0, -1, 0)", -12, x.cell(0, -1, 0));
        due.is("cell(0, 2, 0)", -12, x.cell(0, 2, 0));
        due.is("cell(0, most, 0)", -12, x.cell(0, MOST, 0));
        due.is("cell(0, least, 0)", -12, x.cell(0, LEAST, 0));
        due.is("cell(-1, 0, 0)", -2, x.cell(-1, 0, 0));
        due.is("cell(4, 0, 0)", -2, x.cell(4, 0, 0));
        due.is("cell(1, 0, 0)", -11, x.cell(1, 0, 0));
        due.is("cell(1, -1, 0)", -11, x.cell(1, -1, 0));
    }

    private static void promise26() {
        for (int sort = 0; sort < 3; sort++) {
            OneGlove x = new OneGlove();
            x.glove(0, 0, 0);
            Told.row(x, 0, sort, new int[] {1, 2, 3, 4, 5, 6});
            Told.row(x, 1, sort, new int[] {11, 12, 13, 14});
            due.is("copy(0, 1, 1, 2, 2)", 2, x.copy(0, 1, 1, 2, 2));
            rowIs(x, 1, sort, 11, 12, 2, 3);
            rowIs(x, 0, sort, 1, 2, 3, 4, 5, 6);
            due.is("copy(0, 0, 0, 2, 4)", 4, x.copy(0, 0, 0, 2, 4));
            rowIs(x, 0, sort, 1, 2, 1, 2, 3, 4);
            due.is("copy(0, 1, 0, 0, 5)", 5, x.copy(0, 1, 0, 0, 5));
            rowIs(x, 0, sort, 2, 1, 2, 3, 4, 4);
            due.is("copy(1, 0, 0, 2, 4)", 4, x.copy(1, 0, 0, 2, 4));
            rowIs(x, 0, sort, 2, 1, 11, 12, 2, 3);
            x.sheet(2, sort, 40);
            x.cell(2, 39, 19);
            due.is("copy(2, 39, 2, 0, 1)", 1, x.copy(2, 39, 2, 0, 1));
            due.is("copy(2, 0, 2, 0, 40)", 40, x.copy(2, 0, 2, 0, 40));
            due.is("copy(2, 0, 2, 1, 39)", 39, x.copy(2, 0, 2, 1, 39));
            rowIs(x, 2, sort, 19, 19, 0);
            due.is("copy(0, 6, 1, 4, 0)", 0, x.copy(0, 6, 1, 4, 0));
            rowIs(x, 1, sort, 11, 12, 2, 3);
        }
    }

    private static void promise26Refused() {
        OneGlove x = new OneGlove();
        x.glove(0, 0, 0);
        Told.row(x, 0, 1, new int[] {1, 2, 3});
        Told.row(x, 1, 1, new int[] {4, 5});
        int[][] outside = {
            {-1, 0, 1}, {0, -1, 1}, {0, 0, -1}, {3, 0, 1}, {0, 2, 1}, {0, 0, 3}, {2, 0, 2}, {4, 0, 0},
            {0, 3, 0}, {MOST, 0, 1}, {0, MOST, 1}, {0, 0, MOST}, {1, 0, MOST}, {0, 1, MOST},
            {0, 0, LEAST}, {LEAST, 0, 1}, {0, LEAST, 1}, {MOST, MOST, MOST}, {LEAST, LEAST, LEAST},
            {3, 2, LEAST}, {3, 2, -1}};
        for (int[] args : outside) {
            due.is("copy(0, " + args[0] + ", 1, " + args[1] + ", " + args[2] + ")", -12,
                    x.copy(0, args[0], 1, args[1], args[2]));
        }
        rowIs(x, 1, 1, 4, 5);
    }

    private static void promise26Order() {
        OneGlove x = new OneGlove();
        x.sheet(0, 1, 3);
        x.sheet(1, 2, 3);
        due.is("copy(-1, 0, 2, 0, -1)", -2, x.copy(-1, 0, 2, 0, -1));
        due.is("copy(0, 0, 4, 0, 1)", -2, x.copy(0, 0, 4, 0, 1));
        due.is("copy(2, 0, 4, 0, 1)", -2, x.copy(2, 0, 4, 0, 1));
        due.is("copy(4, 0, 2, 0, 1)", -2, x.copy(4, 0, 2, 0, 1));
        due.is("copy(0, 0, 2, 0, 1)", -11, x.copy(0, 0, 2, 0, 1));
        due.is("copy(2, 0, 0, 0, -1)", -11, x.copy(2, 0, 0, 0, -1));
        due.is("copy(2, 0, 2, 0, 0)", -11, x.copy(2, 0, 2, 0, 0));
        due.is("copy(0, 0, 1, 0, 1)", -13, x.copy(0, 0, 1, 0, 1));
        due.is("copy(0, 9, 1, 0, -1)", -13, x.copy(0, 9, 1, 0, -1));
        due.is("copy(1, 0, 0, 0, 0)", -13, x.copy(1, 0, 0, 0, 0));
    }

    private static void gloveIs(OneGlove x, int glove, int kind, int number, int place) {
        due.is("KIND of " + glove, kind, x.told(glove, 7));
        due.is("NUMBER of " + glove, number, x.told(glove, 3));
        due.is("PLACE of " + glove, place, x.told(glove, 4));
        due.is("HEIGHT of " + glove, 2, x.told(glove, 5));
        due.is("SIDE of " + glove, 0, x.told(glove, 6));
    }

    private static void promise27() {
        for (int sort = 0; sort < 3; sort++) {
            OneGlove x = new OneGlove();
            Told.row(x, 2, sort, new int[] {9, 5, 9, 19, 6, 0, 0, 0, 10, 0, 0, 0, 20, -1, 2, 3, 0, 0, 0, 7});
            due.is("gloves(2, " + sort + ", 1, 6)", 2, x.gloves(2, sort, 1, 6));
            due.is("GLOVES", 2, x.count(0));
            gloveIs(x, 0, 5, 9, 19);
            gloveIs(x, 1, 0, 0, 0);
            due.is("gloves, none", 0, x.gloves(2, sort, 0, 0));
            due.is("gloves, the last three", 0, x.gloves(2, sort, 13, 1));
            due.is("gloves, the like three", 1, x.gloves(2, sort, 1, 1));
            due.is("gloves, one on", 1, x.gloves(2, sort, 16, 1));
            gloveIs(x, 3, 0, 0, 0);
            due.is("GLOVES", 4, x.count(0));
            // There is room for two more.
            Told.row(x, 1, sort, new int[] {1, 1, 1, 7, 7, 7, 2, 2, 2, 3, 3, 3, 4, 4, 4});
            due.is("gloves, four for two", 2, x.gloves(1, sort, 0, 5));
            gloveIs(x, 4, 1, 1, 1);
            gloveIs(x, 5, 2, 2, 2);
            due.is("gloves, no room", 0, x.gloves(1, sort, 0, 5));
            due.is("gloves, no room, outside", -12, x.gloves(1, sort, 0, 6));
            due.is("GLOVES", 6, x.count(0));
        }
    }

    private static void promise27Refused() {
        OneGlove x = new OneGlove();
        x.sheet(0, 1, 40);
        due.is("gloves(-1, 1, 0, 1)", -2, x.gloves(-1, 1, 0, 1));
        due.is("gloves(4, 1, 0, 1)", -2, x.gloves(4, 1, 0, 1));
        due.is("gloves(0, -1, 0, 1)", -2, x.gloves(0, -1, 0, 1));
        due.is("gloves(0, 3, 0, 1)", -2, x.gloves(0, 3, 0, 1));
        due.is("gloves(0, 1, 0, -1)", -2, x.gloves(0, 1, 0, -1));
        due.is("gloves(0, 1, 0, 7)", -2, x.gloves(0, 1, 0, 7));
        due.is("gloves(1, 1, 0, 7)", -2, x.gloves(1, 1, 0, 7));
        due.is("gloves(0, 0, 0, 7)", -2, x.gloves(0, 0, 0, 7));
        due.is("gloves(0, 0, 0, 1)", -13, x.gloves(0, 0, 0, 1));
        due.is("gloves(0, 2, -1, 0)", -13, x.gloves(0, 2, -1, 0));
        due.is("gloves(1, 0, 0, 1)", -11, x.gloves(1, 0, 0, 1));
        due.is("gloves(1, 2, -1, 0)", -11, x.gloves(1, 2, -1, 0));
        due.is("GLOVES", 0, x.count(0));
    }

    private static void promise27Outside() {
        OneGlove x = new OneGlove();
        Told.row(x, 0, 0, new int[] {1, 1, 1, 9, 9, 9, 2, 2});
        due.is("gloves(0, 0, 0, 3)", -12, x.gloves(0, 0, 0, 3));
        due.is("what stood ahead came", 1, x.count(0));
        gloveIs(x, 0, 1, 1, 1);
        due.is("gloves(0, 0, -1, 1)", -12, x.gloves(0, 0, -1, 1));
        due.is("gloves(0, 0, -3, 2)", -12, x.gloves(0, 0, -3, 2));
        due.is("gloves(0, 0, 6, 1)", -12, x.gloves(0, 0, 6, 1));
        due.is("gloves(0, 0, 8, 1)", -12, x.gloves(0, 0, 8, 1));
        due.is("gloves(0, 0, most, 6)", -12, x.gloves(0, 0, MOST, 6));
        due.is("gloves(0, 0, least, 6)", -12, x.gloves(0, 0, LEAST, 6));
        due.is("GLOVES", 1, x.count(0));
    }

    private static void promise28() {
        int[] under = {0b000001, 0b000011, 0b000101, 0b001011, 0b010101, 0b100001};
        OneGlove x = new OneGlove();
        for (int kind = 0; kind < 6; kind++) {
            x.glove(kind, 9 - kind, 0);
            for (int k = 0; k < 6; k++) {
                int want = (under[kind] >> k & 1) == 1 ? 9 - kind : -13;
                due.is("taken(" + kind + ", " + k + ")", want, x.taken(kind, k));
            }
        }
        x.set(3, 4, 0);
        due.is("taken(4, 2)", 0, x.taken(4, 2));
        due.is("taken(0, -1)", -2, x.taken(0, -1));
        due.is("taken(0, 6)", -2, x.taken(0, 6));
        due.is("taken(6, 6)", -2, x.taken(6, 6));
        due.is("taken(6, 0)", -11, x.taken(6, 0));
        due.is("taken(-1, 0)", -11, x.taken(-1, 0));
    }
}

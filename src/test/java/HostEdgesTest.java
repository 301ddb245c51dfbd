/** The edges that the document names: the host, promises 24 to 28, a sentence at a time. */
public final class HostEdgesTest {
    private static final Due due = new Due();
    private static final int LEAST = Integer.MIN_VALUE;
    private static final int MOST = Integer.MAX_VALUE;
    private static final int[] NO_SHEET = {-1, 4, 5, LEAST, MOST};

    private HostEdgesTest() {
    }

    public static void main(String[] args) {
        sheets();
        sheetBecomes();
        sheetMissing();
        sheetRefused();
        sorts();
        lowestBits();
        cellRefused();
        copies();
        copiesAsTheyWere();
        copyRefused();
        copyOutside();
        glovesFromOneOn();
        glovesLeftOut();
        glovesRefused();
        glovesOutside();
        takenForOne();
        takenRefused();
        due.end("HostEdgesTest");
    }

    /** An object by which items can be read: GLOVE 0 stays on its PLACE till it is gone, on DAY 20. */
    private static OneGlove reader() {
        OneGlove x = new OneGlove();
        x.glove(0, 0, 0);
        return x;
    }

    /** The row holds these, of this sort, and no more; SHEET 3 is used for looking. */
    private static void rowIs(OneGlove x, int sheet, int sort, int... want) {
        due.is("SHEET " + sheet + " ends behind " + want.length, -12, x.copy(sheet, 0, sheet, 0, want.length + 1));
        for (int i = 0; i < want.length; i++) {
            due.is("item " + i + " of SHEET " + sheet + ", sort " + sort, want[i], Told.item(x, sheet, sort, i));
        }
    }

    private static void sheets() {
        due.sentence("SHEETS 0 .. 3 are rows of numbers, or missing (as all are at first)");
        for (int sheet = 0; sheet < 4; sheet++) {
            OneGlove x = new OneGlove();
            x.glove(0, 0, 0);
            due.is("cell(" + sheet + ", 0, 0)", -11, x.cell(sheet, 0, 0));
            due.is("tells(" + sheet + ", 0, 0)", -11, x.tells(sheet, 0, 0));
            due.is("copy(" + sheet + ", 0, " + sheet + ", 0, 0)", -11, x.copy(sheet, 0, sheet, 0, 0));
            due.is("gloves(" + sheet + ", 0, 0, 0)", -11, x.gloves(sheet, 0, 0, 0));
            due.is("sheet(" + sheet + ", 0, 1)", 1, x.sheet(sheet, 0, 1));
            due.is("cell(" + sheet + ", 0, 0)", 1, x.cell(sheet, 0, 0));
            for (int other = 0; other < 4; other++) {
                if (other != sheet) {
                    due.is("cell(" + other + ", 0, 0)", -11, x.cell(other, 0, 0));
                }
            }
        }
        OneGlove x = new OneGlove();
        for (int sheet : NO_SHEET) {
            due.is("sheet(" + sheet + ", 0, 1)", -2, x.sheet(sheet, 0, 1));
        }
    }

    private static void sheetBecomes() {
        due.sentence("A SHEET becomes a row of n of a sort, all 0");
        OneGlove x = new OneGlove();
        int[] sizes = {0, 1, 39, 40};
        for (int sort = 0; sort < 3; sort++) {
            for (int n : sizes) {
                due.is("sheet(1, " + sort + ", " + n + ")", 1, x.sheet(1, sort, n));
                due.is("behind the last", -12, x.cell(1, n, 5));
                due.is("the last", n == 0 ? -12 : 1, x.cell(1, n - 1, 5));
            }
        }
        for (int sort = 0; sort < 3; sort++) {
            x = reader();
            x.sheet(0, sort, 3);
            rowIs(x, 0, sort, 0, 0, 0);
            x.cell(0, 0, 7);
            x.cell(0, 2, 9);
            rowIs(x, 0, sort, 7, 0, 9);
            // Anew, all is 0 again, also behind a shorter one.
            x.sheet(0, sort, 1);
            x.sheet(0, sort, 3);
            rowIs(x, 0, sort, 0, 0, 0);
            x.cell(0, 1, 7);
            x.sheet(0, sort, 2);
            rowIs(x, 0, sort, 0, 0);
        }
        for (int was = 0; was < 3; was++) {
            for (int sort = 0; sort < 3; sort++) {
                x = new OneGlove();
                x.sheet(0, was, 2);
                x.sheet(0, sort, 2);
                x.sheet(1, sort, 2);
                due.is("of sort " + sort + " now", 2, x.copy(0, 0, 1, 0, 2));
            }
        }
    }

    private static void sheetMissing() {
        due.sentence("or missing (sort -1: n does not matter): 1.");
        OneGlove x = new OneGlove();
        int[] any = {0, -1, 7, 40, 41, LEAST, MOST};
        for (int n : any) {
            x.sheet(0, 2, 5);
            due.is("sheet(0, -1, " + n + ")", 1, x.sheet(0, -1, n));
            due.is("cell(0, 0, 0)", -11, x.cell(0, 0, 0));
            due.is("sheet(0, -1, " + n + "), missing already", 1, x.sheet(0, -1, n));
            due.is("cell(0, 0, 0)", -11, x.cell(0, 0, 0));
        }
        due.is("sheet(3, -1, 0), missing at first", 1, x.sheet(3, -1, 0));
    }

    private static void sheetRefused() {
        due.sentence("BAD: no such SHEET, sort; n above 40; -14.");
        OneGlove x = new OneGlove();
        for (int sheet : NO_SHEET) {
            due.is("sheet(" + sheet + ", 0, 5)", -2, x.sheet(sheet, 0, 5));
            due.is("sheet(" + sheet + ", -1, 5)", -2, x.sheet(sheet, -1, 5));
            due.is("sheet(" + sheet + ", 0, -1)", -2, x.sheet(sheet, 0, -1));
        }
        int[] noSort = {-2, 3, LEAST, MOST};
        for (int sort : noSort) {
            due.is("sheet(0, " + sort + ", 5)", -2, x.sheet(0, sort, 5));
            due.is("sheet(0, " + sort + ", -1)", -2, x.sheet(0, sort, -1));
        }
        for (int sort = 0; sort < 3; sort++) {
            due.is("sheet(0, " + sort + ", 41)", -2, x.sheet(0, sort, 41));
            due.is("sheet(0, " + sort + ", most)", -2, x.sheet(0, sort, MOST));
            due.is("sheet(0, " + sort + ", -1)", -14, x.sheet(0, sort, -1));
            due.is("sheet(0, " + sort + ", least)", -14, x.sheet(0, sort, LEAST));
            due.is("SHEET 0 is missing still", -11, x.cell(0, 0, 0));
            due.is("sheet(0, " + sort + ", 40)", 1, x.sheet(0, sort, 40));
            due.is("sheet(0, " + sort + ", 0)", 1, x.sheet(0, sort, 0));
            x.sheet(0, -1, 0);
        }
    }

    private static void sorts() {
        due.sentence("of sort 0 bytes, 1 shorts, 2 ints");
        int[] values = {19, 128, 255, 256 + 4, 32768, 65535, 65536 + 4, MOST, LEAST, LEAST + 4};
        int[][] want = {
            {19, -99, -1, 4, 0, -1, 4, -1, 0, 4},
            {19, -99, -99, -99, -99, -1, 4, -1, 0, 4},
            {19, -99, -99, -99, -99, -99, -99, -99, -99, -99}};
        for (int sort = 0; sort < 3; sort++) {
            for (int i = 0; i < values.length; i++) {
                OneGlove x = reader();
                x.sheet(0, sort, 1);
                due.is("cell(0, 0, " + values[i] + ")", 1, x.cell(0, 0, values[i]));
                rowIs(x, 0, sort, want[sort][i]);
            }
        }
    }

    private static void lowestBits() {
        due.sentence("Item i of a SHEET becomes v (of bytes, shorts its lowest 8, 16 bits): 1.");
        for (int sort = 0; sort < 3; sort++) {
            OneGlove x = reader();
            x.sheet(0, sort, 3);
            due.is("cell, the first", 1, x.cell(0, 0, 5));
            due.is("cell, the last", 1, x.cell(0, 2, -1));
            rowIs(x, 0, sort, 5, 0, -1);
            due.is("cell, anew", 1, x.cell(0, 0, 0));
            due.is("cell, anew", 1, x.cell(0, 2, 19));
            rowIs(x, 0, sort, 0, 0, 19);
            int low = sort == 0 ? 256 : 65536;
            for (int i = 0; i < 2; i++) {
                int v = i == 0 ? 7 + low : 7 - low;
                x.cell(0, 1, v);
                rowIs(x, 0, sort, 0, sort == 2 ? -99 : 7, 19);
            }
            x.sheet(0, sort, 40);
            due.is("cell, the last of 40", 1, x.cell(0, 39, 3));
            due.is("item 39", 3, Told.item(x, 0, sort, 39));
            due.is("item 38", 0, Told.item(x, 0, sort, 38));
        }
    }

    private static void cellRefused() {
        due.sentence("BAD: no such SHEET; -11; -12.");
        OneGlove x = new OneGlove();
        x.sheet(1, 0, 0);
        x.sheet(2, 1, 1);
        x.sheet(3, 2, 40);
        int[] sizes = {-1, 0, 1, 40};
        int[] any = {-1, -2, 40, 41, LEAST, MOST};
        for (int i : any) {
            for (int sheet : NO_SHEET) {
                due.is("cell(" + sheet + ", " + i + ", 0)", -2, x.cell(sheet, i, 0));
            }
            due.is("cell(0, " + i + ", 0), missing", -11, x.cell(0, i, 0));
            for (int sheet = 1; sheet < 4; sheet++) {
                due.is("cell(" + sheet + ", " + i + ", 0)", -12, x.cell(sheet, i, 0));
            }
        }
        for (int sheet = 1; sheet < 4; sheet++) {
            due.is("cell(" + sheet + "), behind the last", -12, x.cell(sheet, sizes[sheet], 0));
            due.is("cell(" + sheet + "), the last", sheet == 1 ? -12 : 1, x.cell(sheet, sizes[sheet] - 1, 0));
        }
        due.is("cell(0, 0, 0), missing", -11, x.cell(0, 0, 0));
    }

    private static void copies() {
        due.sentence("n numbers of a SHEET, from item i on, come to another one's item j on");
        for (int sort = 0; sort < 3; sort++) {
            OneGlove x = reader();
            Told.row(x, 0, sort, new int[] {1, 2, 3, 4, 5});
            Told.row(x, 1, sort, new int[] {11, 12, 13, 14, 15, 16});
            due.is("copy(0, 1, 1, 2, 2)", 2, x.copy(0, 1, 1, 2, 2));
            rowIs(x, 1, sort, 11, 12, 2, 3, 15, 16);
            rowIs(x, 0, sort, 1, 2, 3, 4, 5);
            due.is("copy(0, 0, 1, 1, 5): to the last ones", 5, x.copy(0, 0, 1, 1, 5));
            rowIs(x, 1, sort, 11, 1, 2, 3, 4, 5);
            due.is("copy(1, 0, 0, 0, 1): the first one", 1, x.copy(1, 0, 0, 0, 1));
            due.is("copy(1, 5, 0, 1, 1): the last one", 1, x.copy(1, 5, 0, 1, 1));
            rowIs(x, 0, sort, 11, 5, 3, 4, 5);
            due.is("copy(0, 0, 1, 0, 0): none", 0, x.copy(0, 0, 1, 0, 0));
            due.is("copy(0, 5, 1, 6, 0): none, behind the last", 0, x.copy(0, 5, 1, 6, 0));
            rowIs(x, 1, sort, 11, 1, 2, 3, 4, 5);
            rowIs(x, 0, sort, 11, 5, 3, 4, 5);
            x.sheet(0, sort, 40);
            x.sheet(1, sort, 40);
            x.cell(0, 39, 7);
            due.is("copy(0, 0, 1, 0, 40): all of 40", 40, x.copy(0, 0, 1, 0, 40));
            due.is("item 39", 7, Told.item(x, 1, sort, 39));
            x.sheet(1, sort, 0);
            due.is("copy(1, 0, 1, 0, 0): of an empty one", 0, x.copy(1, 0, 1, 0, 0));
        }
    }

    private static void copiesAsTheyWere() {
        due.sentence("(as they were): n.");
        for (int sort = 0; sort < 3; sort++) {
            OneGlove x = reader();
            Told.row(x, 0, sort, new int[] {1, 2, 3, 4, 5});
            due.is("copy(0, 0, 0, 1, 4): onto itself, to the right", 4, x.copy(0, 0, 0, 1, 4));
            rowIs(x, 0, sort, 1, 1, 2, 3, 4);
            Told.row(x, 0, sort, new int[] {1, 2, 3, 4, 5});
            due.is("copy(0, 1, 0, 0, 4): onto itself, to the left", 4, x.copy(0, 1, 0, 0, 4));
            rowIs(x, 0, sort, 2, 3, 4, 5, 5);
            due.is("copy(0, 0, 0, 0, 5): all onto themselves", 5, x.copy(0, 0, 0, 0, 5));
            rowIs(x, 0, sort, 2, 3, 4, 5, 5);
            due.is("copy(0, 0, 0, 2, 3): in part", 3, x.copy(0, 0, 0, 2, 3));
            rowIs(x, 0, sort, 2, 3, 2, 3, 4);
        }
    }

    private static void copyRefused() {
        due.sentence("BAD: no such SHEET; -11; -13: they are of unlike sorts; -12 (also with n below 0).");
        OneGlove x = new OneGlove();
        x.sheet(0, 1, 3);
        x.sheet(1, 2, 3);
        for (int sheet : NO_SHEET) {
            for (int other = 0; other < 4; other++) {
                due.is("copy(" + sheet + ", 0, " + other + ", 0, 1)", -2, x.copy(sheet, 0, other, 0, 1));
                due.is("copy(" + other + ", 0, " + sheet + ", 0, 1)", -2, x.copy(other, 0, sheet, 0, 1));
                due.is("copy(" + other + ", 9, " + sheet + ", 9, -1)", -2, x.copy(other, 9, sheet, 9, -1));
            }
        }
        int[] any = {-1, 0, 1, 4, LEAST, MOST};
        for (int n : any) {
            due.is("copy(0, 0, 2, 0, " + n + "), to a missing one", -11, x.copy(0, 0, 2, 0, n));
            due.is("copy(2, 0, 0, 0, " + n + "), of a missing one", -11, x.copy(2, 0, 0, 0, n));
            due.is("copy(2, 0, 3, 0, " + n + "), both missing", -11, x.copy(2, 0, 3, 0, n));
            due.is("copy(2, 0, 2, 0, " + n + "), missing", -11, x.copy(2, 0, 2, 0, n));
            due.is("copy(0, 0, 1, 0, " + n + "), shorts and ints", -13, x.copy(0, 0, 1, 0, n));
            due.is("copy(1, 9, 0, -9, " + n + "), ints and shorts", -13, x.copy(1, 9, 0, -9, n));
            due.is("copy(0, 9, 0, 0, " + n + ")", -12, x.copy(0, 9, 0, 0, n));
        }
        for (int sort = 0; sort < 3; sort++) {
            for (int other = 0; other < 3; other++) {
                x.sheet(2, sort, 3);
                x.sheet(3, other, 3);
                due.is("copy of sort " + sort + " to " + other, sort == other ? 1 : -13, x.copy(2, 0, 3, 0, 1));
            }
        }
    }

    private static void copyOutside() {
        due.sentence("-12 (also with n below 0).");
        int[][] outside = {{0, 0, -1}, {3, 2, -1}, {3, 2, -2}, {0, 0, LEAST}, {3, 2, LEAST}, {-1, 0, 1}, {0, -1, 1},
            {-1, 0, 0}, {0, -1, 0}, {LEAST, 0, 1}, {0, LEAST, 1}, {3, 0, 1}, {0, 2, 1}, {4, 0, 0}, {0, 3, 0},
            {0, 0, 3}, {0, 0, 4}, {2, 0, 2}, {0, 1, 2}, {0, 0, MOST}, {1, 0, MOST}, {0, 1, MOST}, {MOST, 0, 1},
            {0, MOST, 1}, {MOST, MOST, MOST}, {LEAST, LEAST, LEAST}, {MOST, 0, 0}, {0, MOST, 0}, {-1, -1, 1}};
        OneGlove x = reader();
        Told.row(x, 0, 1, new int[] {1, 2, 3});
        Told.row(x, 1, 1, new int[] {4, 5});
        for (int[] a : outside) {
            due.is("copy(0, " + a[0] + ", 1, " + a[1] + ", " + a[2] + ")", -12, x.copy(0, a[0], 1, a[1], a[2]));
        }
        rowIs(x, 1, 1, 4, 5);
        due.is("copy(0, 3, 1, 2, 0)", 0, x.copy(0, 3, 1, 2, 0));
        due.is("copy(0, 1, 1, 0, 2)", 2, x.copy(0, 1, 1, 0, 2));
        rowIs(x, 1, 1, 2, 3);
    }

    private static void gloveIs(OneGlove x, int glove, int kind, int number, int place) {
        due.is("KIND of " + glove, kind, x.told(glove, 7));
        due.is("NUMBER of " + glove, number, x.told(glove, 3));
        due.is("PLACE of " + glove, place, x.told(glove, 4));
        due.is("HEIGHT of " + glove, 2, x.told(glove, 5));
        due.is("SIDE of " + glove, 0, x.told(glove, 6));
    }

    private static void glovesFromOneOn() {
        due.sentence("GLOVES by a SHEET that is taken for one of a sort: from one on, three by three (as of glove()), "
                + "n of them (0 .. 6): how many came");
        int[] row = {5, 9, 19, 0, 0, 0, 1, 2, 3, 2, 3, 4, 3, 4, 5, 4, 5, 6, 7};
        for (int sort = 0; sort < 3; sort++) {
            for (int n = 0; n <= 6; n++) {
                OneGlove x = new OneGlove();
                Told.row(x, 0, sort, row);
                due.is("gloves(0, " + sort + ", 0, " + n + ")", n, x.gloves(0, sort, 0, n));
                due.is("GLOVES", n, x.count(0));
                for (int glove = 0; glove < n; glove++) {
                    gloveIs(x, glove, row[3 * glove], row[3 * glove + 1], row[3 * glove + 2]);
                }
            }
            OneGlove x = new OneGlove();
            x.glove(0, 7, 7);
            Told.row(x, 3, sort, row);
            due.is("gloves from 8 on", 1, x.gloves(3, sort, 8, 1));
            gloveIs(x, 1, 3, 2, 3);
            due.is("gloves from 7 on, behind those that there are", 2, x.gloves(3, sort, 7, 2));
            gloveIs(x, 2, 2, 3, 2);
            gloveIs(x, 3, 3, 4, 3);
            due.is("gloves: the last three", 0, x.gloves(3, sort, 16, 1) - 1);
            gloveIs(x, 4, 5, 6, 7);
            gloveIs(x, 0, 0, 7, 7);
        }
    }

    private static void glovesLeftOut() {
        due.sentence("how many came (others are left out).");
        int[][] others = {{-1, 0, 0}, {6, 0, 0}, {0, -1, 0}, {0, 10, 0}, {0, 0, -1}, {0, 0, 20}};
        for (int sort = 0; sort < 3; sort++) {
            for (int[] other : others) {
                OneGlove x = new OneGlove();
                Told.row(x, 0, sort, new int[] {1, 1, 1, other[0], other[1], other[2], 2, 2, 2});
                due.is("gloves, one of three left out", 2, x.gloves(0, sort, 0, 3));
                due.is("GLOVES", 2, x.count(0));
                gloveIs(x, 0, 1, 1, 1);
                gloveIs(x, 1, 2, 2, 2);
            }
        }
        // Those that FULL leaves out, too.
        OneGlove x = new OneGlove();
        Told.row(x, 0, 0, 0, 1, 1, 1, 2, 2, 2, 3, 3, 3, 4, 4, 4);
        due.is("gloves, four", 4, x.gloves(0, 2, 1, 4));
        due.is("gloves, two of four have room", 2, x.gloves(0, 2, 1, 4));
        gloveIs(x, 4, 0, 1, 1);
        gloveIs(x, 5, 1, 2, 2);
        due.is("gloves, none has room", 0, x.gloves(0, 2, 1, 4));
        due.is("GLOVES", 6, x.count(0));
    }

    private static void glovesRefused() {
        due.sentence("BAD: no such SHEET, sort, n; -13; -11; -12: what stood ahead came.");
        OneGlove x = new OneGlove();
        x.sheet(0, 1, 40);
        for (int sheet : NO_SHEET) {
            due.is("gloves(" + sheet + ", 1, 0, 1)", -2, x.gloves(sheet, 1, 0, 1));
        }
        int[] noSort = {-2, -1, 3, LEAST, MOST};
        int[] noCount = {-1, 7, LEAST, MOST};
        for (int sheet = 0; sheet < 2; sheet++) {
            for (int sort : noSort) {
                due.is("gloves(" + sheet + ", " + sort + ", 0, 1)", -2, x.gloves(sheet, sort, 0, 1));
            }
            for (int n : noCount) {
                for (int sort = 0; sort < 3; sort++) {
                    due.is("gloves(" + sheet + ", " + sort + ", -1, " + n + ")", -2, x.gloves(sheet, sort, -1, n));
                }
            }
        }
        int[] froms = {0, -1, 39, 40, LEAST, MOST};
        for (int from : froms) {
            for (int n = 0; n <= 6; n++) {
                due.is("gloves(0, 0, " + from + ", " + n + "), shorts for bytes", -13, x.gloves(0, 0, from, n));
                due.is("gloves(0, 2, " + from + ", " + n + "), shorts for ints", -13, x.gloves(0, 2, from, n));
                due.is("gloves(1, 2, " + from + ", " + n + "), missing", -11, x.gloves(1, 2, from, n));
            }
        }
        due.is("GLOVES", 0, x.count(0));
    }

    private static void glovesOutside() {
        due.sentence("-12: what stood ahead came.");
        for (int sort = 0; sort < 3; sort++) {
            OneGlove x = new OneGlove();
            Told.row(x, 0, sort, new int[] {1, 1, 1, 9, 9, 9, 2, 2, 2, 3, 3});
            int[] froms = {-1, -2, -3, 9, 10, 11, 12, LEAST, MOST, MOST - 2};
            for (int from : froms) {
                due.is("gloves(0, " + sort + ", " + from + ", 6)", -12, x.gloves(0, sort, from, 6));
                due.is("GLOVES", 0, x.count(0));
            }
            due.is("gloves of four, the last one in part outside", -12, x.gloves(0, sort, 0, 4));
            due.is("what stood ahead came", 2, x.count(0));
            gloveIs(x, 0, 1, 1, 1);
            gloveIs(x, 1, 2, 2, 2);
            due.is("the last three", 0, x.gloves(0, sort, 8, 1) - 1);
            due.is("GLOVES", 3, x.count(0));
            x.sheet(0, sort, 3);
            due.is("two of three numbers", -12, x.gloves(0, sort, 0, 2));
            due.is("what stood ahead came", 4, x.count(0));
            x.sheet(0, sort, 0);
            due.is("one of none", -12, x.gloves(0, sort, 0, 1));
            due.is("none of none", 0, x.gloves(0, sort, 0, 0));
        }
    }

    private static void takenForOne() {
        due.sentence("A GLOVE taken for one of KIND k (0 .. 5), or one under that one (also by others between): "
                + "its NUMBER.");
        OneGlove x = new OneGlove();
        for (int kind = 0; kind < 6; kind++) {
            x.glove(kind, 9 - kind, 0);
        }
        int[][] taken = {{0, 0}, {1, 1}, {1, 0}, {2, 2}, {2, 0}, {3, 3}, {3, 1}, {4, 4}, {4, 2}, {5, 5}, {5, 0}};
        for (int[] a : taken) {
            due.is("taken(" + a[0] + ", " + a[1] + ")", 9 - a[0], x.taken(a[0], a[1]));
        }
        due.is("SMALL for GLOVE, by GREY", 6, x.taken(3, 0));
        due.is("WOOLLY for GLOVE, by RED", 5, x.taken(4, 0));
        x.set(3, 3, 0);
        due.is("a NUMBER 0", 0, x.taken(3, 0));
        x.set(3, 3, 9);
        due.is("a NUMBER 9", 9, x.taken(3, 1));
    }

    private static void takenRefused() {
        due.sentence("BAD: k; -11: no such GLOVE; -13.");
        OneGlove x = new OneGlove();
        int[] noKind = {-1, 6, LEAST, MOST};
        int[] noGlove = {-1, 6, 7, LEAST, MOST};
        for (int kind = 0; kind < 6; kind++) {
            due.is("taken(" + kind + ", 0), no such GLOVE yet", -11, x.taken(kind, 0));
            x.glove(kind, 7, 0);
        }
        for (int k : noKind) {
            due.is("taken(0, " + k + ")", -2, x.taken(0, k));
            due.is("taken(6, " + k + ")", -2, x.taken(6, k));
        }
        for (int glove : noGlove) {
            for (int k = 0; k < 6; k++) {
                due.is("taken(" + glove + ", " + k + ")", -11, x.taken(glove, k));
            }
        }
        int[][] other = {{0, 1}, {0, 2}, {0, 3}, {0, 4}, {0, 5}, {1, 2}, {1, 3}, {1, 4}, {1, 5}, {2, 1}, {2, 3}, {2, 4},
            {2, 5}, {3, 2}, {3, 4}, {3, 5}, {4, 1}, {4, 3}, {4, 5}, {5, 1}, {5, 2}, {5, 3}, {5, 4}};
        for (int[] a : other) {
            due.is("taken(" + a[0] + ", " + a[1] + ")", -13, x.taken(a[0], a[1]));
        }
    }
}

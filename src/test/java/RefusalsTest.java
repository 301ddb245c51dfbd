import java.util.ArrayList;
import java.util.List;

/**
 * "Refusals, the first that the call's words name; they change nothing": every call, with each number that
 * it refuses, on an object that has something of all in it; all that can be asked is as it was.
 */
public final class RefusalsTest {
    private static final Due due = new Due();
    private static final long NO = Told.NO;
    private static final int LEAST = Integer.MIN_VALUE;
    private static final int MOST = Integer.MAX_VALUE;
    private static final int[] NONE_OF_SIX = {-1, 3, 6, LEAST, MOST};

    private static boolean full = false;
    private static boolean imaged = true;

    /** A call that is to be refused. */
    private interface Call {
        long of(OneGlove x);
    }

    private RefusalsTest() {
    }

    public static void main(String[] args) {
        changesNothing();
        street();
        texts();
        days();
        bests();
        told();
        sheets();
        copies();
        gloves();
        firstNamed();
        whenFull();
        due.end("RefusalsTest");
    }

    /** An IMAGE that is otherwise than the street, three GLOVES (or all), a RULE, SHEETS, a TAPE. */
    private static OneGlove scene() {
        OneGlove x = new OneGlove();
        x.glove(3, 4, 5);
        x.glove(4, 1, 17);
        if (imaged) {
            x.image();
        }
        x.glove(5, 8, 12);
        x.set(0, 0, 15);
        x.set(1, 0, 3);
        x.set(2, 0, 1);
        x.set(3, 0, 7);
        x.set(4, 0, 6);
        x.set(5, 0, 4);
        x.set(6, 1, 1);
        Told.text(x, "shows 9+day;moves day<3;minds 7;");
        x.force(1);
        for (int i = 3; full && i < 6; i++) {
            x.glove(i, i, i);
        }
        for (int i = 2; full && i < 6; i++) {
            Told.text(x, "shows 0;moves 0;minds 0;");
        }
        x.film(0, 0, 30);
        Told.row(x, 1, 1, new int[] {6, 7, 8});
        x.sheet(2, 2, 31);
        String tape = "shows 1;moves 2;";
        for (int i = 0; i < (full ? 160 : tape.length()); i++) {
            x.feed(full ? ' ' : tape.charAt(i));
        }
        return x;
    }

    /** All that can be asked without a change. */
    private static List<Long> look(OneGlove x) {
        List<Long> seen = new ArrayList<>();
        for (int what = 0; what < 9; what++) {
            for (int of = 0; of < (what < 3 ? 1 : 6); of++) {
                seen.add((long) x.told(of, what));
            }
        }
        for (int what = 0; what < 5; what++) {
            seen.add((long) x.count(what));
        }
        for (int what = 0; what < 3; what++) {
            seen.add((long) x.day(0, 4, what));
            seen.add((long) x.day(2, 4, what));
        }
        for (int what = 0; what < 6; what++) {
            seen.add((long) x.tells(0, 0, what));
            seen.add((long) x.tells(1, 0, what));
        }
        return seen;
    }

    /** What can be asked only by a change. */
    private static List<Long> lastLook(OneGlove x) {
        List<Long> seen = new ArrayList<>();
        int[][] edges = {{0, 29}, {0, 30}, {1, 2}, {1, 3}, {2, 30}, {2, 31}, {3, 0}};
        for (int[] edge : edges) {
            seen.add((long) x.cell(edge[0], edge[1], 0));
        }
        for (int sheet = 0; sheet < 4; sheet++) {
            for (int other = 0; other < 4; other++) {
                seen.add((long) x.copy(sheet, 0, other, 0, 0));
            }
        }
        seen.add((long) Told.text(x, "minds 3;"));
        seen.add((long) x.force(2));
        seen.add((long) x.day(0, 4, 2));
        seen.add((long) x.back());
        seen.addAll(look(x));
        return seen;
    }

    private static void refused(String call, long want, Call made) {
        OneGlove x = scene();
        due.is(call, want, made.of(x));
        due.holds(call + " changed nothing that can be asked", look(scene()).equals(look(x)));
        due.holds(call + " changed nothing that comes out later", lastLook(scene()).equals(lastLook(x)));
    }

    /** The looks see changes at all. */
    private static void changesNothing() {
        due.sentence("Refusals, the first that the call's words name; they change nothing");
        Call[] changes = {x -> x.set(0, 0, 1), x -> x.set(1, 0, 1), x -> x.set(2, 0, 0), x -> x.set(3, 2, 1),
            x -> x.set(4, 1, 1), x -> x.set(5, 1, 1), x -> x.set(6, 2, 1), x -> x.glove(0, 0, 0), x -> x.feed(32),
            x -> x.text(), x -> x.force(0), x -> x.film(1, 0, 3), x -> x.back(), x -> x.cell(1, 0, 5),
            x -> x.copy(1, 1, 1, 0, 1)};
        for (int i = 0; i < changes.length; i++) {
            OneGlove x = scene();
            List<Long> ahead = look(x);
            changes[i].of(x);
            due.holds("a look sees change " + i, !ahead.equals(look(x)));
        }
        Call[] later = {x -> x.image(), x -> x.sheet(3, 0, 1), x -> x.sheet(0, -1, 0), x -> x.sheet(2, 1, 31),
            x -> x.sheet(2, 2, 32), x -> x.sheet(2, 2, 30)};
        for (int i = 0; i < later.length; i++) {
            OneGlove x = scene();
            later[i].of(x);
            due.holds("a last look sees change " + i, !lastLook(scene()).equals(lastLook(x)));
        }
        OneGlove x = scene();
        due.holds("a look is no change", look(x).equals(look(x)));
    }

    private static void street() {
        int[] above = {20, 20, 2, 10, 20, 5, 2};
        for (int i = 0; i < 7; i++) {
            int what = i;
            int[] others = {-1, above[what], LEAST, MOST};
            for (int v : others) {
                refused("set(" + what + ", 0, " + v + ")", -2, x -> x.set(what, 0, v));
            }
            for (int of : NONE_OF_SIX) {
                if (what > 2) {
                    refused("set(" + what + ", " + of + ", 1)", -2, x -> x.set(what, of, 1));
                }
            }
        }
        int[] noWhat = {-1, 7, 8, 9, LEAST, MOST};
        for (int what : noWhat) {
            refused("set(" + what + ", 0, 0)", -2, x -> x.set(what, 0, 0));
        }
        int[][] noGlove = {{-1, 0, 0}, {6, 0, 0}, {LEAST, 0, 0}, {MOST, 0, 0}, {0, -1, 0}, {0, 10, 0}, {0, LEAST, 0},
            {0, MOST, 0}, {0, 0, -1}, {0, 0, 20}, {0, 0, LEAST}, {0, 0, MOST}};
        for (int[] a : noGlove) {
            refused("glove(" + a[0] + ", " + a[1] + ", " + a[2] + ")", -2, x -> x.glove(a[0], a[1], a[2]));
        }
        int[] never = {-1, 9, LEAST, MOST};
        for (int what : never) {
            refused("told(0, " + what + ")", -2, x -> x.told(0, what));
            refused("count(" + what + ")", -2, x -> x.count(what));
        }
        for (int of : NONE_OF_SIX) {
            refused("told(" + of + ", 3)", -2, x -> x.told(of, 3));
            refused("told(" + of + ", 8)", -2, x -> x.told(of, 8));
        }
        imaged = false;
        refused("back(), no IMAGE", -3, x -> x.back());
        imaged = true;
    }

    private static void texts() {
        int[] noByte = {-1, 256, LEAST, MOST};
        for (int letter : noByte) {
            refused("feed(" + letter + ")", -2, x -> x.feed(letter));
        }
        int[] noText = {-1, 2, 6, LEAST, MOST};
        for (int text : noText) {
            refused("force(" + text + ")", -2, x -> x.force(text));
        }
    }

    private static void days() {
        for (int glove : NONE_OF_SIX) {
            refused("day(" + glove + ", 0, 0)", -2, x -> x.day(glove, 0, 0));
            refused("found(" + glove + ", 0, 0)", NO, x -> x.found(glove, 0, 0));
            refused("parts(" + glove + ", 0)", NO, x -> x.parts(glove, 0));
            refused("waiting(" + glove + ", 0)", NO, x -> x.waiting(glove, 0));
        }
        int[] others = {-1, 31, LEAST, MOST};
        for (int n : others) {
            refused("day(0, " + n + ", 0)", -2, x -> x.day(0, n, 0));
            refused("day(0, 0, " + n + ")", -2, x -> x.day(0, 0, n));
            refused("found(0, " + n + ", 0)", NO, x -> x.found(0, n, 0));
            refused("found(0, 0, " + n + ")", NO, x -> x.found(0, 0, n));
            refused("parts(0, " + n + ")", NO, x -> x.parts(0, n));
            refused("waiting(0, " + n + ")", NO, x -> x.waiting(0, n));
        }
    }

    private static void bests() {
        for (int glove : NONE_OF_SIX) {
            refused("hang(" + glove + ", 0)", NO, x -> x.hang(glove, 0));
            refused("walk(" + glove + ", 0)", NO, x -> x.walk(glove, 0));
            refused("best(" + glove + ", 0)", -2, x -> x.best(glove, 0));
            refused("giveUp(" + glove + ", 1)", -2, x -> x.giveUp(glove, 1));
        }
        int[] others = {-1, 2, LEAST, MOST};
        for (int what : others) {
            refused("hang(0, " + what + ")", NO, x -> x.hang(0, what));
            refused("walk(0, " + what + ")", NO, x -> x.walk(0, what));
            refused("best(0, " + what + ")", -2, x -> x.best(0, what));
            refused("first(0, " + what + ")", NO, x -> x.first(0, what));
        }
        int[] noDays = {-1, 31, LEAST, MOST};
        for (int n : noDays) {
            refused("first(" + n + ", 0)", NO, x -> x.first(n, 0));
        }
        int[] noK = {0, 101, -1, LEAST, MOST};
        for (int k : noK) {
            refused("giveUp(0, " + k + ")", -2, x -> x.giveUp(0, k));
        }
    }

    private static void told() {
        for (int glove : NONE_OF_SIX) {
            refused("tells(0, " + glove + ", 1)", -2, x -> x.tells(0, glove, 1));
            refused("film(0, " + glove + ", 5)", -2, x -> x.film(0, glove, 5));
            refused("lot(" + glove + ", 0)", -2, x -> x.lot(glove, 0));
            refused("chance(" + glove + ", 0, 1, 0)", NO, x -> x.chance(glove, 0, 1, 0));
        }
        int[] noSheet = {-1, 4, LEAST, MOST};
        for (int sheet : noSheet) {
            refused("tells(" + sheet + ", 0, 1)", -2, x -> x.tells(sheet, 0, 1));
            refused("film(" + sheet + ", 0, 5)", -2, x -> x.film(sheet, 0, 5));
        }
        int[] never = {-1, 6, LEAST, MOST};
        for (int what : never) {
            refused("tells(0, 0, " + what + ")", -2, x -> x.tells(0, 0, what));
            refused("chance(0, 0, 1, " + what + ")", NO, x -> x.chance(0, 0, 1, what));
        }
        refused("chance(0, 0, 1, 2)", NO, x -> x.chance(0, 0, 1, 2));
        int[] noSize = {-1, 31, 40, LEAST, MOST};
        for (int n : noSize) {
            for (int sheet = 0; sheet < 4; sheet++) {
                int to = sheet;
                refused("film(" + to + ", 0, " + n + ")", -2, x -> x.film(to, 0, n));
            }
            refused("chance(0, 0, " + n + ", 0)", NO, x -> x.chance(0, 0, n, 0));
        }
        refused("chance(0, 0, 0, 0)", NO, x -> x.chance(0, 0, 0, 0));
        for (int i = 0; i < 6; i++) {
            int what = i;
            refused("tells(3, 0, " + what + "), missing", -11, x -> x.tells(3, 0, what));
            refused("tells(2, 0, " + what + "), 31 DAYS", -2, x -> x.tells(2, 0, what));
        }
    }

    private static void sheets() {
        int[] noSheet = {-1, 4, LEAST, MOST};
        for (int sheet : noSheet) {
            refused("sheet(" + sheet + ", 0, 1)", -2, x -> x.sheet(sheet, 0, 1));
            refused("cell(" + sheet + ", 0, 1)", -2, x -> x.cell(sheet, 0, 1));
        }
        int[] noSort = {-2, 3, LEAST, MOST};
        int[] tooMany = {41, MOST};
        int[] below = {-1, LEAST};
        for (int i = 0; i < 4; i++) {
            int sheet = i;
            for (int sort : noSort) {
                refused("sheet(" + sheet + ", " + sort + ", 1)", -2, x -> x.sheet(sheet, sort, 1));
            }
            for (int n : tooMany) {
                refused("sheet(" + sheet + ", 0, " + n + ")", -2, x -> x.sheet(sheet, 0, n));
            }
            for (int n : below) {
                refused("sheet(" + sheet + ", 2, " + n + ")", -14, x -> x.sheet(sheet, 2, n));
            }
            int[] outside = {-1, sheet == 0 ? 30 : sheet == 1 ? 3 : 31, 40, LEAST, MOST};
            for (int at : outside) {
                refused("cell(" + sheet + ", " + at + ", 9)", sheet == 3 ? -11 : -12, x -> x.cell(sheet, at, 9));
            }
        }
        refused("cell(3, 0, 9), missing", -11, x -> x.cell(3, 0, 9));
    }

    private static void copies() {
        int[] noSheet = {-1, 4, LEAST, MOST};
        for (int sheet : noSheet) {
            refused("copy(" + sheet + ", 0, 0, 0, 1)", -2, x -> x.copy(sheet, 0, 0, 0, 1));
            refused("copy(0, 0, " + sheet + ", 0, 1)", -2, x -> x.copy(0, 0, sheet, 0, 1));
        }
        refused("copy(0, 0, 3, 0, 1), to a missing one", -11, x -> x.copy(0, 0, 3, 0, 1));
        refused("copy(3, 0, 0, 0, 1), of a missing one", -11, x -> x.copy(3, 0, 0, 0, 1));
        refused("copy(0, 0, 1, 0, 1), bytes to shorts", -13, x -> x.copy(0, 0, 1, 0, 1));
        refused("copy(2, 0, 1, 0, 1), ints to shorts", -13, x -> x.copy(2, 0, 1, 0, 1));
        refused("copy(2, 0, 0, 0, 1), ints to bytes", -13, x -> x.copy(2, 0, 0, 0, 1));
        int[][] outside = {{0, 0, -1}, {-1, 0, 1}, {0, -1, 1}, {0, 1, 3}, {1, 0, 3}, {3, 0, 1}, {0, 3, 1}, {0, 0, 4},
            {4, 0, 0}, {0, 4, 0}, {0, 0, LEAST}, {0, 0, MOST}, {1, 0, MOST}, {0, 1, MOST}, {MOST, 0, 1}, {0, MOST, 1},
            {LEAST, 0, 1}, {0, LEAST, 1}};
        for (int[] a : outside) {
            refused("copy(1, " + a[0] + ", 1, " + a[1] + ", " + a[2] + ")", -12, x -> x.copy(1, a[0], 1, a[1], a[2]));
        }
    }

    private static void gloves() {
        int[] noSheet = {-1, 4, LEAST, MOST};
        for (int sheet : noSheet) {
            refused("gloves(" + sheet + ", 1, 0, 1)", -2, x -> x.gloves(sheet, 1, 0, 1));
        }
        int[] noSort = {-1, 3, LEAST, MOST};
        for (int sort : noSort) {
            refused("gloves(1, " + sort + ", 0, 1)", -2, x -> x.gloves(1, sort, 0, 1));
        }
        int[] noCount = {-1, 7, LEAST, MOST};
        for (int n : noCount) {
            refused("gloves(2, 2, 0, " + n + ")", -2, x -> x.gloves(2, 2, 0, n));
        }
        refused("gloves(2, 0, 0, 1), ints for bytes", -13, x -> x.gloves(2, 0, 0, 1));
        refused("gloves(2, 1, 0, 1), ints for shorts", -13, x -> x.gloves(2, 1, 0, 1));
        refused("gloves(3, 2, 0, 1), missing", -11, x -> x.gloves(3, 2, 0, 1));
        // Nothing stood ahead.
        int[] outside = {-1, -3, 29, 30, 31, 40, LEAST, MOST};
        for (int from : outside) {
            refused("gloves(2, 2, " + from + ", 2)", -12, x -> x.gloves(2, 2, from, 2));
        }
        int[] noKind = {-1, 6, LEAST, MOST};
        for (int k : noKind) {
            refused("taken(0, " + k + ")", -2, x -> x.taken(0, k));
        }
        for (int glove : NONE_OF_SIX) {
            refused("taken(" + glove + ", 0)", -11, x -> x.taken(glove, 0));
        }
        refused("taken(0, 2), SMALL for RED", -13, x -> x.taken(0, 2));
        refused("taken(2, 4), LEATHER for WOOLLY", -13, x -> x.taken(2, 4));
    }

    /** Of two that hold, the first that the call's words name. */
    private static void firstNamed() {
        refused("tells(3, 0, 6), BAD ahead of missing", -2, x -> x.tells(3, 0, 6));
        refused("tells(3, 9, 0), BAD ahead of missing", -2, x -> x.tells(3, 9, 0));
        refused("sheet(4, 0, -1), BAD ahead of a size", -2, x -> x.sheet(4, 0, -1));
        refused("sheet(0, 3, -1), BAD ahead of a size", -2, x -> x.sheet(0, 3, -1));
        refused("cell(4, -1, 0), BAD ahead of outside", -2, x -> x.cell(4, -1, 0));
        refused("cell(3, -1, 0), missing ahead of outside", -11, x -> x.cell(3, -1, 0));
        refused("copy(4, 0, 3, -1, -1), BAD ahead of missing", -2, x -> x.copy(4, 0, 3, -1, -1));
        refused("copy(3, 0, 4, -1, -1), BAD ahead of missing", -2, x -> x.copy(3, 0, 4, -1, -1));
        refused("copy(3, 0, 0, -1, -1), missing ahead of outside", -11, x -> x.copy(3, 0, 0, -1, -1));
        refused("copy(0, 0, 3, 99, 1), missing ahead of outside", -11, x -> x.copy(0, 0, 3, 99, 1));
        refused("copy(0, -1, 1, 0, 1), unlike ahead of outside", -13, x -> x.copy(0, -1, 1, 0, 1));
        refused("copy(0, 0, 1, 0, -1), unlike ahead of below 0", -13, x -> x.copy(0, 0, 1, 0, -1));
        refused("gloves(2, 0, 0, 7), BAD ahead of unlike", -2, x -> x.gloves(2, 0, 0, 7));
        refused("gloves(3, 0, 0, 7), BAD ahead of missing", -2, x -> x.gloves(3, 0, 0, 7));
        refused("gloves(3, 3, 0, 1), BAD ahead of missing", -2, x -> x.gloves(3, 3, 0, 1));
        refused("gloves(2, 0, 99, 1), unlike ahead of outside", -13, x -> x.gloves(2, 0, 99, 1));
        refused("gloves(3, 0, 99, 1), missing ahead of outside", -11, x -> x.gloves(3, 0, 99, 1));
        refused("taken(9, 6), BAD ahead of nothing", -2, x -> x.taken(9, 6));
        refused("taken(9, 1), nothing ahead of another KIND", -11, x -> x.taken(9, 1));
    }

    private static void whenFull() {
        full = true;
        refused("glove(0, 0, 0), FULL", -4, x -> x.glove(0, 0, 0));
        refused("glove(6, 0, 0), BAD ahead of FULL", -2, x -> x.glove(6, 0, 0));
        refused("glove(0, 10, 0), BAD ahead of FULL", -2, x -> x.glove(0, 10, 0));
        refused("glove(0, 0, 20), BAD ahead of FULL", -2, x -> x.glove(0, 0, 20));
        refused("feed(32), FULL", -4, x -> x.feed(32));
        refused("feed(256), BAD ahead of FULL", -2, x -> x.feed(256));
        refused("feed(-1), BAD ahead of FULL", -2, x -> x.feed(-1));
        refused("text(), FULL ahead of a FAULT", -4, x -> x.text());
        refused("gloves(2, 2, 0, 6), none has room", 0, x -> x.gloves(2, 2, 0, 6));
        refused("gloves(1, 1, 0, 2), none has room, outside", -12, x -> x.gloves(1, 1, 0, 2));
        full = false;
    }
}

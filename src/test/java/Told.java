/** What several tests need to tell a OneGlove: texts, rows, some gloves. */
final class Told {
    static final long NO = -4611686018427387904L;

    private Told() {
    }

    /** A new TEXT: what text() answers. */
    static int text(OneGlove x, String words) {
        for (int i = 0; i < words.length(); i++) {
            x.feed(words.charAt(i));
        }
        return x.text();
    }

    /** A new object whose RULE is this text. */
    static OneGlove under(String rule) {
        OneGlove x = new OneGlove();
        int text = text(x, rule);
        if (text != 1 || x.force(1) != 0) {
            throw new IllegalStateException("no TEXT: " + rule + " answered " + text);
        }
        return x;
    }

    /** A SHEET of ints that holds these. */
    static void row(OneGlove x, int sheet, int... values) {
        row(x, sheet, 2, values);
    }

    static void row(OneGlove x, int sheet, int sort, int[] values) {
        x.sheet(sheet, sort, values.length);
        for (int i = 0; i < values.length; i++) {
            x.cell(sheet, i, values[i]);
        }
    }

    /**
     * What an item of a SHEET of this sort reads as, for tells() looks at it: a PLACE, -1 for NONE, -99 for
     * neither. GLOVE 0 is one that stays where it is till it is gone, on DAY 20; SHEET 3 is used.
     */
    static int item(OneGlove x, int sheet, int sort, int i) {
        x.sheet(3, sort, 1);
        x.copy(sheet, i, 3, 0, 1);
        int places = x.tells(3, 0, 3);
        if (places != 0) {
            return Integer.numberOfTrailingZeros(places);
        }
        x.sheet(3, sort, 21);
        for (int day = 0; day < 20; day++) {
            x.cell(3, day, x.told(0, 4));
        }
        x.copy(sheet, i, 3, 20, 1);
        return x.tells(3, 0, 0) == -1 ? -1 : -99;
    }

    /** Where a GLOVE is on all DAYS. */
    static int[] where(OneGlove x, int glove) {
        int[] where = new int[30];
        for (int day = 0; day < 30; day++) {
            where[day] = x.day(glove, day, 0);
        }
        return where;
    }

    static int[] likely(OneGlove x, int glove) {
        int[] likely = new int[30];
        for (int day = 0; day < 30; day++) {
            likely[day] = x.day(glove, day, 1);
        }
        return likely;
    }
}

/** What several tests need to tell a OneGlove: texts, rows, some gloves. */
final class Told {
    static final long NO = -4611686018427387904L;

    private Told() {
    }

    /** A new TEXT: what text() answers. */
    static int text(OneGlove x, String words) {
        for (int i = 0; i < words.length(); i++) {
            x.feed(words.charAt(i));
        }
        return x.text();
    }

    /** A new object whose RULE is this text. */
    static OneGlove under(String rule) {
        OneGlove x = new OneGlove();
        int text = text(x, rule);
        if (text != 1 || x.force(1) != 0) {
            throw new IllegalStateException("no TEXT: " + rule + " answered " + text);
        }
        return x;
    }

    /** A SHEET of ints that holds these. */
    static void row(OneGlove x, int sheet, int... values) {
        row(x, sheet, 2, values);
    }

    static void row(OneGlove x, int sheet, int sort, int[] values) {
        x.sheet(sheet, sort, values.length);
        for (int i = 0; i < values.length; i++) {
            x.cell(sheet, i, values[i]);
        }
    }

    /** Where a GLOVE is on all DAYS. */
    static int[] where(OneGlove x, int glove) {
        int[] where = new int[30];
        for (int day = 0; day < 30; day++) {
            where[day] = x.day(glove, day, 0);
        }
        return where;
    }

    static int[] likely(OneGlove x, int glove) {
        int[] likely = new int[30];
        for (int day = 0; day < 30; day++) {
            likely[day] = x.day(glove, day, 1);
        }
        return likely;
    }
}

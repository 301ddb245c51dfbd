import java.util.function.IntUnaryOperator;

/** Texts by lot: most of them stand, some have a FAULT. */
final class Words {
    private static final String[] NAMES = {"place", "height", "day", "number", "far", "side"};
    private static final String[] BITS = {"place", "not", "and", "or", "(", ")", ";", "+", "-", "*", "<", "=",
        "7", "12345", "shows", "minds", "moves", "foo", ">", " ", "\n", "\t", "A", "00", "nota", "- -", "not not"};

    private final IntUnaryOperator below;
    private final StringBuilder text = new StringBuilder();

    private Words(IntUnaryOperator below) {
        this.below = below;
    }

    static String text(IntUnaryOperator below) {
        Words words = new Words(below);
        words.say("shows ").scaled(40).say(";moves ").scaled(4).say(";minds ").scaled(30).say(";");
        if (words.lot(4) == 0) {
            words.spoil();
        }
        return words.text.toString();
    }

    private int lot(int n) {
        return below.applyAsInt(n);
    }

    private Words say(String what) {
        text.append(what);
        return this;
    }

    /** An E that is often of the size of use there. */
    private Words scaled(int about) {
        switch (lot(4)) {
            case 0:
                return say(Integer.toString(lot(about + 1))).say(lot(2) == 0 ? "+" : "-").expression(1, 0);
            case 1:
                return say(Integer.toString(lot(about + 1))).say("-").say(NAMES[lot(6)]).say("*").say("" + lot(5));
            case 2:
                return say("(").expression(1, 0).say(")*").say(Integer.toString(lot(about + 1)));
            default:
                return expression(2, 0);
        }
    }

    /** Levels from an E (0) down to a ONE (5), as the document tells them. */
    private Words expression(int depth, int level) {
        if (level == 5) {
            return one(depth);
        }
        if (level == 2 && lot(6) == 0) {
            return say(lot(2) == 0 ? "not " : "not\n").expression(depth, 2);
        }
        expression(depth, level + 1);
        if (lot(4) == 0) {
            String[] joins = {" or ", " and ", lot(2) == 0 ? "<" : " = ", lot(2) == 0 ? "+" : " - ", "*"};
            say(joins[level]).expression(depth, level + 1);
        }
        return this;
    }

    private Words one(int depth) {
        int die = lot(8);
        if (die == 0 && depth > 0) {
            return say("(").expression(depth - 1, 0).say(")");
        }
        if (die == 1) {
            return say("-").one(depth);
        }
        return say(die < 5 ? NAMES[lot(6)] : Integer.toString(lot(die == 7 ? 10000 : 12)));
    }

    private void spoil() {
        int times = 1 + lot(2);
        for (int i = 0; i < times; i++) {
            int at = lot(text.length() + 1);
            if (lot(2) == 0) {
                text.insert(at, BITS[lot(BITS.length)]);
            } else {
                text.delete(at, Math.min(text.length(), at + 1 + lot(3)));
            }
        }
    }
}

import java.math.BigInteger;
import java.util.ArrayList;
import java.util.List;

/**
 * The document once more, written for being read beside it and not for being quick: texts are trees
 * of functions, every day is walked from DAY 0 anew, refusals are thrown.
 */
final class Model {
    static final long NO = -4611686018427387904L;
    private static final int[] UNDER = {-1, 0, 0, 1, 2, 0};

    /** A refusal, or the place of a FAULT. */
    private static final class Refused extends RuntimeException {
        private static final long serialVersionUID = 1;
        final int answer;

        Refused(int answer) {
            super(null, null, false, false);
            this.answer = answer;
        }
    }

    record Glove(int kind, int number, int place, int height, int side) {
        Glove with(int what, int v) {
            return new Glove(what == 7 ? v : kind, what == 3 ? v : number, what == 4 ? v : place,
                    what == 5 ? v : height, what == 6 ? v : side);
        }

        int lasts(int asKind) {
            switch (asKind) {
                case 0: return 20;
                case 1: return lasts(0) + number;
                case 2: return lasts(0);
                case 3: return lasts(1);
                case 4: return lasts(2) / 2;
                default: return lasts(0) + 10;
            }
        }

        int shows(int asKind, int v, boolean hers) {
            switch (asKind) {
                case 0: return hers ? v : v / 2;
                case 1: return shows(0, v, hers) / 2;
                case 2: return shows(0, v, hers) + 20;
                case 3: return shows(1, v, hers) - number;
                case 4: return shows(2, v, hers);
                default: return shows(0, v, hers) + number;
            }
        }

        int moves(int asKind, int v) {
            switch (asKind) {
                case 0: return v;
                case 1: return moves(0, v);
                case 2: return 2 * moves(0, v);
                case 3: return moves(1, v) + 1;
                case 4: return moves(2, v) - 1;
                default: return moves(0, v) / 2;
            }
        }
    }

    record Walk(int from, int to, int side) {
        boolean passes(int place) {
            return from <= to ? from <= place && place <= to : to <= place && place <= from;
        }
    }

    record Scene(Glove glove, int place, int day, int from) {
        int named(String name) {
            switch (name) {
                case "place": return place;
                case "height": return glove.height();
                case "day": return day;
                case "number": return glove.number();
                case "far": return place < from ? from - place : place - from;
                case "side": return glove.side();
                default: throw new IllegalStateException(name);
            }
        }
    }

    interface E {
        int of(Scene scene);
    }

    record Text(E shows, E moves, E minds) {
    }

    record Kept(Walk walk, List<Glove> gloves, int rule) {
    }

    /** Reads a text from its left to its right, a token at a time. */
    private static final class Reading {
        private final String tape;
        private int start;
        private int end;
        private String token = "";
        private int open = 0;

        Reading(String tape) {
            this.tape = tape;
            next();
        }

        Text text() {
            E shows = part("shows");
            E moves = part("moves");
            E minds = part("minds");
            if (!token.isEmpty()) {
                throw fault();
            }
            return new Text(shows, moves, minds);
        }

        private Refused fault() {
            return new Refused(-100 - start);
        }

        private void next() {
            start = end;
            while (start < tape.length() && " \n".indexOf(tape.charAt(start)) >= 0) {
                start++;
            }
            end = start;
            String rest = tape.substring(start);
            for (String form : new String[] {"[a-z]+", "[0-9]+", "[();+*<=-]"}) {
                java.util.regex.Matcher m = java.util.regex.Pattern.compile(form).matcher(rest);
                if (m.lookingAt()) {
                    end = start + m.end();
                }
            }
            token = tape.substring(start, end);
            boolean none = token.isEmpty() && start < tape.length();
            boolean word = token.matches("[a-z]+")
                    && !token.matches("place|height|day|number|far|side|shows|moves|minds|or|and|not");
            if (none || word || token.matches("[0-9]{5,}")) {
                token = "?";
            }
        }

        private boolean took(String what) {
            if (!token.equals(what)) {
                return false;
            }
            next();
            return true;
        }

        private void must(String what) {
            if (!took(what)) {
                throw fault();
            }
        }

        private void opens() {
            if (open == 5) {
                throw fault();
            }
            open++;
            next();
        }

        private E part(String key) {
            must(key);
            E e = e();
            must(";");
            return e;
        }

        private static int bit(boolean b) {
            return b ? 1 : 0;
        }

        private E e() {
            E left = and();
            while (took("or")) {
                E a = left;
                E b = and();
                left = s -> bit(a.of(s) != 0 | b.of(s) != 0);
            }
            return left;
        }

        private E and() {
            E left = not();
            while (took("and")) {
                E a = left;
                E b = not();
                left = s -> bit(a.of(s) != 0 & b.of(s) != 0);
            }
            return left;
        }

        private E not() {
            if (token.equals("not")) {
                opens();
                E a = not();
                open--;
                return s -> bit(a.of(s) == 0);
            }
            E a = sum();
            if (took("<")) {
                E b = sum();
                return s -> bit(a.of(s) < b.of(s));
            }
            if (took("=")) {
                E b = sum();
                return s -> bit(a.of(s) == b.of(s));
            }
            return a;
        }

        private E sum() {
            E left = term();
            while (token.equals("+") || token.equals("-")) {
                E a = left;
                boolean more = took("+") || !took("-");
                E b = term();
                left = more ? s -> a.of(s) + b.of(s) : s -> a.of(s) - b.of(s);
            }
            return left;
        }

        private E term() {
            E left = one();
            while (took("*")) {
                E a = left;
                E b = one();
                left = s -> a.of(s) * b.of(s);
            }
            return left;
        }

        private E one() {
            String what = token;
            if (what.equals("-")) {
                opens();
                E a = one();
                open--;
                return s -> -a.of(s);
            }
            if (what.equals("(")) {
                opens();
                E a = e();
                must(")");
                open--;
                return a;
            }
            if (what.matches("[0-9]+")) {
                next();
                int n = Integer.parseInt(what);
                return s -> n;
            }
            if (what.matches("place|height|day|number|far|side")) {
                next();
                return s -> s.named(what);
            }
            throw fault();
        }
    }

    private Walk walk = new Walk(0, 19, 0);
    private final List<Glove> gloves = new ArrayList<>();
    private final List<Text> texts = new ArrayList<>();
    private int rule = 0;
    private String tape = "";
    private Kept kept = null;
    private final int[][] sheets = new int[4][];
    private final int[] sorts = {-1, -1, -1, -1};

    Model() {
        texts.add(new Reading("shows 10 + height * 10 ; moves 0 ; minds 1 ;").text());
    }

    // ---- what is needed below

    private static int bound(int v, int low, int high) {
        return v < low ? low : v > high ? high : v;
    }

    private static boolean in(long v, long low, long high) {
        return low <= v && v <= high;
    }

    private boolean isGlove(int glove) {
        return in(glove, 0, gloves.size() - 1);
    }

    private int where(Glove g, Walk w, Text text, int day) {
        if (day >= g.lasts(g.kind())) {
            return -1;
        }
        int place = g.place();
        for (int d = 0; d < day; d++) {
            int v = bound(text.moves().of(new Scene(g, place, d, w.from())), -19, 19);
            place = bound(place + g.moves(g.kind(), v), 0, 19);
        }
        return place;
    }

    private int likely(Glove g, Walk w, int day) {
        int place = where(g, w, texts.get(rule), day);
        if (place < 0 || !w.passes(place)) {
            return 0;
        }
        int v = bound(texts.get(rule).shows().of(new Scene(g, place, day, w.from())), 0, 100);
        return bound(g.shows(g.kind(), v, g.side() == w.side()), 0, 100);
    }

    private int minds(Glove g, int day) {
        int place = where(g, walk, texts.get(rule), day);
        return place < 0 ? 0 : bound(texts.get(rule).minds().of(new Scene(g, place, day, walk.from())), 0, 99);
    }

    private long partsOf(Glove g, Walk w, int n) {
        long left = 1000000000;
        for (int day = 0; day < n; day++) {
            left = left * (100 - likely(g, w, day)) / 100;
        }
        return 1000000000 - left;
    }

    private static long lowest(BigInteger above, BigInteger below, int part) {
        BigInteger divisor = above.gcd(below);
        return (part == 0 ? above : below).divide(divisor).longValueExact();
    }

    // ---- the street, gloves

    int set(int what, int of, int v) {
        int[] most = {19, 19, 1, 9, 19, 4, 1};
        if (!in(what, 0, 6) || !in(v, 0, most[what]) || what > 2 && !isGlove(of)) {
            return -2;
        }
        int was = told(of, what);
        if (what <= 2) {
            walk = new Walk(what == 0 ? v : walk.from(), what == 1 ? v : walk.to(), what == 2 ? v : walk.side());
        } else {
            gloves.set(of, gloves.get(of).with(what, v));
        }
        return was;
    }

    int glove(int kind, int number, int place) {
        if (!in(kind, 0, 5) || !in(number, 0, 9) || !in(place, 0, 19)) {
            return -2;
        }
        if (gloves.size() == 6) {
            return -4;
        }
        gloves.add(new Glove(kind, number, place, 2, 0));
        return gloves.size() - 1;
    }

    int told(int of, int what) {
        if (!in(what, 0, 8) || what > 2 && !isGlove(of)) {
            return -2;
        }
        switch (what) {
            case 0: return walk.from();
            case 1: return walk.to();
            case 2: return walk.side();
            case 3: return gloves.get(of).number();
            case 4: return gloves.get(of).place();
            case 5: return gloves.get(of).height();
            case 6: return gloves.get(of).side();
            case 7: return gloves.get(of).kind();
            default: return gloves.get(of).lasts(gloves.get(of).kind());
        }
    }

    // ---- texts

    int feed(int letter) {
        if (!in(letter, 0, 255)) {
            return -2;
        }
        if (tape.length() == 160) {
            return -4;
        }
        tape = tape + (char) letter;
        return tape.length();
    }

    int text() {
        if (texts.size() == 6) {
            return -4;
        }
        String words = tape;
        tape = "";
        try {
            texts.add(new Reading(words).text());
            return texts.size() - 1;
        } catch (Refused refused) {
            return refused.answer;
        }
    }

    int force(int text) {
        if (!in(text, 0, texts.size() - 1)) {
            return -2;
        }
        int was = rule;
        rule = text;
        return was;
    }

    // ---- day by day

    int day(int glove, int day, int what) {
        if (!isGlove(glove) || !in(day, 0, 29) || !in(what, 0, 2)) {
            return -2;
        }
        Glove g = gloves.get(glove);
        switch (what) {
            case 0: return where(g, walk, texts.get(rule), day);
            case 1: return likely(g, walk, day);
            default: return minds(g, day);
        }
    }

    long found(int glove, int n, int part) {
        if (!isGlove(glove) || !in(n, 0, 8) || !in(part, 0, 1)) {
            return NO;
        }
        BigInteger all = BigInteger.valueOf(100).pow(n);
        BigInteger unseen = BigInteger.ONE;
        for (int day = 0; day < n; day++) {
            unseen = unseen.multiply(BigInteger.valueOf(100 - likely(gloves.get(glove), walk, day)));
        }
        return lowest(all.subtract(unseen), all, part);
    }

    long parts(int glove, int n) {
        return isGlove(glove) && in(n, 0, 30) ? partsOf(gloves.get(glove), walk, n) : NO;
    }

    long waiting(int glove, int n) {
        if (!isGlove(glove) || !in(n, 0, 30)) {
            return NO;
        }
        Glove g = gloves.get(glove);
        long together = 0;
        for (int day = 0; day < n; day++) {
            long left = 1000000;
            for (int ahead = 0; ahead < day; ahead++) {
                left = left * (100 - likely(g, walk, ahead)) / 100;
            }
            if (where(g, walk, texts.get(rule), day) >= 0) {
                together += minds(g, day) * left;
            }
        }
        return together;
    }

    // ---- what would be best

    long hang(int glove, int what) {
        if (!isGlove(glove) || !in(what, 0, 1)) {
            return NO;
        }
        long[] best = {0, -1};
        for (int place = 0; place < 20; place++) {
            for (int height = 0; height < 5; height++) {
                long parts = partsOf(gloves.get(glove).with(4, place).with(5, height), walk, 30);
                if (parts > best[1]) {
                    best = new long[] {10 * place + height, parts};
                }
            }
        }
        return best[what];
    }

    long walk(int glove, int what) {
        if (!isGlove(glove) || !in(what, 0, 1)) {
            return NO;
        }
        long[] best = null;
        for (int number = 0; number < 19192; number++) {
            Walk w = new Walk(number / 1000, number % 1000 / 10, number % 10);
            if (w.side() <= 1 && w.from() <= w.to() && w.to() <= 19) {
                long parts = partsOf(gloves.get(glove), w, 30);
                long worth = parts - 1000000L * (w.to() - w.from() + 1);
                if (best == null || worth > best[2]) {
                    best = new long[] {number, parts, worth};
                }
            }
        }
        return best[what];
    }

    int best(int glove, int what) {
        if (!isGlove(glove) || !in(what, 0, 1)) {
            return -2;
        }
        int[] best = {0, -1};
        for (int day = 0; day < 30; day++) {
            int likely = likely(gloves.get(glove), walk, day);
            if (likely > best[1]) {
                best = new int[] {day, likely};
            }
        }
        return best[what];
    }

    long first(int n, int what) {
        if (!in(n, 0, 30) || !in(what, 0, 1)) {
            return NO;
        }
        long[] best = {-1, -1};
        for (int glove = 0; glove < gloves.size(); glove++) {
            long parts = partsOf(gloves.get(glove), walk, n);
            if (parts > best[1]) {
                best = new long[] {glove, parts};
            }
        }
        return best[what];
    }

    int giveUp(int glove, int k) {
        if (!isGlove(glove) || !in(k, 1, 100)) {
            return -2;
        }
        for (int first = 0; first < 30; first++) {
            boolean none = true;
            for (int day = first; day < 30; day++) {
                none &= likely(gloves.get(glove), walk, day) < k;
            }
            if (none) {
                return first;
            }
        }
        return 30;
    }

    // ---- days that were told

    private int otherwise(int[] row, Glove g, Text text) {
        for (int day = 0; day < row.length; day++) {
            if (row[day] != where(g, walk, text, day)) {
                return day;
            }
        }
        return -1;
    }

    int tells(int sheet, int glove, int what) {
        if (!in(sheet, 0, 3) || !isGlove(glove) || !in(what, 0, 5)) {
            return -2;
        }
        if (sheets[sheet] == null) {
            return -11;
        }
        if (sheets[sheet].length > 30) {
            return -2;
        }
        Glove g = gloves.get(glove);
        if (what == 0) {
            return otherwise(sheets[sheet], g, texts.get(rule));
        }
        int[] many = {0, 6, 10, 20, 5, texts.size()};
        int[] as = {0, 7, 3, 4, 5, 0};
        int bits = 0;
        for (int v = 0; v < many[what]; v++) {
            Glove other = what == 5 ? g : g.with(as[what], v);
            Text text = texts.get(what == 5 ? v : rule);
            bits |= otherwise(sheets[sheet], other, text) == -1 ? 1 << v : 0;
        }
        return bits;
    }

    int film(int sheet, int glove, int n) {
        if (!in(sheet, 0, 3) || !isGlove(glove) || !in(n, 0, 30)) {
            return -2;
        }
        sorts[sheet] = 0;
        sheets[sheet] = new int[n];
        for (int day = 0; day < n; day++) {
            sheets[sheet][day] = where(gloves.get(glove), walk, texts.get(rule), day);
        }
        return n;
    }

    private int seen(Glove g, int seed) {
        BigInteger z = BigInteger.valueOf(seed);
        for (int day = 0; day < 30; day++) {
            z = z.multiply(BigInteger.valueOf(1103515245)).add(BigInteger.valueOf(12345));
            long bits = z.mod(BigInteger.ONE.shiftLeft(32)).longValueExact();
            if ((bits >> 9) % 100 < likely(g, walk, day)) {
                return day;
            }
        }
        return -1;
    }

    int lot(int glove, int seed) {
        return isGlove(glove) ? seen(gloves.get(glove), seed) : -2;
    }

    long chance(int glove, int seed, int n, int part) {
        if (!isGlove(glove) || !in(n, 1, 20) || !in(part, 0, 1)) {
            return NO;
        }
        int count = 0;
        for (int i = 0; i < n; i++) {
            count += seen(gloves.get(glove), seed + i) >= 0 ? 1 : 0;
        }
        return lowest(BigInteger.valueOf(count), BigInteger.valueOf(n), part);
    }

    int image() {
        kept = new Kept(walk, new ArrayList<>(gloves), rule);
        return gloves.size();
    }

    int back() {
        if (kept == null) {
            return -3;
        }
        walk = kept.walk();
        rule = kept.rule();
        gloves.clear();
        gloves.addAll(kept.gloves());
        return gloves.size();
    }

    int count(int what) {
        switch (what) {
            case 0: return gloves.size();
            case 1: return Math.abs(walk.from() - walk.to()) + 1;
            case 2: return texts.size();
            case 3: return tape.length();
            case 4: return rule;
            default: return -2;
        }
    }

    // ---- the host

    int sheet(int sheet, int sort, int n) {
        if (!in(sheet, 0, 3) || !in(sort, -1, 2) || sort >= 0 && n > 40) {
            return -2;
        }
        if (sort >= 0 && n < 0) {
            return -14;
        }
        sorts[sheet] = sort;
        sheets[sheet] = sort < 0 ? null : new int[n];
        return 1;
    }

    int cell(int sheet, int i, int v) {
        if (!in(sheet, 0, 3)) {
            return -2;
        }
        if (sheets[sheet] == null) {
            return -11;
        }
        if (!in(i, 0, sheets[sheet].length - 1)) {
            return -12;
        }
        int away = 32 - (8 << sorts[sheet]);
        sheets[sheet][i] = v << away >> away;
        return 1;
    }

    int copy(int sheet, int i, int other, int j, int n) {
        if (!in(sheet, 0, 3) || !in(other, 0, 3)) {
            return -2;
        }
        if (sheets[sheet] == null || sheets[other] == null) {
            return -11;
        }
        if (sorts[sheet] != sorts[other]) {
            return -13;
        }
        if (i < 0 || j < 0 || n < 0 || (long) i + n > sheets[sheet].length || (long) j + n > sheets[other].length) {
            return -12;
        }
        int[] asTheyWere = sheets[sheet].clone();
        for (int k = 0; k < n; k++) {
            sheets[other][j + k] = asTheyWere[i + k];
        }
        return n;
    }

    int gloves(int sheet, int sort, int from, int n) {
        if (!in(sheet, 0, 3) || !in(sort, 0, 2) || !in(n, 0, 6)) {
            return -2;
        }
        if (sheets[sheet] != null && sorts[sheet] != sort) {
            return -13;
        }
        if (sheets[sheet] == null) {
            return -11;
        }
        int came = 0;
        for (int k = 0; k < n; k++) {
            long at = (long) from + 3 * k;
            if (!in(at, 0, sheets[sheet].length - 3)) {
                return -12;
            }
            int[] row = sheets[sheet];
            came += glove(row[(int) at], row[(int) at + 1], row[(int) at + 2]) >= 0 ? 1 : 0;
        }
        return came;
    }

    int taken(int glove, int k) {
        if (!in(k, 0, 5)) {
            return -2;
        }
        if (!isGlove(glove)) {
            return -11;
        }
        for (int kind = gloves.get(glove).kind(); kind >= 0; kind = UNDER[kind]) {
            if (kind == k) {
                return gloves.get(glove).number();
            }
        }
        return -13;
    }
}

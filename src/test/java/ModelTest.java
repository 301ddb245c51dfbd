/** Runs of calls by lot (always the same ones), each call's answer held against the Model's. */
public final class ModelTest {
    private static final String[] CALLS = {"set", "glove", "told", "feed", "text", "force", "day", "found",
        "parts", "waiting", "hang", "walk", "best", "first", "giveUp", "tells", "film", "lot", "chance", "image",
        "back", "count", "sheet", "cell", "copy", "gloves", "taken"};
    // How often each comes: the dear ones seldom.
    private static final int[] OFTEN = {14, 6, 5, 2, 2, 6, 12, 5, 4, 4, 1, 1, 4, 3, 4, 8, 5, 4, 4, 2, 2, 3, 5, 8, 5, 3, 4};
    private static final int[] ODD = {-1, -2, 20, 30, 31, 40, 41, 100, 255, 256, 70000,
        Integer.MAX_VALUE, Integer.MIN_VALUE, Integer.MAX_VALUE - 1, -11};
    // What an object answers behind these is free.
    private static final int CALLS_AT_MOST = 512;
    private static final Due due = new Due();
    private static long lot = 20261118;

    private ModelTest() {
    }

    public static void main(String[] args) {
        int runs = args.length > 0 ? Integer.parseInt(args[0]) : 300;
        for (int run = 0; run < runs; run++) {
            run(run);
        }
        due.end("ModelTest");
    }

    private static int below(int n) {
        lot = lot * 6364136223846793005L + 1442695040888963407L;
        return (int) ((lot >>> 33) % n);
    }

    /** Mostly a number from 0 on that is none such seldom, now and then an odd one. */
    private static int about(int n) {
        int die = below(40);
        return die == 0 ? ODD[below(ODD.length)] : die == 1 ? n : die == 2 ? -1 : below(n);
    }

    private static void run(int run) {
        OneGlove x = new OneGlove();
        Model m = new Model();
        int all = 0;
        for (int often : OFTEN) {
            all += often;
        }
        int calls = 0;
        while (calls < CALLS_AT_MOST) {
            int die = below(all);
            int call = 0;
            while (die >= OFTEN[call]) {
                die -= OFTEN[call];
                call++;
            }
            if (CALLS[call].equals("text")) {
                String words = Words.text(ModelTest::below);
                if (calls + words.length() >= CALLS_AT_MOST) {
                    break;
                }
                for (int i = 0; i < words.length(); i++) {
                    int letter = words.charAt(i);
                    due.is("run " + run + ": feed(" + letter + ")", m.feed(letter), x.feed(letter));
                }
                calls += words.length();
                due.is("run " + run + ": text() of \"" + words + "\"", m.text(), x.text());
            } else {
                both(run, CALLS[call], x, m);
            }
            calls++;
        }
    }

    private static int seed() {
        return below(4) == 0 ? ODD[below(ODD.length)] : below(1 << 30) - (1 << 29);
    }

    /** A cell's value: of use as a kind, a number or a place most often. */
    private static int value() {
        return below(8) == 0 ? seed() : below(22) - 1;
    }

    private static void both(int run, String call, OneGlove x, Model m) {
        int glove = about(Math.max(1, m.count(0)));
        int[] a = {0, 0, 0, 0, 0};
        long want;
        long got;
        switch (call) {
            case "set": {
                int[] most = {20, 20, 2, 10, 20, 5, 2};
                int what = about(7);
                a = new int[] {what, glove, about(what >= 0 && what < 7 ? most[what] : 5)};
                want = m.set(a[0], a[1], a[2]);
                got = x.set(a[0], a[1], a[2]);
                break;
            }
            case "glove":
                a = new int[] {about(6), about(10), about(20)};
                want = m.glove(a[0], a[1], a[2]);
                got = x.glove(a[0], a[1], a[2]);
                break;
            case "told":
                a = new int[] {glove, about(9)};
                want = m.told(a[0], a[1]);
                got = x.told(a[0], a[1]);
                break;
            case "feed":
                a = new int[] {about(256)};
                want = m.feed(a[0]);
                got = x.feed(a[0]);
                break;
            case "force":
                a = new int[] {about(m.count(2))};
                want = m.force(a[0]);
                got = x.force(a[0]);
                break;
            case "day":
                a = new int[] {glove, about(30), about(3)};
                want = m.day(a[0], a[1], a[2]);
                got = x.day(a[0], a[1], a[2]);
                break;
            case "found":
                a = new int[] {glove, about(9), about(2)};
                want = m.found(a[0], a[1], a[2]);
                got = x.found(a[0], a[1], a[2]);
                break;
            case "parts":
                a = new int[] {glove, about(31)};
                want = m.parts(a[0], a[1]);
                got = x.parts(a[0], a[1]);
                break;
            case "waiting":
                a = new int[] {glove, about(31)};
                want = m.waiting(a[0], a[1]);
                got = x.waiting(a[0], a[1]);
                break;
            case "hang":
                a = new int[] {glove, about(2)};
                want = m.hang(a[0], a[1]);
                got = x.hang(a[0], a[1]);
                break;
            case "walk":
                a = new int[] {glove, about(2)};
                want = m.walk(a[0], a[1]);
                got = x.walk(a[0], a[1]);
                break;
            case "best":
                a = new int[] {glove, about(2)};
                want = m.best(a[0], a[1]);
                got = x.best(a[0], a[1]);
                break;
            case "first":
                a = new int[] {about(31), about(2)};
                want = m.first(a[0], a[1]);
                got = x.first(a[0], a[1]);
                break;
            case "giveUp":
                a = new int[] {glove, below(3) == 0 ? about(101) : 1 + below(60)};
                want = m.giveUp(a[0], a[1]);
                got = x.giveUp(a[0], a[1]);
                break;
            case "tells":
                a = new int[] {about(4), glove, about(6)};
                want = m.tells(a[0], a[1], a[2]);
                got = x.tells(a[0], a[1], a[2]);
                break;
            case "film":
                a = new int[] {about(4), glove, about(31)};
                want = m.film(a[0], a[1], a[2]);
                got = x.film(a[0], a[1], a[2]);
                break;
            case "lot":
                a = new int[] {glove, seed()};
                want = m.lot(a[0], a[1]);
                got = x.lot(a[0], a[1]);
                break;
            case "chance":
                a = new int[] {glove, seed(), about(21), about(2)};
                want = m.chance(a[0], a[1], a[2], a[3]);
                got = x.chance(a[0], a[1], a[2], a[3]);
                break;
            case "image":
                want = m.image();
                got = x.image();
                break;
            case "back":
                want = m.back();
                got = x.back();
                break;
            case "count":
                a = new int[] {about(5)};
                want = m.count(a[0]);
                got = x.count(a[0]);
                break;
            default:
                host(run, call, x, m, glove);
                return;
        }
        due.is("run " + run + ": " + call + java.util.Arrays.toString(a), want, got);
    }

    private static void host(int run, String call, OneGlove x, Model m, int glove) {
        int[] a;
        int want;
        int got;
        switch (call) {
            case "sheet":
                a = new int[] {about(4), below(10) == 0 ? about(4) - 1 : below(3), about(41)};
                want = m.sheet(a[0], a[1], a[2]);
                got = x.sheet(a[0], a[1], a[2]);
                break;
            case "cell":
                a = new int[] {about(4), about(30), value()};
                want = m.cell(a[0], a[1], a[2]);
                got = x.cell(a[0], a[1], a[2]);
                break;
            case "copy":
                a = new int[] {about(4), about(12), about(4), about(12), about(12)};
                want = m.copy(a[0], a[1], a[2], a[3], a[4]);
                got = x.copy(a[0], a[1], a[2], a[3], a[4]);
                break;
            case "gloves":
                a = new int[] {about(4), about(3), about(20), about(7)};
                want = m.gloves(a[0], a[1], a[2], a[3]);
                got = x.gloves(a[0], a[1], a[2], a[3]);
                break;
            default:
                a = new int[] {glove, about(6)};
                want = m.taken(a[0], a[1]);
                got = x.taken(a[0], a[1]);
                break;
        }
        due.is("run " + run + ": " + call + java.util.Arrays.toString(a), want, got);
    }
}

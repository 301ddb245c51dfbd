/** Promise 6: FAULTS and where they are, of every short row of TOKENS and of deep ones by lot. */
public final class FaultsTest {
    private static final Due due = new Due();
    private static final int TAPE = 160;
    private static final String[] FEW = {"1", "not", "-", "(", ")", "<", "+", "and", ";"};
    private static final String[] MANY = {"1", "far", "not", "not", "-", "-", "(", "(", "(", ")", ")", ")", "<", "=",
        "+", "*", "and", "or", ";"};
    private static final String[] ROUGH = {"shows", "moves", "minds", "1", "day", ";", "nota", "not", "9999", "12345",
        "or", "orr", "(", "-"};
    private static long lot = 20261118;

    private FaultsTest() {
    }

    public static void main(String[] args) {
        for (int length = 0; length <= 5; length++) {
            shortRows("shows", length);
        }
        for (int i = 0; i < 20000; i++) {
            ask(deepRow());
            ask(roughRow());
        }
        for (int letter = 0; letter < 256; letter++) {
            aByte((char) letter);
        }
        due.end("FaultsTest");
    }

    private static int below(int n) {
        lot = lot * 6364136223846793005L + 1442695040888963407L;
        return (int) ((lot >>> 33) % n);
    }

    private static void ask(String text) {
        OneGlove x = new OneGlove();
        for (int i = 0; i < text.length(); i++) {
            x.feed(text.charAt(i));
        }
        int fault = Standing.fault(text);
        due.is("text() of [" + text + "]", fault < 0 ? 1 : -100 - fault, x.text());
    }

    private static void shortRows(String ahead, int more) {
        if (more == 0) {
            ask(ahead);
            return;
        }
        for (String token : FEW) {
            shortRows(ahead + " " + token, more - 1);
        }
    }

    /** Goes on by what can stand there, but for now and then; a TEXT that only ends too early has no other FAULT. */
    private static String deepRow() {
        String text = "shows";
        int tries = 10 + below(80);
        for (int i = 0; i < tries; i++) {
            String longer = text + " " + MANY[below(MANY.length)];
            boolean stands = Standing.fault(longer) == longer.length();
            if (longer.length() <= TAPE && (stands || below(60) == 0)) {
                text = longer;
            }
        }
        return text;
    }

    private static String roughRow() {
        StringBuilder text = new StringBuilder();
        int tokens = below(12);
        for (int i = 0; i < tokens; i++) {
            text.append(ROUGH[below(ROUGH.length)]).append(below(3) == 0 ? "" : below(2) == 0 ? " " : "\n");
        }
        return text.toString();
    }

    private static void aByte(char letter) {
        ask("" + letter);
        ask("shows " + letter);
        ask("shows 1" + letter + ";moves 0;minds 1;");
        ask("shows 1;moves 0;minds day" + letter + ";");
        ask("shows 1;moves 0;minds 1;" + letter);
    }
}

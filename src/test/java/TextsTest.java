/** Promises 5 to 7: feed, text, force; what a TEXT is, where its FAULT is, what it reckons. */
public final class TextsTest {
    private static final Due due = new Due();
    private static final String REST = "; moves 0; minds 0;";

    private TextsTest() {
    }

    public static void main(String[] args) {
        promise5();
        promise6();
        promise6Full();
        promise6Faults();
        promise6Bytes();
        promise6Open();
        promise6Edges();
        promise7();
        reckoned();
        bounds();
        names();
        firstRule();
        due.end("TextsTest");
    }

    private static void promise5() {
        OneGlove x = new OneGlove();
        due.is("feed(-1)", -2, x.feed(-1));
        due.is("feed(256)", -2, x.feed(256));
        due.is("count(3)", 0, x.count(3));
        due.is("feed(0)", 1, x.feed(0));
        for (int n = 2; n <= 160; n++) {
            due.is("feed " + n, n, x.feed(255));
        }
        due.is("feed, full", -4, x.feed(32));
        due.is("feed(256), full", -2, x.feed(256));
        due.is("count(3)", 160, x.count(3));
        due.is("text()", -100, x.text());
        due.is("feed, empty again", 1, x.feed(7));
    }

    private static void promise6() {
        OneGlove x = new OneGlove();
        due.is("text 1", 1, Told.text(x, "shows 1;moves 2;minds 3;"));
        due.is("THE TAPE then", 0, x.count(3));
        due.is("THE RULE then", 0, x.count(4));
        due.is("a FAULT", -100, Told.text(x, "moves 1;"));
        due.is("THE TAPE then", 0, x.count(3));
        due.is("TEXTS then", 2, x.count(2));
        due.is("text 2", 2, Told.text(x, "\n shows\n1;  moves(2) ;minds-3;\n "));
        due.is("TEXTS then", 3, x.count(2));
        // A TEXT with a FAULT leaves nothing behind in the one that comes next.
        Told.text(x, "shows 77; moves 5; minds 9");
        due.is("text 3", 3, Told.text(x, "shows 4;moves 0;minds 6;"));
        x.force(3);
        x.glove(0, 0, 0);
        due.is("LIKELY", 4, x.day(0, 0, 1));
        due.is("minds", 6, x.day(0, 0, 2));
        due.is("WHERE", 0, x.day(0, 1, 0));
        x.force(2);
        due.is("minds of text 2", 0, x.day(0, 0, 2));
        due.is("WHERE of text 2", 2, x.day(0, 1, 0));
        x = new OneGlove();
        x.glove(0, 0, 0);
        for (int i = 0; i < 5; i++) {
            due.is("a long one", -168, Told.text(x, "shows 1" + "+1".repeat(30) + " 1;"));
        }
        due.is("text 1 behind five FAULTS", 1, Told.text(x, "shows 9;moves 0;minds 8;"));
        x.force(1);
        due.is("LIKELY of text 1", 9, x.day(0, 0, 1));
        due.is("minds of text 1", 8, x.day(0, 0, 2));
    }

    private static void promise6Full() {
        OneGlove x = new OneGlove();
        for (int text = 1; text < 6; text++) {
            due.is("text " + text, text, Told.text(x, "shows " + text + ";moves 0;minds 0;"));
        }
        due.is("FULL, nothing fed", -4, x.text());
        due.is("FULL, a FAULT", -4, Told.text(x, "?"));
        due.is("THE TAPE stays", 1, x.count(3));
        due.is("TEXTS", 6, x.count(2));
        x.glove(0, 0, 0);
        for (int text = 1; text < 6; text++) {
            x.force(text);
            due.is("LIKELY by text " + text, text, x.day(0, 0, 1));
        }
    }

    private static void fault(String words, int place) {
        OneGlove x = new OneGlove();
        due.is("FAULT of \"" + words + "\"", -100 - place, Told.text(x, words));
        due.is("TEXTS after \"" + words + "\"", 1, x.count(2));
        due.is("THE TAPE after \"" + words + "\"", 0, x.count(3));
    }

    /** A FAULT in the E of shows, told by its place in that E; -1: it stands. */
    private static void in(String e, int place) {
        String words = "shows " + e + REST;
        if (place < 0) {
            due.is("\"" + e + "\"", 1, Told.text(new OneGlove(), words));
        } else {
            fault(words, 6 + place);
        }
    }

    private static void promise6Faults() {
        fault("", 0);
        fault("  \n", 3);
        fault("shows", 5);
        fault("shows ", 6);
        fault("shows 1", 7);
        fault("shows 1 ; moves 2 ; minds 3", 27);
        fault("shows 1 ; moves 2 ; minds 3  ", 29);
        fault("shows 1 ; moves 2 ; minds 3 ; ;", 30);
        fault("shows 1 ; moves 2 ; minds 3 ; shows", 30);
        fault("shows 1 ; moves 2 ; minds 3 ;\t", 29);
        fault("shows 1 ; moves 2 ; minds 3 ; 4", 30);
        fault("shows 1 ; moves 2 ; minds 3 ; place", 30);
        fault("shows 1 ; minds 2 ; moves 3 ;", 10);
        fault("shows 1 ; shows 2 ; minds 3 ;", 10);
        fault("shows ; moves 2 ; minds 3 ;", 6);
        fault("show 1 ;", 0);
        fault("Shows 1 ;", 0);
        fault("shows1 2", 7);
        fault("showsplace", 0);
        in("1 2", 2);
        in("placeplace", 0);
        in("place height", 6);
        in("colour", 0);
        in("lumber", 0);
        in("numbed", 0);
        in("numbe", 0);
        in("numbers", 0);
        in("dot 1", 0);
        in("1 nor 2", 2);
        in("a", 0);
        in("1 + shows", 4);
        in("1 + $", 4);
        in("12345", 0);
        in("00001", 0);
        in("9999", -1);
        in("0000", -1);
        in("1 + 12345 ?", 4);
        in("12a", 2);
        in("9place", 1);
        in("1 +", 3);
        in("1 + * 2", 4);
        in("* 2", 0);
        in("+ 2", 0);
        in("1 < 2 < 3", 6);
        in("1 = 2 = 3", 6);
        in("1 < 2 = 3", 6);
        in("(1 < 2) < 3", -1);
        in("1 < (2 < 3)", -1);
        in("1 < not 2", 4);
        in("1 + not 2", 4);
        in("- not 2", 2);
        in("not 1 < 2 < 3", 10);
        in("1 not 2", 2);
        in("1 and", 5);
        in("and 1", 0);
        in("1 or or 2", 5);
        in("1 and not not 2 or not 3", -1);
        in("( 1", 3);
        in("()", 1);
        in("1 )", 2);
        in("(1 ; ", 3);
        in("1 - - 2", -1);
        in("1 > 2", 2);
        in("1 , 2", 2);
        in((char) 233 + "1", 0);
        in("1" + (char) 0, 1);
        in("1" + (char) 13, 1);
        in("3*-2--1", -1);
        in("not(1)and(2)or-(3)", -1);
    }

    /** Each byte there is, as all of an E: a digit stands, ( - and blanks end too early. */
    private static void promise6Bytes() {
        for (int letter = 0; letter < 256; letter++) {
            boolean digit = letter >= '0' && letter <= '9';
            boolean tooEarly = letter == '(' || letter == '-' || letter == 32 || letter == 10;
            in(String.valueOf((char) letter), digit ? -1 : tooEarly ? 1 : 0);
            in("1" + (char) letter + "2", digit ? -1 : "+-*<=".indexOf(letter) >= 0 ? -1
                    : letter == 32 || letter == 10 ? 2 : letter == ';' ? 2 : 1);
        }
    }

    private static void promise6Open() {
        in("(((((1)))))", -1);
        in("((((((1))))))", 5);
        in("- - - - - 1", -1);
        in("- - - - - - 1", 10);
        in("not not not not not 1", -1);
        in("not not not not not not 1", 20);
        in("not ( - ( not 1 ) )", -1);
        in("not ( - ( not ( 1 ) ) )", 14);
        in("not ( - ( not - 1 ) )", 14);
        in("(((((1-2)))))", -1);
        in("(((((-2)))))", 5);
        in("(((((not 2)))))", 5);
        in("(((((1+(2))))))", 7);
        // What has ended is open no more.
        in("- - - - - 1 - - - - - - 2", -1);
        in("- - - - - 1 + (((((2)))))", -1);
        in("not not not not not 1 and (((((2)))))", -1);
        in("not not not not not 1 or - - - - - 2", -1);
        in("not not not not not 1 < - 2", 24);
        in("not not not not not 1 + ( 2 )", 24);
        in("not not not not 1 < - 2", -1);
        in("(((((1))))) * (((((2)))))", -1);
        in("- ( - ( - 1 ) ) * ( ( ( ( ( 1 ) ) ) ) )", -1);
        in("not (not 1) and not (not 2)", -1);
    }

    private static void promise6Edges() {
        // A TEXT that fills THE TAPE.
        int ones = (160 - "shows 0".length() - REST.length()) / 2;
        StringBuilder words = new StringBuilder("shows 0");
        for (int i = 0; i < ones; i++) {
            words.append("+1");
        }
        words.append(REST);
        while (words.length() < 160) {
            words.append(' ');
        }
        OneGlove x = new OneGlove();
        due.is("the longest TEXT", 1, Told.text(x, words.toString()));
        x.force(1);
        x.glove(0, 0, 0);
        due.is("LIKELY by the longest TEXT", ones, x.day(0, 0, 1));
        // What comes when THE TAPE is full is not on it.
        fault(" ".repeat(160) + "shows 1;", 160);
        fault(";".repeat(160), 0);
        fault("shows " + "1+".repeat(77), 160);
    }

    private static void promise7() {
        OneGlove x = new OneGlove();
        due.is("force(0)", 0, x.force(0));
        due.is("force(1), none yet", -2, x.force(1));
        due.is("force(-1)", -2, x.force(-1));
        Told.text(x, "shows 1;moves 0;minds 0;");
        Told.text(x, "shows 2;moves 0;minds 0;");
        due.is("force(2)", 0, x.force(2));
        due.is("force(1)", 2, x.force(1));
        due.is("force(3)", -2, x.force(3));
        due.is("count(4)", 1, x.count(4));
        x.glove(0, 0, 0);
        due.is("LIKELY", 1, x.day(0, 0, 1));
        due.is("force(0)", 1, x.force(0));
        due.is("LIKELY", 30, x.day(0, 0, 1));
    }

    /** Minds is the plainest part to look at: of no KIND's making. */
    private static void value(String e, int want) {
        OneGlove x = Told.under("shows 0; moves 0; minds " + e + ";");
        x.glove(0, 7, 13);
        x.set(0, 0, 15);
        x.set(5, 0, 4);
        x.set(6, 0, 1);
        due.is(e, want, x.day(0, 6, 2));
    }

    private static void reckoned() {
        value("1 + 2 * 3", 7);
        value("(1 + 2) * 3", 9);
        value("9 - 3 - 2", 4);
        value("9 - (3 - 2)", 8);
        value("2 * 3 * 4", 24);
        value("9 - 3 + 2", 8);
        value("- 2 + 7", 5);
        value("- 2 * - 3", 6);
        value("- (2 - 9)", 7);
        value("3 - - 4", 7);
        value("0 - - - 4", 0);
        value("5 < 6", 1);
        value("6 < 6", 0);
        value("7 < 6", 0);
        value("6 = 6", 1);
        value("6 = 5", 0);
        value("-1 < 0", 1);
        value("1 + 2 < 2 + 2", 1);
        value("(1 < 2) + (2 < 3)", 2);
        value("5 or 0", 1);
        value("0 or 0", 0);
        value("0 or 7", 1);
        value("5 and 7", 1);
        value("5 and 0", 0);
        value("0 and 7", 0);
        value("-1 and -2", 1);
        value("4 and 2", 1);
        value("(0 or 0) + 5", 5);
        value("(0 and 7) + 5", 5);
        value("(7 < 6) + 5", 5);
        value("(7 = 6) + 5", 5);
        value("not 7 + 5", 0);
        value("(not 7) + 5", 5);
        value("not 0", 1);
        value("not 5", 0);
        value("not not 5", 1);
        value("not 1 < 0", 1);
        value("(not 1) < 1", 1);
        value("not 0 and 0", 0);
        value("not 1 or 1", 1);
        value("1 or 0 and 0", 1);
        value("(1 or 0) and 0", 0);
        value("0 and 0 or 1", 1);
        value("1 or 1 < 0", 1);
        value("9999", 99);
        value("0012", 12);
        // 32 bits, wrapping.
        value("9999 * 9999 * 9999", 0);
        value("9999 * 9999", 99);
        value("(1024*1024*2048 < 0) * 5", 5);
        value("(1024*1024*2048 - 1 = -(1024*1024*2048 + 1)) * 7", 7);
        value("(1024*1024*4096 = 0) * 9", 9);
        value("(-(1024*1024*2048) = 1024*1024*2048) * 3", 3);
        value("(1024*1024*2048-1 < 1024*1024*2048) * 2", 0);
        value("1024*1024*4096 or 0", 0);
    }

    private static void bounds() {
        value("0 - 1", 0);
        value("0", 0);
        value("99", 99);
        value("100", 99);
        OneGlove x = Told.under("shows 0 - place; moves 1; minds 0;");
        x.glove(5, 9, 5);
        due.is("shows below 0 is 0 ahead of the KIND", 9, x.day(0, 0, 1));
        x = Told.under("shows 9999; moves 1; minds 0;");
        x.glove(3, 9, 5);
        x.glove(2, 9, 5);
        x.glove(0, 9, 5);
        due.is("shows above 100 is 100 ahead of the KIND", 41, x.day(0, 0, 1));
        due.is("SHOWS is 100 in the end", 100, x.day(1, 0, 1));
        due.is("shows above 100 is 100", 100, x.day(2, 0, 1));
        x.set(6, 2, 1);
        due.is("half of it", 50, x.day(2, 0, 1));
        x = Told.under("shows 8; moves 0; minds 0;");
        x.glove(3, 9, 5);
        due.is("SHOWS is 0 in the end", 0, x.day(0, 0, 1));
        x = Told.under("shows 0; moves 9999 * ((day = 0) - (day = 1)); minds 0;");
        x.glove(5, 0, 3);
        due.is("moves above 19 is 19 ahead of the KIND", 12, x.day(0, 1, 0));
        due.is("moves below -19 is -19 ahead of the KIND", 3, x.day(0, 2, 0));
        x.glove(0, 0, 0);
        due.is("moves of 19", 19, x.day(1, 1, 0));
        due.is("moves of -19", 0, x.day(1, 2, 0));
    }

    private static void names() {
        value("place", 13);
        value("height", 4);
        value("day", 6);
        value("number", 7);
        value("far", 2);
        value("side", 1);
        OneGlove x = Told.under("shows 0; moves 1 + side; minds place * 3 + day;");
        x.glove(0, 0, 4);
        due.is("place is where it is by then", (4 + 5) * 3 + 5, x.day(0, 5, 2));
        x.set(6, 0, 1);
        due.is("side moves it", 14, x.day(0, 5, 0));
        x = Told.under("shows far * 10; moves far; minds far;");
        x.glove(0, 0, 5);
        x.set(0, 0, 3);
        due.is("far moves it", 7, x.day(0, 1, 0));
        due.is("far moves it on", 11, x.day(0, 2, 0));
        due.is("far, LIKELY", 80, x.day(0, 2, 1));
        due.is("far, minds", 8, x.day(0, 2, 2));
        x.set(0, 0, 19);
        due.is("far to the right of it", 14, x.day(0, 0, 2));
    }

    private static void firstRule() {
        OneGlove x = new OneGlove();
        x.glove(0, 9, 3);
        for (int height = 0; height < 5; height++) {
            x.set(5, 0, height);
            due.is("LIKELY at " + height, 10 + height * 10, x.day(0, 11, 1));
            due.is("minds at " + height, 1, x.day(0, 11, 2));
            due.is("WHERE at " + height, 3, x.day(0, 11, 0));
        }
    }
}

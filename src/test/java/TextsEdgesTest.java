/** The edges that the document names: texts, promises 5 to 7, a sentence at a time. */
public final class TextsEdgesTest {
    private static final Due due = new Due();
    private static final int LEAST = Integer.MIN_VALUE;
    private static final int MOST = Integer.MAX_VALUE;
    private static final String REST = "; moves 0; minds 0;";

    private TextsEdgesTest() {
    }

    public static void main(String[] args) {
        tapeAtMost();
        tokensAsLong();
        words();
        numbers();
        signs();
        blanks();
        parts();
        orAnd();
        nots();
        sums();
        names();
        wrapping();
        trueOrNot();
        firstToken();
        tooEarly();
        bytesThatBeginNone();
        wordsThatAreNeither();
        numbersTooLong();
        fiveOpen();
        openTill();
        textsAtMost();
        namesOf();
        showsBound();
        movesBound();
        mindsBound();
        textZero();
        feeds();
        tapeIsEmptyThen();
        numberOrFault();
        fullAheadOfAll();
        forces();
        due.end("TextsEdgesTest");
    }

    private static void fault(String words, int place) {
        due.is("FAULT of \"" + words + "\"", -100 - place, Told.text(new OneGlove(), words));
    }

    private static void stands(String words) {
        due.is("text \"" + words + "\"", 1, Told.text(new OneGlove(), words));
    }

    /** The E of shows: it stands. */
    private static void in(String e) {
        stands("shows " + e + REST);
    }

    /** The E of shows: its FAULT is on this place of it. */
    private static void in(String e, int place) {
        fault("shows " + e + REST, 6 + place);
    }

    /** What an E comes to, told by minds. */
    private static void value(String e, int want) {
        OneGlove x = Told.under("shows 0; moves 0; minds " + e + ";");
        x.glove(0, 7, 13);
        due.is(e, want, x.day(0, 6, 2));
    }

    private static void tapeAtMost() {
        due.sentence("THE TAPE (160 bytes at most)");
        OneGlove x = new OneGlove();
        for (int n = 1; n <= 160; n++) {
            due.is("byte " + n, n, x.feed(';'));
        }
        due.is("byte 161", -4, x.feed(';'));
        due.is("bytes", 160, x.count(3));
        String words = "shows 9; moves 0; minds 8;";
        stands(" ".repeat(160 - words.length()) + words);
        // The last ; would be byte 161.
        fault(" ".repeat(161 - words.length()) + words, 160);
    }

    private static void tokensAsLong() {
        due.sentence("TOKENS, each as long as can be");
        in("placefar", 0);
        in("not1");
        in("1and2or3");
        in("dayday", 0);
        in("1or2");
        in("1orside", 1);
        in("9day", 1);
        in("1234 5", 5);
        in("12345", 0);
        fault("showsside;", 0);
        fault("shows1;moves2;mindsday;", 14);
        stands("shows1;moves2;minds3;");
    }

    private static void words() {
        due.sentence("WORDS (a .. z)");
        // A byte that were no part of the WORD would leave a NAME ahead of it.
        for (char letter = 'a'; letter <= 'z'; letter++) {
            in("side" + letter, 0);
            in(letter + "side", 0);
        }
        in("side" + (char) ('a' - 1), 4);
        in("side" + (char) ('z' + 1), 4);
        in("sideA", 4);
        in("sideZ", 4);
        in("Side", 0);
        in("side_", 4);
        in("side0", 4);
    }

    private static void numbers() {
        due.sentence("NUMBERS (as many digits as stand there, 4 at most)");
        in("0");
        in("9");
        in("0000");
        in("9999");
        value("0099", 99);
        value("(9999 = 9998 + 1) * 7", 7);
        in("00000", 0);
        in("10000", 0);
        in("99999", 0);
        in("123456789012", 0);
        in("1 + 12345", 4);
        for (char digit = '0'; digit <= '9'; digit++) {
            in("1234" + digit, 0);
            value("3" + digit, 30 + digit - '0');
        }
        in("1/", 1);
        in("1:", 1);
        in("1.5", 1);
    }

    private static void signs() {
        due.sentence("SIGNS ( ) ; + - * < =");
        in("(1+2-3*4<5)=6");
        String[] none = {"'", ",", ".", "/", ":", ">", "!", "[", "]", "{", "&", "|", "%", "^", "~", "#"};
        for (String byteOfNone : none) {
            in("1" + byteOfNone + "2", 1);
        }
        in("1<=2", 2);
        in("1==2", 2);
        in("1++2", 2);
        in("1**2", 2);
        in("1--2");
    }

    private static void blanks() {
        due.sentence("blanks (32, 10) may stand between");
        stands("\n\n  shows\n1 ;moves  \n 2\n;  minds 3 ; \n ");
        stands("shows(1);moves-2;minds(3);");
        in(" ( 1 + 2 ) * \n 3 ");
        int[] none = {0, 9, 11, 12, 13, 31, 33, 127, 128, 160, 255};
        for (int letter : none) {
            in("1" + (char) letter, 1);
            in("1 " + (char) letter + " + 1", 2);
            fault((char) letter + "shows 1" + REST, 0);
        }
        // Inside of a TOKEN none may stand.
        fault("sho ws 1" + REST, 0);
        in("pla\nce", 0);
        in("1 2", 2);
        in("1\n2", 2);
        in("n ot 1", 0);
    }

    private static void parts() {
        due.sentence("TEXT: shows E ; moves E ; minds E ;");
        stands("shows 1 ; moves 2 ; minds 3 ;");
        fault("moves 1 ; shows 2 ; minds 3 ;", 0);
        fault("minds 1 ;", 0);
        fault("shows 1 ; minds 2 ; moves 3 ;", 10);
        fault("shows 1 ; shows 2 ; minds 3 ;", 10);
        fault("shows 1 ; moves 2 ; moves 3 ;", 20);
        fault("shows 1 ; moves 2 ; shows 3 ;", 20);
        fault("shows 1 moves 2 ; minds 3 ;", 8);
        fault("shows 1 ; moves 2 minds 3 ;", 18);
        fault("shows 1 ;; moves 2 ; minds 3 ;", 9);
        fault("shows ; moves 2 ; minds 3 ;", 6);
        fault("shows 1 ; moves ; minds 3 ;", 16);
        fault("shows 1 ; moves 2 ; minds ;", 26);
        fault("1 ; 2 ; 3 ;", 0);
        fault("; shows 1 ; moves 2 ; minds 3 ;", 0);
        fault("shows 1 ; moves 2 ; minds 3 ; ;", 30);
        fault("shows 1 ; moves 2 ; minds 3 ; shows 1 ;", 30);
        fault("shows 1 ; moves 2 ; minds 3 ; 1", 30);
    }

    private static void orAnd() {
        due.sentence("E: AND { or AND }. AND: NOT { and NOT }.");
        in("1" + " or 1".repeat(20));
        in("1" + " and 1".repeat(20));
        value("(1 or 1 and 0) * 5", 5);
        value("(0 and 1 or 1) * 5", 5);
        value("((1 or 1) and 0) * 5", 0);
        value("(not 0 or 1) * 5", 5);
        value("(not 1 and 0) * 5", 0);
        value("(0" + " or 0".repeat(9) + " or 7) * 5", 5);
        value("(3" + " and 2".repeat(9) + " and 0) * 5", 0);
        in("or 1", 0);
        in("and 1", 0);
        in("1 or", 4);
        in("1 and", 5);
        in("1 or or 2", 5);
        in("1 and and 2", 6);
        in("1 and or 2", 6);
        in("1 + 2 or + 3", 9);
        // One AND alone is not told as 1 or 0.
        value("(7)", 7);
        value("7 or 0", 1);
    }

    private static void nots() {
        due.sentence("NOT: not NOT, or SUM, perhaps < or = and a SUM.");
        value("not 0", 1);
        value("not not 7", 1);
        value("not 3 < 2", 1);
        value("not 2 = 2", 0);
        value("not 5 + 1", 0);
        in("1 < 2 < 3", 6);
        in("1 = 2 = 3", 6);
        in("1 < 2 = 3", 6);
        in("1 = 2 < 3", 6);
        in("(1 < 2) < 3");
        in("1 < (2 = 3)");
        in("1 < 2 and 3 < 4 or 5 = 6");
        in("1 < not 2", 4);
        in("1 + not 2", 4);
        in("1 * not 2", 4);
        in("- not 2", 2);
        in("(not 2)");
        in("not", 3);
        in("1 not 2", 2);
        in("< 2", 0);
        in("1 <", 3);
        in("1 =", 3);
        in("not < 2", 4);
    }

    private static void sums() {
        due.sentence("SUM: TERM { + or - TERM }. TERM: ONE { * ONE }. ONE: a NUMBER, a NAME, - ONE, ( E ).");
        in("1" + "+1".repeat(60));
        in("1" + "-1".repeat(60));
        in("1" + "*1".repeat(60));
        value("9 - 3 - 2", 4);
        value("9 - 3 + 2", 8);
        value("2 + 3 * 4", 14);
        value("2 * 3 + 4", 10);
        value("2 * - 3 + 7", 1);
        value("- 2 + 9", 7);
        value("- (2 - 9)", 7);
        value("20 - - - 4", 16);
        value("(4 or 0) + (3 < 4)", 2);
        in("1 -", 3);
        in("1 +", 3);
        in("1 *", 3);
        in("+ 1", 0);
        in("* 1", 0);
        in("1 + + 1", 4);
        in("1 * + 1", 4);
        in("()", 1);
        in("(1", 2);
        in("1)", 1);
        in("(1))", 3);
        in("((1)", 4);
        in("1 (2)", 2);
        in("(1) 2", 4);
        in("side side", 5);
    }

    private static void names() {
        due.sentence("NAMES are place height day number far side; shows, moves, minds, or, and, not are KEYS.");
        String[] names = {"place", "height", "day", "number", "far", "side"};
        String[] keys = {"shows", "moves", "minds", "or", "and"};
        for (String name : names) {
            in(name);
            in("(" + name + ")*-" + name + "<" + name);
            in(name.substring(0, name.length() - 1), 0);
            in(name.substring(1), 0);
            in(name + "s", 0);
            in(name.substring(0, name.length() - 1) + "q", 0);
            in("q" + name.substring(1), 0);
            fault(name + " 1" + REST, 0);
        }
        for (String key : keys) {
            in(key, 0);
            in("1 + " + key, 4);
        }
        in("1 + not", 4);
    }

    private static void wrapping() {
        due.sentence("An E is an int (32 bits, wrapping)");
        String most = "(1024*1024*2047 + 1024*1023 + 1023)";
        value("(" + most + " + 1 < 0) * 5", 5);
        value("(0 - " + most + " - 2 = " + most + ") * 5", 5);
        value("(0 < " + most + ") * 5", 5);
        value("(1024*1024*2048 < 0) * 5", 5);
        value("(-(1024*1024*2048) = 1024*1024*2048) * 5", 5);
        value("1024*1024*4096", 0);
        value("1024*1024*4096 + 9", 9);
        // 9999 * 9999 * 43 is 4299140043; 2 ^ 32 less than that is 4172747.
        value("(9999*9999*43 = 4172*1000 + 747) * 5", 5);
        value("not 1024*1024*4096", 1);
        value("1024*1024*4096 = 0", 1);
    }

    private static void trueOrNot() {
        due.sentence("of or, and, not, <, = 1 or 0 (what is not 0 is true)");
        String[] some = {"1", "2", "-1", "-2", "9999", "1024*1024*2048", "256"};
        for (String a : some) {
            value("not " + a, 0);
            value("(not " + a + ") + 4", 4);
            value(a + " or 0", 1);
            value("0 or " + a, 1);
            value(a + " and 0", 0);
            value("0 and " + a, 0);
            for (String b : some) {
                value("(" + a + " and " + b + ") * 9", 9);
                value("(" + a + " or " + b + ") * 9", 9);
            }
        }
        value("not 0", 1);
        value("(0 or 0) + 4", 4);
        value("(0 and 0) + 4", 4);
        value("(4 < 5) * 9", 9);
        value("(5 < 5) * 9 + 4", 4);
        value("(6 < 5) * 9 + 4", 4);
        value("(-6 < -5) * 9", 9);
        value("(5 = 5) * 9", 9);
        value("(5 = 4) * 9 + 4", 4);
        value("(5 = -5) * 9 + 4", 4);
    }

    private static void firstToken() {
        due.sentence("FAULT: the place of the first byte of the first TOKEN that can't stand there");
        // Of several that can't stand the first counts, of whichever sort it is.
        in("1 2 ? 12345 foo", 2);
        in("? 1 2", 0);
        in("1 + 12345 ?", 4);
        in("1 + foo 12345", 4);
        in("1 place ?", 2);
        fault("moves ?", 0);
        fault("shows 1; minds ?", 9);
        in("  )", 2);
        in("1 and place number", 12);
        in("number  numbers", 8);
        fault("shows 1;\n\n\nshows 2;", 11);
        fault("shows 1; moves 2; minds 3;\n foo", 28);
    }

    private static void tooEarly() {
        due.sentence("(the text's size, if it ends too early)");
        fault("", 0);
        fault(" ", 1);
        fault("\n \n", 3);
        String[] words = {"shows", "(", "1", ")", ";", "moves", "-", "2", ";", "minds", "not", "3", "<", "4"};
        StringBuilder text = new StringBuilder();
        for (String word : words) {
            text.append(word);
            fault(text.toString(), text.length());
            text.append(' ');
            fault(text.toString(), text.length());
        }
        stands(text + ";");
        fault("shows 1 +", 9);
        fault("shows 1 + \n ", 12);
        fault("shows " + "1+".repeat(77), 160);
        fault(" ".repeat(160), 160);
    }

    private static void bytesThatBeginNone() {
        due.sentence("also of a byte that begins none");
        String some = "abcdefghijklmnopqrstuvwxyz0123456789();+-*<= \n";
        for (int letter = 0; letter < 256; letter++) {
            if (some.indexOf(letter) < 0) {
                in("1 +" + (char) letter + " 1", 3);
                in("1" + (char) letter, 1);
                fault("shows 1; moves 2; minds 3; " + (char) letter, 27);
                fault(String.valueOf((char) letter), 0);
            }
        }
    }

    private static void wordsThatAreNeither() {
        due.sentence("a WORD that is neither KEY nor NAME");
        in("1 + colour", 4);
        in("colour", 0);
        in("1 nor 2", 2);
        in("1 ands 2", 2);
        in("an 1", 0);
        in("nott 1", 0);
        in("o", 0);
        fault("show 1" + REST, 0);
        fault("showss 1" + REST, 0);
        fault("shows 1; move 2; minds 3;", 9);
        fault("shows 1; moves 2; mind 3;", 18);
        fault("shows 1; moves 2; minds 3; end", 27);
    }

    private static void numbersTooLong() {
        due.sentence("a NUMBER that is too long");
        in("12345", 0);
        in("1 + 00001", 4);
        in("(11111)", 1);
        in("-12345", 1);
        in("1 12345", 2);
        fault("12345", 0);
        fault("shows 1; moves 2; minds 3; 12345", 27);
        in("1234 + 5678 * 9012");
        in("x" + "1".repeat(100), 0);
        in("1".repeat(100), 0);
    }

    private static void fiveOpen() {
        due.sentence("a ( , a not, a - ahead of a ONE while 5 of these are open");
        String[] opens = {"(", "not ", "-"};
        in("(((((1)))))");
        in("((((((1))))))", 5);
        in("not not not not not 1");
        in("not not not not not not 1", 20);
        in("-----1");
        in("------1", 5);
        // A sixth of any sort behind five of any sort; a not may stand behind nots and ( alone.
        for (String five : opens) {
            for (String sixth : opens) {
                boolean fits = !(five.equals("-") && sixth.equals("not "));
                String ahead = five.repeat(5);
                in(ahead + sixth + "1", ahead.length());
                String four = five.repeat(4) + (fits ? sixth : "-") + "1";
                in(four + ")".repeat((int) four.chars().filter(c -> c == '(').count()));
            }
        }
        in("not(-(-1))");
        in("not(-(-(1)))", 7);
        in("not(-(--1))", 7);
        in("(not(-(1)))");
        in("(not(-(not 1)))", 7);
        // The - of a SUM is none of these.
        in("(((((1-2-3)))))");
        in("-----1-2-3");
        in("(((((1--2)))))", 7);
        in("(((((1-(2))))))", 7);
        in("(((((1<-2)))))", 7);
        in("(((((1 and not 2)))))", 11);
        in("(((((-1)))))", 5);
        in("(((((not 1)))))", 5);
    }

    private static void openTill() {
        due.sentence("(a ( till its ) , not and - till what they belong to ends)");
        in("(((((1))))) + (((((2)))))");
        in("((((1)+(2))+(3))+(4))+(5)");
        in("((((((1)+(2))+(3))+(4))+(5)))", 5);
        in("(((((1)+2))))");
        in("((((1)))) + (((((1)))))");
        in("((((1)+((2)))))");
        in("((((1)+(((2))))))", 9);
        // A - ends with its ONE, so that the next ONE is outside of it.
        in("-----1 + -----2");
        in("-----1 * -----2");
        in("-----1 * (((((2)))))");
        in("----(1) * 2 + -----3");
        in("----(1 - 2)");
        in("----(1 - -2)", 9);
        // A not ends with its NOT: a SUM behind < or = belongs to it, what comes behind and, or doesn't.
        in("not not not not not 1 and not not not not not 2");
        in("not not not not not 1 or (((((2)))))");
        in("not not not not not 1 < 2");
        in("not not not not not 1 < -2", 24);
        in("not not not not not 1 = (2)", 24);
        in("not not not not not 1 + -2", 24);
        in("not not not not 1 < -2");
        in("not not not not 1 < --2", 21);
        in("not not not not 1 < -2 and -----3");
        in("not not not (not 1 and not 2)");
        in("not not not (not 1 and not not 2)", 27);
        in("not not not (not (1) and not 2)", 17);
    }

    private static void textsAtMost() {
        due.sentence("There are 6 TEXTS at most, TEXT 0 with them.");
        OneGlove x = new OneGlove();
        due.is("TEXTS", 1, x.count(2));
        for (int text = 1; text <= 5; text++) {
            due.is("text " + text, text, Told.text(x, "shows " + text + ";moves 0;minds 0;"));
            due.is("TEXTS", text + 1, x.count(2));
        }
        due.is("a seventh", -4, Told.text(x, "shows 6;moves 0;minds 0;"));
        due.is("TEXTS", 6, x.count(2));
        x.glove(0, 0, 0);
        for (int text = 1; text <= 5; text++) {
            x.force(text);
            due.is("LIKELY by text " + text, text, x.day(0, 0, 1));
        }
        due.is("force(6)", -2, x.force(6));
    }

    private static void namesOf() {
        due.sentence("Of a GLOVE on a DAY: place: the PLACE where it is; height: HEIGHT; day: the DAY; "
                + "number: NUMBER; far: how many PLACES off FROM it is; side: its SIDE.");
        String[] names = {"place", "height", "day", "number", "far", "side"};
        // On the last DAY of a LEATHER one that moves on by 1 from PLACE 0, FROM 5, TO 5, SIDE 1.
        int[] last = {14, 4, 29, 9, 9, 1};
        int[] first = {0, 4, 0, 9, 5, 1};
        for (int i = 0; i < names.length; i++) {
            OneGlove x = Told.under("shows 0; moves (day < 14) * 2; minds " + names[i] + ";");
            x.glove(5, 9, 0);
            x.set(5, 0, 4);
            x.set(6, 0, 1);
            x.set(0, 0, 5);
            x.set(1, 0, 3);
            due.is(names[i] + " on DAY 0", first[i], x.day(0, 0, 2));
            due.is(names[i] + " on DAY 29", last[i], x.day(0, 29, 2));
        }
        OneGlove x = Told.under("shows 0; moves 0; minds far;");
        x.glove(0, 0, 0);
        int[][] offs = {{0, 0, 0}, {19, 19, 0}, {0, 19, 19}, {19, 0, 19}, {7, 8, 1}, {8, 7, 1}};
        for (int[] off : offs) {
            x.set(0, 0, off[0]);
            x.set(4, 0, off[1]);
            due.is("far from " + off[0] + " to " + off[1], off[2], x.day(0, 0, 2));
        }
    }

    private static void showsBound() {
        due.sentence("shows: how likely it shows, of 100 (0 .. 100, else the bound).");
        String[] shows = {"0", "1", "-1", "-9999", "99", "100", "101", "9999", "1024*1024*2048"};
        int[] want = {0, 1, 0, 0, 99, 100, 100, 100, 0};
        for (int i = 0; i < shows.length; i++) {
            OneGlove x = Told.under("shows " + shows[i] + "; moves 0; minds 0;");
            x.glove(0, 0, 0);
            x.glove(2, 0, 0);
            due.is("LIKELY by shows " + shows[i], want[i], x.day(0, 0, 1));
            x.set(6, 0, 1);
            due.is("half of shows " + shows[i], want[i] / 2, x.day(0, 0, 1));
            due.is("20 more than shows " + shows[i], Math.min(100, want[i] + 20), x.day(1, 0, 1));
        }
    }

    private static void movesBound() {
        due.sentence("moves: how many PLACES it moves on behind that DAY, to the right "
                + "(-19 .. 19, else the bound).");
        String[] moves = {"0", "1", "18", "19", "20", "9999", "-1", "-18", "-19", "-20", "-9999"};
        int[] plain = {0, 1, 18, 19, 19, 19, 0, 0, 0, 0, 0};
        int[] leather = {0, 0, 9, 9, 9, 9, 0, 0, 0, 0, 0};
        int[] plainBack = {19, 19, 19, 19, 19, 19, 18, 1, 0, 0, 0};
        int[] leatherBack = {19, 19, 19, 19, 19, 19, 19, 10, 10, 10, 10};
        for (int i = 0; i < moves.length; i++) {
            OneGlove x = Told.under("shows 0; moves " + moves[i] + "; minds 0;");
            x.glove(0, 0, 0);
            x.glove(5, 0, 0);
            x.glove(0, 0, 19);
            x.glove(5, 0, 19);
            due.is("from 0 by moves " + moves[i], plain[i], x.day(0, 1, 0));
            due.is("half, from 0 by moves " + moves[i], leather[i], x.day(1, 1, 0));
            due.is("from 19 by moves " + moves[i], plainBack[i], x.day(2, 1, 0));
            due.is("half, from 19 by moves " + moves[i], leatherBack[i], x.day(3, 1, 0));
            due.is("on DAY 0 it has not moved", 19, x.day(3, 0, 0));
        }
    }

    private static void mindsBound() {
        due.sentence("minds: how bad it is to be without it that DAY (0 .. 99, else the bound).");
        String[] minds = {"0", "1", "-1", "-9999", "98", "99", "100", "9999", "1024*1024*2048"};
        int[] want = {0, 1, 0, 0, 98, 99, 99, 99, 0};
        for (int i = 0; i < minds.length; i++) {
            OneGlove x = Told.under("shows 0; moves 0; minds " + minds[i] + ";");
            x.glove(0, 0, 0);
            due.is("minds " + minds[i], want[i], x.day(0, 0, 2));
            due.is("WAITING by minds " + minds[i], want[i] * 1000000L, x.waiting(0, 1));
        }
    }

    private static void textZero() {
        due.sentence("TEXT 0, at first THE RULE, is: shows 10 + height * 10 ; moves 0 ; minds 1 ;");
        OneGlove x = new OneGlove();
        due.is("THE RULE at first", 0, x.count(4));
        x.glove(5, 0, 13);
        for (int round = 0; round < 2; round++) {
            for (int height = 0; height < 5; height++) {
                x.set(5, 0, height);
                due.is("LIKELY at " + height, 10 + height * 10, x.day(0, 29, 1));
            }
            due.is("WHERE", 13, x.day(0, 29, 0));
            due.is("minds", 1, x.day(0, 29, 2));
            Told.text(x, "shows 1; moves 1; minds 7;");
            x.force(1);
            due.is("minds of text 1", 7, x.day(0, 29, 2));
            x.force(0);
        }
    }

    private static void feeds() {
        due.sentence("A byte (0 .. 255) comes behind THE TAPE: how many it has. BAD; FULL.");
        OneGlove x = new OneGlove();
        int[] none = {-1, 256, LEAST, MOST};
        for (int letter : none) {
            due.is("feed(" + letter + ")", -2, x.feed(letter));
        }
        due.is("bytes", 0, x.count(3));
        due.is("feed(0)", 1, x.feed(0));
        due.is("feed(255)", 2, x.feed(255));
        for (int n = 3; n <= 160; n++) {
            due.is("feed, byte " + n, n, x.feed(n));
        }
        due.is("feed(1), FULL", -4, x.feed(1));
        for (int letter : none) {
            due.is("feed(" + letter + "), FULL", -2, x.feed(letter));
        }
        due.is("bytes", 160, x.count(3));
    }

    private static void tapeIsEmptyThen() {
        due.sentence("THE TAPE, which is empty then (by a FAULT, too), is a TEXT: its number");
        OneGlove x = new OneGlove();
        due.is("a TEXT", 1, Told.text(x, "shows 1; moves 2; minds 3;"));
        due.is("bytes", 0, x.count(3));
        due.is("once more, nothing fed", -100, x.text());
        due.is("a FAULT", -106, Told.text(x, "shows ?"));
        due.is("bytes", 0, x.count(3));
        due.is("TEXTS", 2, x.count(2));
        due.is("a full one", -260, Told.text(x, " ".repeat(160)));
        due.is("bytes", 0, x.count(3));
        due.is("feed", 1, x.feed(' '));
        due.is("a TEXT behind FAULTS", 2, Told.text(x, "shows 4; moves 0; minds 6;"));
        // A TEXT has nothing of what was fed before it, and a FAULT leaves nothing behind.
        x.glove(0, 0, 0);
        x.force(2);
        due.is("LIKELY", 4, x.day(0, 0, 1));
        due.is("minds", 6, x.day(0, 0, 2));
        x.force(1);
        due.is("LIKELY by text 1", 1, x.day(0, 0, 1));
        due.is("WHERE by text 1", 2, x.day(0, 1, 0));
        due.is("minds by text 1", 3, x.day(0, 0, 2));
    }

    private static void numberOrFault() {
        due.sentence("its number; -100 less the place of its FAULT");
        OneGlove x = new OneGlove();
        due.is("a FAULT on 0", -100, Told.text(x, "?"));
        due.is("a FAULT on 1", -101, Told.text(x, " ?"));
        due.is("a FAULT on 159", -259, Told.text(x, " ".repeat(159) + "?"));
        due.is("a FAULT on 160", -260, Told.text(x, " ".repeat(160)));
        due.is("TEXTS", 1, x.count(2));
        due.is("text 1", 1, Told.text(x, "shows 1;moves 1;minds 1;"));
        due.is("a FAULT behind it", -100, Told.text(x, ""));
        due.is("text 2", 2, Told.text(x, "shows 1;moves 1;minds 1;"));
    }

    private static void fullAheadOfAll() {
        due.sentence("FULL (ahead of all): no TEXT more has room (THE TAPE stays).");
        OneGlove x = new OneGlove();
        for (int text = 1; text < 6; text++) {
            Told.text(x, "shows 1;moves 1;minds " + text + ";");
        }
        due.is("text(), nothing fed", -4, x.text());
        due.is("text(), a FAULT", -4, Told.text(x, "foo"));
        due.is("bytes", 3, x.count(3));
        due.is("text(), once more", -4, x.text());
        due.is("feed", 4, x.feed(32));
        due.is("bytes", 4, x.count(3));
        due.is("TEXTS", 6, x.count(2));
        x.glove(0, 0, 0);
        x.force(5);
        due.is("the last TEXT is as it was", 5, x.day(0, 0, 2));
    }

    private static void forces() {
        due.sentence("A TEXT is THE RULE: which was. BAD.");
        OneGlove x = new OneGlove();
        int[] none = {-1, 1, 5, 6, LEAST, MOST};
        for (int text : none) {
            due.is("force(" + text + ")", -2, x.force(text));
        }
        due.is("THE RULE", 0, x.count(4));
        due.is("force(0)", 0, x.force(0));
        for (int text = 1; text < 6; text++) {
            Told.text(x, "shows 0;moves 0;minds " + text + ";");
            due.is("force(" + (text + 1) + ")", -2, x.force(text + 1));
        }
        x.glove(0, 0, 0);
        due.is("force(5)", 0, x.force(5));
        due.is("THE RULE", 5, x.count(4));
        due.is("minds", 5, x.day(0, 0, 2));
        due.is("force(5), the same", 5, x.force(5));
        due.is("force(6)", -2, x.force(6));
        due.is("force(-1)", -2, x.force(-1));
        due.is("force(1)", 5, x.force(1));
        due.is("minds", 1, x.day(0, 0, 2));
        due.is("force(0)", 1, x.force(0));
        due.is("minds", 1, x.day(0, 0, 2));
    }
}

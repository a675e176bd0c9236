import java.util.List;

/** Section 1 and promises 2 to 4: each bound of the text, and each FAULT at the first letter that has it. */
public final class TextEdgesTest {
    private static final int NONE = ParrotTontine.NONE;
    private static final int FULL = ParrotTontine.FULL;
    private static final int NOT = ParrotTontine.NOT;
    private static final int LONGEST = 220;
    private static final String POT = "p0 0 0 0;";
    private static final String FIVE_LIVES = "l0 0;l1 0;l2 0;l3 0;l4 0;";
    private static final String FIVE_SUBSCRIBERS = "s0 0 4;s0 0 3;s0 0 2;s0 0 1;s0 0 0;";
    private static final Check CHECK = new Check("TextEdgesTest");

    private TextEdgesTest() {
    }

    public static void main(String[] args) {
        fewestAndMostLetters();
        potNumbers();
        lifeNumbers();
        subscriberNumbers();
        mostLives();
        mostSubscribers();
        potFirstAndOnce();
        figures();
        blanks();
        whatIsNoBlank();
        anyOtherLetter();
        endAnywhere();
        livesToldAhead();
        livesThatAreHeld();
        firstOfSeveral();
        leastOfSeveral();
        emptyText();
        faultIsOfTheLatest();
        faultLeavesAllElse();
        newTontineClears();
        CHECK.close();
    }

    private static ParrotTontine fed(String text) {
        ParrotTontine x = new ParrotTontine();
        Check.feedAll(x, text);
        return x;
    }

    private static void fault(String text, int kind, int place) {
        ParrotTontine x = fed(text);
        CHECK.due("tontine of '" + text + "'", x.tontine(), -10 - kind);
        CHECK.due("fault of '" + text + "'", x.fault(), place);
        CHECK.due("no pot by '" + text + "'", x.year(1), NOT);
    }

    private static ParrotTontine good(String text, int lives) {
        ParrotTontine x = fed(text);
        CHECK.due("tontine of '" + text + "'", x.tontine(), lives);
        CHECK.due("fault of '" + text + "'", x.fault(), NONE);
        return x;
    }

    /** The NUMBER stands between ahead and behind: least and greatest are taken, the next one is FAULT 2 at its first. */
    private static void number(String ahead, int greatest, String behind, int lives) {
        good(ahead + "0" + behind, lives);
        good(ahead + "000" + behind, lives);
        good(ahead + greatest + behind, lives);
        fault(ahead + (greatest + 1) + behind, 2, ahead.length());
        fault(ahead + "0000" + behind, 2, ahead.length());
        fault(ahead + "999999999999" + behind, 2, ahead.length());
        // a NUMBER that is missing shows at the end of its clause: what follows it is taken for it
        fault(ahead + behind, 1, (ahead + behind).indexOf(';', ahead.length()));
        fault(ahead + "-1" + behind, 1, ahead.length());
    }

    // "told in a text (220 letters at most)", "FULL (220)"
    private static void fewestAndMostLetters() {
        String most = "p999 10 99 99;" + "l100 50;".repeat(5) + "s999 50 0;s999 50 1;s999 50 2;s999 50 3;s999 50 4;";
        String padded = most + " ".repeat(LONGEST - most.length());
        ParrotTontine x = fed(padded.substring(0, LONGEST - 1));
        CHECK.due("219 letters", x.told(6), LONGEST - 1);
        CHECK.due("the 220th is taken", x.feed(' '), LONGEST);
        CHECK.due("the 221st is not", x.feed(' '), FULL);
        CHECK.due("220 letters are read", x.tontine(), 5);
        CHECK.due("they have no fault", x.fault(), NONE);
        CHECK.due("all subscribers", x.told(11), 5 * 999);
        String late = " ".repeat(LONGEST - most.length()) + most;
        CHECK.due("the last letter counts", good(late, 5).told(5), 5);
        String cut = " ".repeat(LONGEST - most.length() + 1) + most;
        fault(cut, 1, LONGEST);
        good("p0 0 0 0;", 0);
        CHECK.due("one letter", new ParrotTontine().feed('p'), 1);
    }

    // "POT V a year, 0 .. 999; TERMS K 0 .. 10; a GUARD costs G, HARM costs H, 0 .. 99"
    private static void potNumbers() {
        number("p", 999, " 0 0 0;", 0);
        number("p0 ", 10, " 0 0;", 0);
        number("p0 0 ", 99, " 0;", 0);
        number("p0 0 0 ", 99, ";", 0);
        int[] most = {999, 10, 99, 98};
        ParrotTontine x = good("p999 10 99 98;", 0);
        for (int what = 0; what < most.length; what++) {
            CHECK.due("told(" + what + ")", x.told(what), most[what]);
        }
    }

    // "dies by Q of a hundred a year, 0 .. 100; is at X 0 .. 50"
    private static void lifeNumbers() {
        number(POT + "l", 100, " 0;", 1);
        number(POT + "l0 ", 50, ";", 1);
        ParrotTontine x = good(POT + "l100 50;l0 0;", 2);
        CHECK.due("Q 100", x.life(0, 0), 100);
        CHECK.due("X 50", x.life(0, 1), 50);
        CHECK.due("Q 0", x.life(1, 0), 0);
        CHECK.due("X 0", x.life(1, 1), 0);
    }

    // "PURSE M 0 .. 999; is at X 0 .. 50; holds LIFE L"
    private static void subscriberNumbers() {
        String lives = POT + FIVE_LIVES;
        number(lives + "s", 999, " 0 0;", 5);
        number(lives + "s0 ", 50, " 0;", 5);
        number(lives + "s0 0 ", 4, ";", 5);
        ParrotTontine x = good(lives + "s999 50 4;s0 0 0;", 5);
        CHECK.due("M 999", x.subscriber(0, 0), 999);
        CHECK.due("X 50", x.subscriber(0, 1), 50);
        CHECK.due("L 4", x.subscriber(0, 2), 16);
        CHECK.due("L 0", x.subscriber(1, 2), 1);
    }

    // "5 LIVES at most", "3 .. a sixth 'l' .. (at it)"
    private static void mostLives() {
        String five = POT + FIVE_LIVES;
        CHECK.due("five", good(five, 5).told(4), 5);
        fault(five + "l", 3, five.length());
        fault(five + "l0 0;", 3, five.length());
        fault(five + "  l9999", 3, five.length() + 2);
        fault(five + "s0 0 0;l0 0;", 3, five.length() + 7);
    }

    // "5 SUBSCRIBERS at most", "3 .. 's' (at it)"
    private static void mostSubscribers() {
        String all = POT + FIVE_LIVES + FIVE_SUBSCRIBERS;
        CHECK.due("five", good(all, 5).told(5), 5);
        fault(all + "s", 3, all.length());
        fault(all + "s0 0 0;", 3, all.length());
        fault(all + " s0 51 9;", 3, all.length() + 1);
        fault(all + "l0 0;", 3, all.length());
    }

    // "(.. first, once)", "another word first than 'p'", "3 'p' again (at it)"
    private static void potFirstAndOnce() {
        fault("l0 0;" + POT, 1, 0);
        fault("s0 0 0;" + POT, 1, 0);
        fault("  l0 0;", 1, 2);
        fault("0" + POT, 1, 0);
        fault(";" + POT, 1, 0);
        fault(POT + "p", 3, 9);
        fault(POT + POT, 3, 9);
        fault(POT + "l0 0; p1 1 1 1;", 3, 15);
        fault(POT + "q", 1, 9);
        fault(POT + "P", 1, 9);
        fault(POT + "L0 0;", 1, 9);
        fault(POT + "l0 0;S0 0 0;", 1, 14);
        fault(POT + ";", 1, 9);
        fault(POT + "0", 1, 9);
    }

    // "NUMBERS have one to three figures", "2 a NUMBER of four figures or more"
    private static void figures() {
        CHECK.due("one figure", good("p7 0 0 0;", 0).told(0), 7);
        CHECK.due("two figures", good("p07 0 0 0;", 0).told(0), 7);
        CHECK.due("three figures", good("p007 0 0 0;", 0).told(0), 7);
        CHECK.due("a 0 behind", good("p700 0 0 0;", 0).told(0), 700);
        fault("p0007 0 0 0;", 2, 1);
        fault("p 0007 0 0 0;", 2, 2);
        fault("p" + "0".repeat(LONGEST - 1), 2, 1);
        fault("p0 0 0 0000;", 2, 7);
        fault("p4294967296 0 0 0;", 2, 1);
        fault("p18446744073709551616 0 0 0;", 2, 1);
    }

    // "blanks (32) may stand anywhere but within NUMBERS; two NUMBERS side by side need one"
    private static void blanks() {
        String text = "p12 3 45 67;l89 10;s98 7 0;";
        for (int at = 0; at <= text.length(); at++) {
            String more = text.substring(0, at) + "   " + text.substring(at);
            boolean within = at > 0 && at < text.length()
                    && Character.isDigit(text.charAt(at - 1)) && Character.isDigit(text.charAt(at));
            if (!within) {
                ParrotTontine x = good(more, 1);
                CHECK.due("G", x.told(2), 45);
                CHECK.due("Q", x.life(0, 0), 89);
                CHECK.due("M", x.subscriber(0, 0), 98);
            }
        }
        fault("p1 2 3 45 67;l89 10;", 1, 10);
        fault("p12 3 4 5 67;", 1, 10);
        fault(POT + "l8 9 10;", 1, 14);
        fault("p1 1 11;", 1, 7);
        fault("p1111;", 2, 1);
        fault(POT + "l00;", 1, 12);
        fault(POT + "l0 0;s000;", 1, 18);
    }

    // a blank is 32 alone
    private static void whatIsNoBlank() {
        for (int letter : new int[] {0, 9, 10, 11, 12, 13, 31, 33, 127, 160, 255}) {
            String sign = String.valueOf((char) letter);
            fault(sign + POT, 1, 0);
            fault("p" + sign + "0 0 0 0;", 1, 1);
            fault("p0" + sign + "0 0 0;", 1, 2);
            fault("p0 0 0 0" + sign + ";", 1, 8);
            fault(POT + sign, 1, 9);
            fault(sign, 1, 0);
        }
    }

    // "1 it cannot stand there (a letter that is no word ..)": no letter but the due ones at any place
    private static void anyOtherLetter() {
        for (int letter = 0; letter <= 255; letter++) {
            boolean figure = letter >= '0' && letter <= '9';
            String sign = String.valueOf((char) letter);
            if (letter != ' ' && letter != 'p') {
                fault(sign, 1, 0);
            }
            if (letter != ' ' && !figure) {
                fault("p" + sign, 1, 1);
                fault("p0 0" + sign, 1, 4);
            }
            if (letter != ' ' && letter != ';' && !figure) {
                fault("p0 0 0 0" + sign, 1, 8);
            }
            if (letter != ' ' && letter != ';') {
                fault("p0 0 0 0 " + sign, 1, 9);
            }
            if (letter != ' ' && letter != 'l' && letter != 's' && letter != 'p') {
                fault(POT + sign, 1, 9);
            }
        }
    }

    // "(the end at the text's length)"
    private static void endAnywhere() {
        String text = "p12 3 45 67;l89 10;l0 0;s98 7 1;";
        for (int length = 1; length <= text.length(); length++) {
            String part = text.substring(0, length);
            if (part.endsWith(";")) {
                good(part, (int) part.chars().filter(c -> c == 'l').count());
            } else {
                fault(part, 1, length);
                fault(part + "  ", 1, length + 2);
                fault(part + " ".repeat(LONGEST - length), 1, LONGEST);
            }
        }
    }

    // "holds LIFE L told ahead": "2 .. a LIFE that was not told yet (at its first)"
    private static void livesToldAhead() {
        fault(POT + "s0 0 0;", 2, 14);
        fault(POT + "s0 0 0;l0 0;", 2, 14);
        fault(POT + "l0 0;s0 0 1;l0 0;", 2, 19);
        fault(POT + "l0 0;s0 0  1", 2, 20);
        fault(POT + FIVE_LIVES + "s0 0 5;", 2, 39);
        fault(POT + FIVE_LIVES + "s0 0 999;", 2, 39);
        CHECK.due("the last that was told", good(POT + "l0 0;l0 0;s0 0 1;l0 0;", 3).life(1, 3), 0);
    }

    // "that nobody holds yet": "4 a LIFE that is held (at the L)"
    private static void livesThatAreHeld() {
        fault(POT + "l0 0;s0 0 0;s0 0 0;", 4, 26);
        fault(POT + "l0 0;s0 0 0;s0 0 00", 4, 26);
        fault(POT + "l0 0;l0 0;s0 0 1;s0 0 0;s0 0  1;", 4, 39);
        good(POT + "l0 0;l0 0;s0 0 1;s0 0 0;", 2);
    }

    // "at the first letter that has one": what is wrong behind it does not count
    private static void firstOfSeveral() {
        fault("p1000 99 999 999x", 2, 1);
        fault("p0 11 100 q", 2, 3);
        fault("p0 x 1000 0;", 1, 3);
        fault(POT + "p1000 0 0 0;", 3, 9);
        fault(POT + "l101 51;p", 2, 10);
        fault(POT + "l0 51x", 2, 12);
        fault(POT + "l0 0;s0 0 0;s0 0 0x", 4, 26);
        fault(POT + "l0 0;s0 0 0;s0 51 0;", 2, 24);
        fault(POT + "l0 0;s0 0 0;s1000 0 0;", 2, 22);
        fault(POT + "l0 0;s0 0 1;q", 2, 19);
        fault(POT + FIVE_LIVES + "l101 0;q", 3, 34);
        fault("x1000", 1, 0);
    }

    // "of these the least": one letter may have two
    private static void leastOfSeveral() {
        // a NUMBER of four figures, or a 'p', where no NUMBER and no word can stand
        fault("p0 0 0 0 1000;", 1, 9);
        fault("1000", 1, 0);
        fault("p0 0 0 p;", 1, 7);
        fault(POT + "p0 0 0 p;", 3, 9);
        fault(POT + FIVE_LIVES + "s0 l", 1, 37);
        fault(POT + FIVE_LIVES + FIVE_SUBSCRIBERS.substring(0, 31) + "s", 1, 65);
        // a LIFE that is held, told by four figures
        fault(POT + "l0 0;s0 0 0;s0 0 0000;", 2, 26);
    }

    // "An empty text (or one of blanks alone) has no FAULT: no POT."
    private static void emptyText() {
        for (int blanks : new int[] {0, 1, LONGEST}) {
            ParrotTontine x = Check.made("p9 1 2 3;l0 0;s9 0 0;");
            Check.feedAll(x, "q");
            x.tontine();
            Check.feedAll(x, " ".repeat(blanks));
            CHECK.due(blanks + " blanks", x.tontine(), 0);
            CHECK.due(blanks + " blanks: no fault", x.fault(), NONE);
            CHECK.due(blanks + " blanks: no pot", x.year(1), NOT);
            CHECK.due(blanks + " blanks: no pot", x.drift(1), NOT);
            for (int what = 0; what <= 13; what++) {
                CHECK.due(blanks + " blanks: told(" + what + ")", x.told(what), 0);
            }
        }
        CHECK.due("a pot of 0 is a pot", Check.made(POT).year(1), 0);
    }

    // "the FAULT of the latest tontine(); NONE"
    private static void faultIsOfTheLatest() {
        ParrotTontine x = new ParrotTontine();
        CHECK.due("none yet", x.fault(), NONE);
        Check.feedAll(x, "p0 x");
        CHECK.due("not read yet", x.fault(), NONE);
        x.tontine();
        CHECK.due("read", x.fault(), 3);
        Check.feedAll(x, "q");
        CHECK.due("the next was not read yet", x.fault(), 3);
        x.tontine();
        CHECK.due("the next", x.fault(), 0);
        Check.feedAll(x, POT);
        x.tontine();
        CHECK.due("the next has none", x.fault(), NONE);
        x.feed(' ');
        x.feed('s');
        x.tontine();
        x.tontine();
        CHECK.due("the empty one has none", x.fault(), NONE);
    }

    // "it is empty then, with a FAULT, too", "(all else is as it was)"
    private static void faultLeavesAllElse() {
        for (String text : new String[] {"q", "p1000", POT + POT, "p1 1 1 1;l7 8;s9 9 0;s9 9 0;", "p9 9 9 9;l1 1"}) {
            ParrotTontine x = busy();
            Check.feedAll(x, text);
            CHECK.due("'" + text + "' has a fault", x.tontine() < -10 ? 1 : 0, 1);
            CHECK.due("the text is empty", x.told(6), 0);
            ParrotTontine twin = busy();
            twin.feed('q');
            twin.tontine();
            // the two differ by the place of their FAULT alone
            Check.feedAll(x, "q");
            Check.feedAll(twin, "q");
            x.tontine();
            twin.tontine();
            CHECK.due("'" + text + "' left all else", Sight.through(x).equals(Sight.through(twin)) ? 1 : 0, 1);
        }
        ParrotTontine x = busy();
        List<Integer> ahead = Sight.of(x);
        x.feed('q');
        x.tontine();
        List<Integer> behind = Sight.of(x);
        // the FAULT's place is the last but one that is seen
        CHECK.due("the place", behind.set(behind.size() - 2, NONE), 0);
        CHECK.due("all else is as by no call", ahead.equals(behind) ? 1 : 0, 1);
    }

    private static ParrotTontine busy() {
        ParrotTontine x = Check.made("p90 3 1 2;l50 1;l7 2;l0 3;s40 4 2;s30 5 0;");
        x.seed(1234);
        x.drift(1);
        x.keep(1);
        x.write(1, 44);
        x.year(1);
        x.guard(0, 2);
        x.harm(1, 2);
        x.sell(2, 1, 3);
        x.died(2);
        return x;
    }

    // "(YEAR 0, all alive, no GUARDS, HARM; no BOOK; IMAGES, what could be undone are gone; THE SEED stays)"
    private static void newTontineClears() {
        ParrotTontine x = busy();
        int seed = x.seed(0);
        x.seed(seed);
        Check.feedAll(x, "p90 3 1 2;l50 1;l7 2;l0 3;s40 4 2;s30 5 0;");
        CHECK.due("three lives", x.tontine(), 3);
        int[] want = {90, 3, 1, 2, 3, 2, 0, 0, 7, 0, 0, 70, 0, 0};
        for (int what = 0; what < want.length; what++) {
            CHECK.due("anew told(" + what + ")", x.told(what), want[what]);
        }
        CHECK.due("sold ahead, held as told", x.life(2, 3), 0);
        CHECK.due("nobody's", x.life(1, 3), NONE);
        CHECK.due("image 0 is gone", x.goBack(0), NOT);
        CHECK.due("image 1 is gone", x.goBack(1), NOT);
        CHECK.due("nothing to undo", x.undo(), NOT);
        CHECK.due("no book", x.judge(), NONE);
        CHECK.due("the seed stays", x.seed(0), seed);
        CHECK.due("it was drawn", seed != 1234 ? 1 : 0, 1);
    }
}

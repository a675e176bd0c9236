/** Each promise by itself, with answers reckoned by hand: ordinary inputs, edges, wrong inputs. */
public final class PromisesTest {
    private static final int NONE = ParrotTontine.NONE;
    private static final int UNKNOWN = ParrotTontine.UNKNOWN;
    private static final int OUTSIDE = ParrotTontine.OUTSIDE;
    private static final int NOT = ParrotTontine.NOT;
    private static final int FULL = ParrotTontine.FULL;
    private static final int LEAST = Integer.MIN_VALUE;
    private static final int MOST = Integer.MAX_VALUE;

    /** Two who share 10 a year; either life dies by one half. */
    private static final String PAIR = "p10 0 3 4;l50 1;l50 2;s20 0 0;s7 50 1;";
    /** Four lives, the third held by nobody. */
    private static final String FOUR = "p100 2 5 8;l10 3;l50 20;l20 4;l0 40;s30 5 0;s60 18 1;s9 0 3;";

    private static final Check CHECK = new Check("PromisesTest");

    private PromisesTest() {
    }

    public static void main(String[] args) {
        newObject();
        feed();
        tontine();
        faults();
        told();
        life();
        subscriber();
        year();
        died();
        guard();
        harm();
        sell();
        drift();
        undo();
        undoKeepsTwenty();
        worth();
        gain();
        gainers();
        terms();
        who();
        nurse();
        game();
        fair();
        outlives();
        book();
        seed();
        images();
        CHECK.close();
    }

    private static void due(String call, long got, long want) {
        CHECK.due(call, got, want);
    }

    private static ParrotTontine made(String text) {
        return Check.made(text);
    }

    // Promise 1
    private static void newObject() {
        ParrotTontine x = new ParrotTontine();
        for (int what = 0; what <= 13; what++) {
            due("1 new told(" + what + ")", x.told(what), 0);
        }
        due("1 new fault", x.fault(), NONE);
        due("1 new year", x.year(1), NOT);
        due("1 new drift", x.drift(1), NOT);
        due("1 new undo", x.undo(), NOT);
        due("1 new life", x.life(0, 0), UNKNOWN);
        due("1 new subscriber", x.subscriber(0, 0), UNKNOWN);
        due("1 new seed", x.seed(5), 0);
        due("1 new goBack", x.goBack(0), NOT);
        due("1 new judge", x.judge(), NONE);
        due("1 new gainers", x.gainers(1), 0);
        due("1 new terms", x.terms(1), 0);
    }

    // Promise 2
    private static void feed() {
        ParrotTontine x = new ParrotTontine();
        due("2 feed(-1)", x.feed(-1), OUTSIDE);
        due("2 feed(256)", x.feed(256), OUTSIDE);
        due("2 feed(least)", x.feed(LEAST), OUTSIDE);
        due("2 feed(0)", x.feed(0), 1);
        due("2 feed(255)", x.feed(255), 2);
        for (int i = 3; i <= 220; i++) {
            due("2 feed(32)", x.feed(32), i);
        }
        due("2 feed when full", x.feed(32), FULL);
        due("2 feed outside when full", x.feed(256), OUTSIDE);
        due("2 letters", x.told(6), 220);
        due("2 tontine", x.tontine(), -11);
        due("2 feed anew", x.feed('p'), 1);
    }

    // Promise 3
    private static void tontine() {
        ParrotTontine x = made(FOUR);
        due("3 lives", x.told(4), 4);
        due("3 the text is empty", x.told(6), 0);
        x.year(2);
        x.guard(0, 0);
        x.harm(0, 1);
        x.died(2);
        x.write(0, 5);
        x.keep(0);
        x.died(3);
        x.seed(99);
        Check.feedAll(x, "p1 1 1 1;q");
        due("3 faulty", x.tontine(), -11);
        due("3 faulty text is gone", x.told(6), 0);
        due("3 pot as it was", x.told(0), 100);
        due("3 years as they were", x.told(7), 2);
        due("3 alive as they were", x.told(8), 3);
        due("3 book as it was", x.told(12), 1);
        due("3 undone as it was", x.told(13), 1);
        Check.feedAll(x, PAIR);
        due("3 anew", x.tontine(), 2);
        due("3 year 0", x.told(7), 0);
        due("3 all alive", x.told(8), 3);
        due("3 no guards", x.told(9), 0);
        due("3 no harm", x.told(10), 0);
        due("3 purses", x.told(11), 27);
        due("3 no book", x.told(12), 0);
        due("3 nothing to undo", x.undo(), NOT);
        due("3 no images", x.goBack(0), NOT);
        due("3 seed stays", x.seed(0), 99);
        due("3 empty text", x.tontine(), 0);
        due("3 no pot", x.year(1), NOT);
        due("3 no life", x.life(0, 0), UNKNOWN);
        for (int what = 0; what <= 13; what++) {
            due("3 nothing is left: told(" + what + ")", x.told(what), 0);
        }
        Check.feedAll(x, "   ");
        due("3 blanks alone", x.tontine(), 0);
        due("3 blanks: no pot", x.drift(1), NOT);
        Check.feedAll(x, "p0 0 0 0;");
        due("3 a pot of 0", x.tontine(), 0);
        due("3 a pot of 0 has years", x.year(1), 0);
    }

    private static void fault(String text, int kind, int place) {
        ParrotTontine x = new ParrotTontine();
        Check.feedAll(x, text);
        due("3 tontine of '" + text + "'", x.tontine(), -10 - kind);
        due("4 fault of '" + text + "'", x.fault(), place);
    }

    private static void good(String text, int lives) {
        ParrotTontine x = new ParrotTontine();
        Check.feedAll(x, "x");
        x.tontine();
        Check.feedAll(x, text);
        due("3 tontine of '" + text + "'", x.tontine(), lives);
        due("4 fault of '" + text + "'", x.fault(), NONE);
    }

    // Promises 3, 4
    private static void faults() {
        good("p999 10 99 99;", 0);
        good("  p 999  010 099 99 ;  ", 0);
        good("p0 0 0 0;l100 50;l0 0;s999 50 000;s0 0 1;", 2);
        fault("p0 0 0 0;s", 1, 10);
        fault("l0 0;", 1, 0);
        fault("s0 0 0;", 1, 0);
        fault(" q", 1, 1);
        fault("7", 1, 0);
        fault(";", 1, 0);
        fault("P0 0 0 0;", 1, 0);
        fault("p", 1, 1);
        fault("p  ", 1, 3);
        fault("p10", 1, 3);
        fault("p10 1 1 1", 1, 9);
        fault("p10 1 1 1  ", 1, 11);
        fault("p10 1 1;", 1, 7);
        fault("p10 1 1 1 1;", 1, 10);
        fault("p10,1 1 1;", 1, 3);
        fault("p10-1 1 1;", 1, 3);
        fault("p\t10 1 1 1;", 1, 1);
        fault("p10 1 1 1;;", 1, 10);
        fault("p10 1 1 1;p", 3, 10);
        fault("p10 1 1 1;l1 p", 1, 13);
        fault("p1000 0 0 0;", 2, 1);
        fault("p0000 0 0 0;", 2, 1);
        fault("p99999999999 0 0 0;", 2, 1);
        fault("p 1000", 2, 2);
        fault("p0 11 0 0;", 2, 3);
        fault("p0 0 100 0;", 2, 5);
        fault("p0 0 0 100;", 2, 7);
        fault("p0 0 0 0;l101 0;", 2, 10);
        fault("p0 0 0 0;l0 51;", 2, 12);
        fault("p0 0 0 0;l0 0;s1000 0 0;", 2, 15);
        fault("p0 0 0 0;l0 0;s0 51 0;", 2, 17);
        fault("p0 0 0 0;l0 0;s0 0 1;", 2, 19);
        fault("p0 0 0 0;s0 0 0;l0 0;", 2, 14);
        fault("p0 0 0 0;l0 0;s0 0 0;s0 0 0;", 4, 26);
        fault("p0 0 0 0;l0 0;s0 0 0;s0 0  000", 4, 27);
        fault("p0 0 0 0;l0 0;s0 0 0;s0 0 0000", 2, 26);
        String five = "p0 0 0 0;l0 0;l0 0;l0 0;l0 0;l0 0;";
        good(five, 5);
        fault(five + "l", 3, 34);
        fault(five + " l0 0;", 3, 35);
        fault(five + "x", 1, 34);
        String fiveMore = five + "s0 0 0;s0 0 1;s0 0 2;s0 0 3;s0 0 4;";
        good(fiveMore, 5);
        fault(fiveMore + "s0 0 9;", 3, 69);
        ParrotTontine x = new ParrotTontine();
        for (int i = 0; i < 220; i++) {
            x.feed('p');
        }
        due("3 a full text", x.tontine(), -11);
        due("4 a full text", x.fault(), 1);
        Check.feedAll(x, "p" + " ".repeat(219));
        due("3 a full text of blanks", x.tontine(), -11);
        due("4 at the end of a full text", x.fault(), 220);
    }

    // Promise 5
    private static void told() {
        ParrotTontine x = made(FOUR);
        x.feed('p');
        x.year(3);
        x.guard(0, 0);
        x.guard(0, 3);
        x.harm(1, 2);
        x.died(1);
        x.write(0, 0);
        int[] want = {100, 2, 5, 8, 4, 3, 1, 3, 13, 9, 4, 30 + 60 + 9 + 9 * 32 - 18, 1, 5};
        for (int what = 0; what < want.length; what++) {
            due("5 told(" + what + ")", x.told(what), want[what]);
        }
        due("5 told(-1)", x.told(-1), OUTSIDE);
        due("5 told(14)", x.told(14), OUTSIDE);
        due("5 told(least)", x.told(LEAST), OUTSIDE);
        due("5 told(most)", x.told(MOST), OUTSIDE);
    }

    // Promise 6
    private static void life() {
        ParrotTontine x = made("p10 0 0 0;l51 3;l50 20;s9 0 1;s9 0 0;");
        due("6 Q", x.life(0, 0), 51);
        due("6 X", x.life(1, 1), 20);
        due("6 alive", x.life(0, 2), 1);
        due("6 holder", x.life(0, 3), 1);
        due("6 chance", x.life(0, 4), 51);
        x.harm(0, 0);
        due("6 harmed: 100 at most", x.life(0, 4), 100);
        x.guard(0, 0);
        due("6 both", x.life(0, 4), 51);
        x.guard(0, 1);
        due("6 guarded", x.life(1, 4), 25);
        x.year(1);
        due("6 behind the year", x.life(1, 4), 50);
        x.guard(0, 0);
        due("6 guarded, cut", x.life(0, 4), 25);
        x.died(0);
        due("6 dead", x.life(0, 2), 0);
        due("6 dead: chance", x.life(0, 4), 0);
        due("6 dead: still held", x.life(0, 3), 1);
        due("6 nobody", made(FOUR).life(2, 3), NONE);
        due("6 unknown", x.life(2, 0), UNKNOWN);
        due("6 unknown", x.life(-1, 0), UNKNOWN);
        due("6 unknown first", x.life(MOST, 9), UNKNOWN);
        due("6 outside", x.life(0, 5), OUTSIDE);
        due("6 outside", x.life(0, -1), OUTSIDE);
    }

    // Promise 7
    private static void subscriber() {
        ParrotTontine x = made(FOUR);
        due("7 purse", x.subscriber(1, 0), 60);
        due("7 X", x.subscriber(1, 1), 18);
        due("7 lives", x.subscriber(2, 2), 8);
        due("7 pay: 20/3 and 80/3", x.subscriber(0, 3), 32);
        x.sell(2, 0, 0);
        due("7 lives", x.subscriber(0, 2), 5);
        due("7 pay: 20/3 and twice 80/4", x.subscriber(0, 3), 46);
        x.died(0);
        due("7 a dead one is held", x.subscriber(0, 2), 5);
        due("7 pay: 20/3 and 80/3", x.subscriber(0, 3), 32);
        x.died(1);
        due("7 pay of one whose life is dead", x.subscriber(1, 3), 6);
        x.died(2);
        x.died(3);
        due("7 pay: nobody is alive", x.subscriber(0, 3), 6);
        ParrotTontine y = made("p11 5 0 0;l0 0;l0 0;l0 0;s0 0 0;s0 0 1;");
        due("7 fixed is cut: 5/2 and 6/2", y.subscriber(0, 3), 5);
        y.sell(2, 0, 0);
        due("7 5/2 and twice 6/3", y.subscriber(0, 3), 6);
        due("7 unknown", y.subscriber(2, 0), UNKNOWN);
        due("7 unknown first", y.subscriber(-1, 9), UNKNOWN);
        due("7 outside", y.subscriber(0, 4), OUTSIDE);
        due("7 outside", y.subscriber(0, -1), OUTSIDE);
    }

    // Promise 8
    private static void year() {
        ParrotTontine x = made(FOUR);
        x.guard(1, 0);
        x.harm(1, 1);
        x.died(0);
        due("8 dead ones stay guarded", x.told(9), 1);
        due("8 year(1): 47 + 30 + 9 and 6 + 46 + 46", x.year(1), 86 + 98);
        due("8 no guards", x.told(9), 0);
        due("8 no harm", x.told(10), 0);
        due("8 one year", x.told(7), 1);
        due("8 year(30)", x.year(30), 86 + 31 * 98);
        due("8 years", x.told(7), 31);
        due("8 nobody dies", x.told(8), 14);
        due("8 year(0)", x.year(0), OUTSIDE);
        due("8 year(31)", x.year(31), OUTSIDE);
        due("8 year(-1)", x.year(-1), OUTSIDE);
        due("8 one undo for all", x.undo() >= 0 ? x.told(7) : -9, 1);
        due("8 outside goes first", new ParrotTontine().year(31), OUTSIDE);
        ParrotTontine y = made("p999 0 0 0;l0 0;s999 0 0;");
        for (int i = 1; i <= 300; i++) {
            y.year(30);
        }
        due("8 9000 years", y.told(7), 9000);
        due("8 purse", y.told(11), Math.min(999999, 999 + 9000 * 999));
        due("8 at most", y.subscriber(0, 0), 999999);
        due("8 9000 are not above 9000", y.year(30), 999999);
        due("8 may pass", y.told(7), 9030);
        due("8 full", y.year(1), FULL);
        due("8 outside goes first", y.year(0), OUTSIDE);
        due("13 full", y.drift(1), FULL);
        due("13 outside goes first", y.drift(31), OUTSIDE);
        due("8 nothing changed", y.told(7), 9030);
        y.undo();
        due("8 9001", y.year(1) >= 0 ? y.told(7) : -9, 9001);
        due("8 9001 are above 9000", y.year(1), FULL);
        due("13 9001 are above 9000", y.drift(1), FULL);
        due("8 none told", made("p9 9 9 9;").year(1), 0);
    }

    // Promise 9
    private static void died() {
        ParrotTontine x = made(FOUR);
        due("9 died(1)", x.died(1), 13);
        due("9 died(1)", x.died(1), NOT);
        due("9 died(2), held by nobody", x.died(2), 9);
        due("9 died(4)", x.died(4), UNKNOWN);
        due("9 died(-1)", x.died(-1), UNKNOWN);
        due("9 undone", x.told(13), 2);
        x.year(1);
        due("9 for good", x.told(8), 9);
    }

    // Promise 10
    private static void guard() {
        ParrotTontine x = made("p10 0 20 4;l50 1;l50 2;s20 0 0;s19 50 1;");
        due("10 less than G", x.guard(1, 1), NOT);
        due("10 G is enough, another's life", x.guard(0, 1), 0);
        due("10 guarded", x.told(9), 2);
        due("10 less than G", x.guard(0, 0), NOT);
        x.year(2);
        x.year(2);
        due("10 again in another year", x.guard(0, 1), 0);
        due("10 guarded already", x.guard(1, 1), NOT);
        due("10 it costs", x.guard(1, 0), 19);
        x.year(2);
        x.year(2);
        x.died(0);
        due("10 dead", x.guard(0, 0), NOT);
        due("10 unknown s", x.guard(2, 0), UNKNOWN);
        due("10 unknown l", x.guard(0, 2), UNKNOWN);
        due("10 unknown both", x.guard(-1, -1), UNKNOWN);
        due("10 harmed may be guarded", x.harm(0, 1) >= 0 && x.guard(1, 1) >= 0 ? 1 : 0, 1);
    }

    // Promise 11
    private static void harm() {
        ParrotTontine x = made("p10 0 4 20;l50 1;l50 2;s20 0 0;s19 50 1;");
        due("11 less than H", x.harm(1, 1), NOT);
        due("11 H is enough, one's own life", x.harm(0, 0), 0);
        due("11 harmed", x.told(10), 1);
        x.year(2);
        x.year(2);
        due("11 again in another year", x.harm(0, 0), 0);
        due("11 harmed already", x.harm(1, 0), NOT);
        due("11 it costs", x.harm(1, 1), 19);
        x.year(2);
        x.year(2);
        x.died(0);
        due("11 dead", x.harm(0, 0), NOT);
        due("11 unknown s", x.harm(-1, 0), UNKNOWN);
        due("11 unknown l", x.harm(0, -1), UNKNOWN);
        ParrotTontine y = made(PAIR);
        y.harm(0, 1);
        y.harm(0, 0);
        due("11 both harmed", y.told(10), 3);
        due("11 guarded may be harmed", x.guard(0, 1) >= 0 && x.harm(1, 1) >= 0 ? 1 : 0, 1);
    }

    // Promise 12
    private static void sell() {
        ParrotTontine x = made(FOUR);
        due("12 of nobody", x.sell(2, 0, 30), 0);
        due("12 nobody gets it", x.told(11), 69);
        due("12 held", x.life(2, 3), 0);
        due("12 of a holder", x.sell(2, 1, 60), 0);
        due("12 he gets it", x.subscriber(0, 0), 60);
        due("12 more than he has", x.sell(0, 2, 10), NOT);
        due("12 all that he has", x.sell(0, 2, 9), 0);
        due("12 his already", x.sell(0, 2, 0), NOT);
        due("12 for nothing", x.sell(0, 1, 0), 0);
        x.died(3);
        due("12 dead", x.sell(3, 0, 0), NOT);
        due("12 v -1", x.sell(0, 0, -1), OUTSIDE);
        due("12 v 1000", x.sell(0, 0, 1000), OUTSIDE);
        due("12 outside ahead of not", x.sell(3, 0, 1000), OUTSIDE);
        due("12 unknown l", x.sell(4, 0, 1000), UNKNOWN);
        due("12 unknown s", x.sell(0, 3, 1000), UNKNOWN);
        due("12 unknown s", x.sell(0, -1, 0), UNKNOWN);
        ParrotTontine y = made("p999 0 0 0;l0 0;l100 0;s0 0 0;s999 0 1;");
        y.died(1);
        for (int i = 0; i < 34; i++) {
            y.year(30);
        }
        due("12 a full purse", y.subscriber(0, 0), 999999);
        due("12 sold by it", y.sell(0, 1, 999), 0);
        due("12 at most", y.subscriber(0, 0), 999999);
    }

    // Promise 13: THE SEEDs behind 0 are 12345, 1406932606, 654583775, 1449466924: DRAWS 0, 68, 88, 17
    private static void drift() {
        String text = "p10 0 0 0;l0 0;l69 0;l88 0;l18 0;s9 0 1;s8 0 0;";
        ParrotTontine x = made(text);
        due("13 drift(1)", x.drift(1), 5);
        due("13 seed", x.seed(0), 1449466924);
        due("13 paid to who is left", x.subscriber(1, 0), 18);
        due("13 the dead is not paid", x.subscriber(0, 0), 9);
        due("13 a year", x.told(7), 1);
        ParrotTontine y = made("p10 0 0 0;l0 0;l68 0;l44 0;l34 0;s9 0 1;s8 0 0;");
        y.harm(0, 2);
        y.guard(0, 3);
        due("13 68, 88, 17 below 68, 88, 17: none", y.drift(1), 15);
        y.seed(0);
        due("13 guards are gone: 17 below 34", y.drift(1), 7);
        y.died(1);
        y.seed(0);
        due("13 no draw for the dead", y.drift(1), 5);
        due("13 two draws", y.seed(0), 1406932606);
        y.drift(2);
        due("13 four draws in two years", y.seed(0), 1449466924);
        due("13 drift(0)", y.drift(0), OUTSIDE);
        due("13 drift(31)", y.drift(31), OUTSIDE);
        due("13 drift(30)", y.drift(30) >= 0 ? y.told(7) : -9, 35);
        due("13 no pot", new ParrotTontine().drift(30), NOT);
        due("13 outside ahead of not", new ParrotTontine().drift(0), OUTSIDE);
    }

    // Promise 14
    private static void undo() {
        ParrotTontine x = made(FOUR);
        x.year(1);
        x.guard(0, 0);
        x.harm(0, 1);
        x.died(1);
        x.sell(2, 1, 5);
        x.drift(2);
        int seed = x.seed(4);
        x.seed(seed);
        due("14 how many", x.told(13), 6);
        due("14 refused are not kept", x.sell(2, 1, 5) == NOT && x.died(9) == UNKNOWN ? x.told(13) : -9, 6);
        due("14 drift", x.undo(), 5);
        due("14 the seed stays", x.seed(seed), seed);
        due("14 years", x.told(7), 1);
        due("14 guards", x.told(9), 1);
        due("14 harm", x.told(10), 2);
        due("14 sell", x.undo(), 4);
        due("14 holder", x.life(2, 3), NONE);
        due("14 purse", x.subscriber(1, 0), 92);
        due("14 died", x.undo(), 3);
        due("14 alive", x.told(8), 15);
        due("14 harm", x.undo(), 2);
        due("14 harm", x.told(10), 0);
        due("14 guard", x.undo(), 1);
        due("14 guard", x.told(9), 0);
        due("14 purse", x.subscriber(0, 0), 62);
        due("14 year", x.undo(), 0);
        due("14 year", x.told(7), 0);
        due("14 purses", x.told(11), 99);
        due("14 none", x.undo(), NOT);
    }

    private static void undoKeepsTwenty() {
        ParrotTontine x = made(PAIR);
        for (int i = 1; i <= 50; i++) {
            x.year(1);
            due("14 at most twenty", x.told(13), Math.min(i, 20));
        }
        for (int i = 19; i >= 0; i--) {
            due("14 undo", x.undo(), i);
            due("14 years", x.told(7), 30 + i);
            due("14 purses", x.told(11), 27 + 10 * (30 + i));
        }
        due("14 the oldest are lost", x.undo(), NOT);
        x.year(2);
        due("14 anew", x.undo(), 0);
        due("14 years", x.told(7), 30);
    }

    // Promise 15
    private static void worth() {
        ParrotTontine x = made(PAIR);
        due("15 n 0", x.worth(0, 0), 0);
        due("15 n 1: (5 + 10) / 4", x.worth(0, 1), 3750);
        due("15 n 2: (5000 + 3750) / 4 + (10000 + 5000) / 4, cut", x.worth(0, 2), 5937);
        x.harm(1, 0);
        due("15 harmed: it dies", x.worth(0, 2), 0);
        due("15 the other: (10000 + 5000) / 2", x.worth(1, 2), 7500);
        x.guard(0, 0);
        due("15 both: as it is", x.worth(0, 2), 5937);
        x.guard(0, 1);
        due("15 guarded: 1/8 of 5 + 3/8 of 10 ..", x.worth(1, 1), 5625);
        due("15 in the first year alone: 3/8 (8750) + 3/8 (15000)", x.worth(1, 2), 8906);
        due("15 nothing changes", x.told(8), 3);
        due("15 nothing changes", x.told(9), 3);
        x.died(1);
        due("15 dead", x.worth(1, 20), 0);
        due("15 unknown", x.worth(2, 99), UNKNOWN);
        due("15 unknown", x.worth(-1, 1), UNKNOWN);
        due("15 n -1", x.worth(0, -1), OUTSIDE);
        due("15 n 21", x.worth(0, 21), OUTSIDE);
        due("15 n 20", made("p999 0 0 0;l0 0;s0 0 0;").worth(0, 20), 19980000);
        ParrotTontine y = made("p999 0 0 0;l0 0;l0 0;s0 0 0;s0 0 1;");
        for (int i = 0; i < 68; i++) {
            y.year(30);
        }
        due("15 full purses do not matter", y.subscriber(0, 0) == 999999 ? y.worth(0, 1) : -9, 499000);
        ParrotTontine z = made("p7 4 0 0;l1 0;l3 0;l50 0;s0 0 1;");
        due("15 fixed 2, free 5: 2000 + 97/100 of 5000", z.worth(0, 1), 6850);
    }

    // Promise 16
    private static void gain() {
        ParrotTontine x = made(PAIR);
        due("16 another's: 5000 - 3750", x.gain(0, 1, 1), 1250);
        due("16 his own", x.gain(0, 0, 1), -3750);
        due("16 n 2: 7500 - 5937", x.gain(0, 1, 2), 1563);
        due("16 n 0", x.gain(0, 1, 0), OUTSIDE);
        due("16 n 21", x.gain(0, 1, 21), OUTSIDE);
        due("16 n -1", x.gain(0, 1, -1), OUTSIDE);
        due("16 unknown s", x.gain(2, 1, 0), UNKNOWN);
        due("16 unknown l", x.gain(0, 2, 0), UNKNOWN);
        due("16 unknown l", x.gain(0, -1, 1), UNKNOWN);
        x.harm(0, 1);
        due("16 it would die by the harm: 5000 - 5000", x.gain(0, 1, 1), 0);
        x.died(1);
        due("16 dead", x.gain(0, 1, 1), 0);
        due("16 outside, if dead", x.gain(0, 1, 0), OUTSIDE);
        due("16 his own, n 1", x.gain(0, 0, 1), -5000);
        due("16 held by nobody", made(FOUR).gain(0, 2, 9), 0);
    }

    // Promise 17
    private static void gainers() {
        ParrotTontine x = made(PAIR);
        due("17 both", x.gainers(1), 3);
        x.harm(0, 1);
        due("17 no gain by one that dies, the other has none to keep", x.gainers(1), 0);
        x.year(1);
        x.died(1);
        due("17 0 has no other, 1 has nothing", x.gainers(20), 0);
        due("17 one held by nobody brings nothing", made(FOUR).gainers(5), 0);
        ParrotTontine y = made("p30 0 0 0;l0 0;l0 0;l0 0;s0 0 0;s0 0 1;s0 0 2;");
        due("17 all", y.gainers(1), 7);
        y.sell(1, 0, 0);
        due("17 who holds none alive does not", y.gainers(1), 5);
        y.sell(2, 0, 0);
        due("17 who holds all has no other", y.gainers(1), 0);
        due("17 n 0", y.gainers(0), OUTSIDE);
        due("17 n 21", y.gainers(21), OUTSIDE);
        due("17 no pot, n 0", new ParrotTontine().gainers(0), OUTSIDE);
    }

    private static int termsOf(int pot) {
        return made("p" + pot + " 0 0 0;l0 0;l0 0;l0 0;s0 0 0;s0 0 1;s0 0 2;").terms(1);
    }

    // Promise 18: of three that never die nobody gains where FREE / 3 is FREE / 2: by a FREE of 0, 1, 3
    private static void terms() {
        due("18 V 10", termsOf(10), 7);
        due("18 V 5", termsOf(5), 4);
        due("18 V 3", termsOf(3), 0);
        due("18 V 2", termsOf(2), 5);
        due("18 V 1", termsOf(1), 0);
        due("18 V 0", termsOf(0), 0);
        due("18 V 999", termsOf(999), 10);
        ParrotTontine x = made("p10 7 0 0;l0 0;l0 0;s0 0 0;s0 0 1;");
        due("18 two", x.terms(20), 10);
        due("18 K is as it was", x.told(1), 7);
        x.died(0);
        due("18 one is left", x.terms(20), 0);
        ParrotTontine two = made("p9 0 0 0;l0 0;l100 0;s0 0 0;s0 0 1;");
        due("18 it dies anyway, its holder has nothing to gain", two.terms(20), 0);
        due("18 n 0", x.terms(0), OUTSIDE);
        due("18 n 21", x.terms(21), OUTSIDE);
    }

    // Promise 19
    private static void who() {
        ParrotTontine x = made(PAIR);
        due("19 2 away", x.who(1, 2), 1);
        due("19 2 away", x.who(1, 1), 0);
        due("19 49 away", x.who(0, 49), 2);
        due("19 49 away", x.who(0, 48), 0);
        due("19 the holder does not", x.who(0, 50), 2);
        x.harm(1, 0);
        due("19 it dies anyway", x.who(0, 50), 0);
        x.died(0);
        due("19 dead: still harmed this year", x.who(0, 50), 0);
        x.year(1);
        due("19 dead: were it alive", x.who(0, 50), 2);
        due("19 of the living: nobody gains whose life is dead", x.who(1, 50), 0);
        due("19 d -1", x.who(0, -1), OUTSIDE);
        due("19 d 51", x.who(0, 51), OUTSIDE);
        due("19 unknown", x.who(2, 51), UNKNOWN);
        due("19 unknown", x.who(-1, 0), UNKNOWN);
        due("19 d 0", made("p9 0 0 0;l0 7;l0 7;s0 7 0;s0 7 1;").who(0, 0), 2);
        due("19 held by nobody", made(FOUR).who(2, 50), 0);
        String five = "l0 0;l0 0;l0 0;l0 0;l0 0;s0 0 0;s0 1 1;s0 2 2;s0 3 3;s0 50 4;";
        due("19 all but the holder", made("p99 0 0 0;" + five).who(2, 50), 27);
        due("19 all but the holder and the far", made("p99 0 0 0;" + five).who(0, 2), 6);
    }

    // Promise 20
    private static void nurse() {
        ParrotTontine x = made(PAIR);
        due("20 its holder", x.nurse(0, 1), 0);
        due("20 its holder", x.nurse(1, 20), 1);
        x.died(1);
        due("20 dead", x.nurse(1, 1), NONE);
        due("20 who is left", x.nurse(0, 1), 0);
        due("20 n 0", x.nurse(1, 0), OUTSIDE);
        due("20 n 21", x.nurse(0, 21), OUTSIDE);
        due("20 unknown", x.nurse(2, 0), UNKNOWN);
        due("20 unknown", x.nurse(-1, 1), UNKNOWN);
        due("20 more lives than subscribers", made(FOUR).nurse(0, 1), NONE);
        ParrotTontine y = made("p10 0 0 0;l0 0;l0 0;l0 0;l0 0;s0 0 3;s0 0 0;s0 0 1;");
        y.died(3);
        y.sell(2, 2, 0);
        // 0 gains by no death, 1 by those of 1 and 2, 2 by that of 0: 0 is needed for one of 2's lives
        due("20 the lesser would leave one without", y.nurse(0, 1), 1);
        due("20 then the lesser", y.nurse(1, 1), 0);
        due("20 the last", y.nurse(2, 1), 2);
        due("20 dead", y.nurse(3, 1), NONE);
        ParrotTontine z = made("p10 0 0 0;l100 0;l100 0;s0 0 1;s0 0 0;");
        due("20 nobody gains: the lesser", z.nurse(0, 1), 0);
        due("20 no one twice", z.nurse(1, 1), 1);
        ParrotTontine w = made("p10 0 0 0;l50 0;l50 0;s0 0 1;s0 0 0;");
        w.harm(0, 0);
        w.harm(0, 1);
        due("20 both die this year: the lesser", w.nurse(0, 1), 0);
        w.year(1);
        due("20 behind it each has his own", w.nurse(0, 1), 1);
        due("20 behind it each has his own", w.nurse(1, 1), 0);
    }

    // Promise 21
    private static void game() {
        ParrotTontine x = made(PAIR);
        due("21 dear doings: one pair", x.game(0, 1, 1, NONE), 1);
        due("21 both do nothing", x.game(0, 1, 1, 0), 0);
        due("21 no such", x.game(0, 1, 1, 1), NONE);
        due("21 no such", x.game(0, 1, 1, -2), NONE);
        due("21 no such", x.game(0, 1, 1, MOST), NONE);
        due("21 no such", x.game(0, 1, 1, LEAST), NONE);
        due("21 one twice", x.game(0, 0, 0, 0), UNKNOWN);
        due("21 unknown", x.game(0, 2, 0, 0), UNKNOWN);
        due("21 unknown", x.game(-1, 0, 1, 0), UNKNOWN);
        due("21 n 0", x.game(0, 1, 0, 0), OUTSIDE);
        due("21 n 21", x.game(0, 1, 21, 0), OUTSIDE);
        ParrotTontine y = made("p10 0 0 0;l50 1;l50 2;s20 0 0;s7 50 1;");
        due("21 free doings: both guard", y.game(0, 1, 1, NONE), 1);
        due("21 both guard", y.game(0, 1, 1, 0), 11);
        y.died(0);
        due("21 holds none alive", y.game(0, 1, 1, 0), NOT);
        due("21 holds none alive", y.game(1, 0, 1, NONE), NOT);
        due("21 outside ahead of not", y.game(1, 0, 0, NONE), OUTSIDE);
        // life 0 never dies; life 1 does, but by one half if it is guarded: then harm (1) brings 0 10 for 7.5
        ParrotTontine z = made("p10 0 0 1;l0 1;l100 2;s0 0 0;s0 50 1;");
        due("21 one harms, one guards", z.game(0, 1, 1, NONE), 1);
        due("21 one harms, one guards", z.game(0, 1, 1, 0), 21);
        due("21 turned", z.game(1, 0, 1, 0), 12);
        due("21 it is as it was", z.told(9) + z.told(10) + z.told(13), 0);
        ParrotTontine free = made("p0 0 0 0;l50 1;l50 2;s0 0 0;s0 50 1;");
        due("21 nothing to get", free.game(0, 1, 1, NONE), 9);
        int[] all = {0, 1, 2, 10, 11, 12, 20, 21, 22};
        for (int i = 0; i < all.length; i++) {
            due("21 rising", free.game(0, 1, 1, i), all[i]);
        }
        gameOfTheLeast();
    }

    private static void gameOfTheLeast() {
        // 0 holds lives 0 and 2 of which 0 dies by 100: it is the least, guarding it is all that brings
        ParrotTontine x = made("p30 0 1 0;l100 0;l0 0;l0 0;s0 0 0;s9 0 1;");
        x.sell(2, 0, 0);
        // he has 15 by life 2 alone; with life 0 by one half 20; 0 guards: (20 + 15) / 2 - 1
        due("21 the least of theirs", x.game(0, 1, 1, NONE), 2);
        // but where 1 harms it (for nothing), a guard would be lost; harm to what never dies is as good as none
        due("21 0 does nothing, 1 harms", x.game(0, 1, 1, 0), 2);
        due("21 or both harm", x.game(0, 1, 1, 1), 22);
        x.died(0);
        due("21 the least alive", x.game(0, 1, 1, NONE), 4);
        ParrotTontine y = made("p10 0 0 0;l50 1;l50 2;s20 0 0;s7 50 1;");
        y.guard(0, 0);
        y.guard(0, 1);
        due("21 guarded beside: a guard more is nothing, harm still works", y.game(0, 1, 1, NONE), 1);
        due("21 both harm", y.game(0, 1, 1, 0), 22);
        ParrotTontine z = made("p10 0 1 9;l50 1;l50 2;s20 0 0;s7 50 1;");
        due("21 cheap guards", z.game(0, 1, 1, 0), 11);
        z.guard(0, 0);
        due("21 there is one: another would cost", z.game(0, 1, 1, 0), 1);
        due("21 no other", z.game(0, 1, 1, 1), NONE);
    }

    // Promise 22
    private static void fair() {
        ParrotTontine x = made(PAIR);
        due("22 3750 / 1000", x.fair(0, 1), 3);
        due("22 5937 / 1000", x.fair(0, 2), 5);
        due("22 n 20", made("p999 0 0 0;l0 0;s0 0 0;").fair(0, 20), 19980);
        due("22 n 0", x.fair(0, 0), 0);
        due("22 n -1", x.fair(0, -1), OUTSIDE);
        due("22 n 21", x.fair(0, 21), OUTSIDE);
        due("22 unknown", x.fair(2, 21), UNKNOWN);
        x.died(0);
        due("22 dead", x.fair(0, 9), 0);
        due("22 nobody", made(FOUR).fair(2, 1), NOT);
        due("22 outside ahead of not", made(FOUR).fair(2, 21), OUTSIDE);
        ParrotTontine y = made("p1 0 0 0;l0 0;l0 0;s0 0 0;");
        y.sell(1, 0, 0);
        due("22 twice 1/2 is less than 1", y.fair(1, 1), -1);
        due("22 less 3", y.fair(1, 3), -3);
        ParrotTontine z = made("p1 0 0 0;l50 0;l0 0;s0 0 0;");
        z.sell(1, 0, 0);
        due("22 500 less 1000, cut towards 0", z.fair(0, 1), 0);
        due("22 500 less 500", z.fair(1, 1), 0);
        ParrotTontine w = made("p30 0 0 0;l0 0;l0 0;s0 0 0;s0 0 1;");
        w.sell(1, 0, 0);
        due("22 twice 15 less 30", w.fair(1, 1), 0);
    }

    // Promise 23
    private static void outlives() {
        ParrotTontine x = made("p1 0 0 0;l50 1;l25 2;l0 0;l100 0;");
        due("23 1/2 times 1/4", x.outlives(0, 1, 1), 125000000);
        due("23 3/4 times 1/2", x.outlives(1, 0, 1), 375000000);
        due("23 n 0", x.outlives(0, 1, 0), 0);
        due("23 surely", x.outlives(2, 3, 1), 1000000000);
        due("23 surely not", x.outlives(3, 2, 20), 0);
        // 953 of a billion by one half for 20 years, cut each year
        due("23 cut", x.outlives(2, 0, 20), 1000000000 - 953);
        due("23 n -1", x.outlives(0, 1, -1), OUTSIDE);
        due("23 n 21", x.outlives(0, 1, 21), OUTSIDE);
        due("23 one twice", x.outlives(1, 1, 21), UNKNOWN);
        due("23 unknown", x.outlives(4, 1, 1), UNKNOWN);
        due("23 unknown", x.outlives(1, -1, 1), UNKNOWN);
        x.died(1);
        due("23 dead", x.outlives(0, 1, 1), NOT);
        due("23 dead", x.outlives(1, 0, 1), NOT);
        due("23 outside ahead of not", x.outlives(1, 0, 21), OUTSIDE);
        ParrotTontine y = made(PAIR);
        y.guard(0, 0);
        y.harm(0, 1);
        due("23 guards do not count", y.outlives(0, 1, 1), 250000000);
    }

    // Promises 24, 25, 26
    private static void book() {
        ParrotTontine x = made(PAIR);
        due("26 no entries", x.judge(), NONE);
        due("24 write", x.write(0, 20), 1);
        due("24 write", x.write(1, 7), 2);
        due("26 none wrong", x.judge(), NONE);
        due("24 write", x.write(1, 8), 3);
        due("24 write", x.write(0, 8), 4);
        due("26 the first", x.judge(), 2);
        x.guard(0, 0);
        due("26 now", x.judge(), 0);
        x.undo();
        due("24 the book stays", x.told(12), 4);
        due("26 as ahead of it", x.judge(), 2);
        due("24 unknown", x.write(2, -1), UNKNOWN);
        due("24 purse -1", x.write(0, -1), OUTSIDE);
        due("24 purse 1000000", x.write(0, 1000000), OUTSIDE);
        due("24 purse 999999", x.write(0, 999999), 5);
        for (int i = 6; i <= 15; i++) {
            due("24 write", x.write(0, 0), i);
        }
        due("24 full", x.write(0, 0), FULL);
        due("24 unknown ahead of full", x.write(-1, 0), UNKNOWN);
        due("24 outside ahead of full", x.write(0, 1000000), OUTSIDE);
        due("25 tear", x.tear(), 15);
        due("25 tear", x.tear(), 0);
        due("25 empty", x.told(12), 0);
        due("26 empty", x.judge(), NONE);
        due("24 anew", x.write(1, 7), 1);
        due("26 anew", x.judge(), NONE);
    }

    // Promise 27
    private static void seed() {
        ParrotTontine x = new ParrotTontine();
        due("27 at first", x.seed(MOST), 0);
        due("27 was", x.seed(0), MOST);
        due("27 outside", x.seed(-1), OUTSIDE);
        due("27 outside", x.seed(LEAST), OUTSIDE);
        due("27 nothing changed", x.seed(8), 0);
        ParrotTontine y = made(PAIR);
        y.seed(MOST);
        y.drift(1);
        long next = (MOST * 1103515245L + 12345L) % (1L << 31);
        next = (next * 1103515245L + 12345L) % (1L << 31);
        due("27 two draws from the greatest", y.seed(0), next);
    }

    // Promises 28, 29
    private static void images() {
        ParrotTontine x = made(FOUR);
        x.seed(7);
        x.guard(0, 0);
        x.harm(0, 1);
        x.sell(2, 1, 3);
        due("28 keep", x.keep(1), 1);
        due("28 nothing can be undone", x.undo(), NOT);
        x.drift(3);
        x.year(2);
        x.died(3);
        x.write(0, 1);
        int alive = x.told(8);
        due("28 keep another", x.keep(0), 1);
        x.year(1);
        due("29 goBack", x.goBack(1), 1);
        due("29 nothing can be undone", x.undo(), NOT);
        due("29 years", x.told(7), 0);
        due("29 alive", x.told(8), 15);
        due("29 guards", x.told(9), 1);
        due("29 harm", x.told(10), 2);
        due("29 holder", x.life(2, 3), 1);
        due("29 purse", x.subscriber(0, 0), 17);
        due("29 purses", x.told(11), 83);
        due("29 the book stays", x.told(12), 1);
        due("29 the seed", x.seed(9), 7);
        x.died(0);
        due("29 again", x.goBack(1), 1);
        due("29 the image is as it was", x.told(8), 15);
        due("29 the seed again", x.seed(9), 7);
        due("29 the other", x.goBack(0), 1);
        due("29 alive", x.told(8), alive);
        due("29 years", x.told(7), 5);
        x.year(1);
        due("28 unknown", x.keep(2), UNKNOWN);
        due("28 unknown", x.keep(-1), UNKNOWN);
        due("29 unknown", x.goBack(2), UNKNOWN);
        due("29 unknown", x.goBack(-1), UNKNOWN);
        due("28 refused: still to be undone", x.told(13), 1);
        due("28 over it", x.keep(1), 1);
        due("29 over it", x.goBack(1) == 1 ? x.told(7) : -9, 6);
        ParrotTontine y = made(PAIR);
        y.keep(0);
        y.year(1);
        due("29 not kept", y.goBack(1), NOT);
        due("29 refused: still to be undone", y.told(13), 1);
        ParrotTontine z = new ParrotTontine();
        due("28 with no pot", z.keep(0), 1);
        due("29 with no pot", z.goBack(0), 1);
    }
}

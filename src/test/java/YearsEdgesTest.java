/** Section 2 and promises 1 and 5 to 14: each bound of what is so and of what is done. */
public final class YearsEdgesTest {
    private static final int NONE = ParrotTontine.NONE;
    private static final int UNKNOWN = ParrotTontine.UNKNOWN;
    private static final int NOT = ParrotTontine.NOT;
    private static final int FULL = ParrotTontine.FULL;
    private static final int MOST_PURSE = 999999;
    private static final int MOST_UNDONE = 20;
    private static final Check CHECK = new Check("YearsEdgesTest");

    private YearsEdgesTest() {
    }

    public static void main(String[] args) {
        allAliveAtFirst();
        toldOfNoneAndOfAll();
        fixedPart();
        shareOfFixed();
        shareOfFree();
        nothingByNought();
        purseAtMostInYears();
        purseAtMostBySale();
        fewestAndMostYears();
        lastYearToGoOn();
        guardsGoWithTheYear();
        deadAreGuardedTillPaid();
        chances();
        nobodyDiesInYears();
        lastLifeDies();
        guardCosts();
        harmCosts();
        guardedAndHarmedOnce();
        prices();
        saleToHimself();
        saleOfNobodys();
        drawsBesideChance();
        drawsOfNoneAlive();
        guardsInTheFirstYearOfDrift();
        seedWrapsAround();
        eachKindIsUndone();
        restIsNotUndone();
        twentyAreKept();
        ringOfUndone();
        undoneByOneCall();
        CHECK.close();
    }

    private static ParrotTontine made(String text) {
        return Check.made(text);
    }

    private static void due(String call, long got, long want) {
        CHECK.due(call, got, want);
    }

    // "A LIFE is alive (all at first) or dead; it is held by one SUBSCRIBER, or nobody"
    private static void allAliveAtFirst() {
        String text = "p9 0 0 0;";
        for (int lives = 0; lives <= 5; lives++) {
            ParrotTontine x = made(text);
            due(lives + " alive", x.told(8), (1 << lives) - 1);
            for (int l = 0; l < lives; l++) {
                due("alive", x.life(l, 2), 1);
                due("nobody's", x.life(l, 3), NONE);
            }
            text += "l100 0;";
        }
    }

    // told of an object without a POT, and of one with all that there can be
    private static void toldOfNoneAndOfAll() {
        ParrotTontine none = new ParrotTontine();
        for (int what = 0; what <= 13; what++) {
            due("none: told(" + what + ")", none.told(what), 0);
        }
        ParrotTontine x = made("p999 10 0 0;l1 0;l2 0;l3 0;l4 0;l5 0;s999 0 0;s999 0 1;s999 0 2;s999 0 3;s999 0 4;");
        for (int k = 0; k < 5; k++) {
            x.guard(k, k);
            x.harm(k, 4 - k);
            x.write(k, 0);
        }
        int[] want = {999, 10, 0, 0, 5, 5, 0, 0, 31, 31, 31, 5 * 999, 5, 10};
        for (int what = 0; what < want.length; what++) {
            due("all: told(" + what + ")", x.told(what), want[what]);
        }
    }

    private static int payOfOne(int pot, int tenths) {
        return made("p" + pot + " " + tenths + " 0 0;l0 0;l0 0;s0 0 0;s0 0 1;").subscriber(0, 3);
    }

    // "V times K / 10 is the FIXED part, the rest is FREE": each is halved by itself here
    private static void fixedPart() {
        due("V 0", payOfOne(0, 10), 0);
        due("K 0: all is free", payOfOne(999, 0), 499);
        due("K 10: all is fixed", payOfOne(999, 10), 499);
        due("19 by 1: 1 / 2 and 18 / 2", payOfOne(19, 1), 9);
        due("9 by 1: 0 / 2 and 9 / 2", payOfOne(9, 1), 4);
        due("10 by 1: 1 / 2 and 9 / 2", payOfOne(10, 1), 4);
        due("11 by 9: 9 / 2 and 2 / 2", payOfOne(11, 9), 5);
        due("999 by 9: 899 / 2 and 100 / 2", payOfOne(999, 9), 499);
        due("6 by 5: 3 / 2 and 3 / 2", payOfOne(6, 5), 2);
    }

    // "Each SUBSCRIBER has FIXED / SUBSCRIBERS", whoever's life is dead
    private static void shareOfFixed() {
        String lives = "l0 0;l0 0;l0 0;l0 0;l0 0;";
        ParrotTontine one = made("p999 10 0 0;" + lives + "s0 0 3;");
        due("of one", one.subscriber(0, 3), 999);
        one.died(3);
        due("of one whose life is dead", one.subscriber(0, 3), 999);
        ParrotTontine five = made("p999 10 0 0;" + lives + "s0 0 0;s0 0 1;s0 0 2;s0 0 3;s0 0 4;");
        due("of five", five.subscriber(4, 3), 199);
        due("cut for each", five.year(1), 5 * 199);
        ParrotTontine less = made("p4 10 0 0;" + lives + "s0 0 0;s0 0 1;s0 0 2;s0 0 3;s0 0 4;");
        due("less than there are", less.year(30), 0);
    }

    // "for each LIFE of his that is alive, FREE / (LIVES that are alive and held) (cut for each by itself)"
    private static void shareOfFree() {
        ParrotTontine x = made("p5 0 0 0;l0 0;l0 0;l0 0;l0 0;s0 0 0;s0 0 1;");
        due("nobody's do not count: 5 / 2", x.subscriber(0, 3), 2);
        x.sell(2, 0, 0);
        due("twice 5 / 3", x.subscriber(0, 3), 2);
        x.sell(3, 0, 0);
        due("three times 5 / 4", x.subscriber(0, 3), 3);
        x.died(0);
        due("the dead do not count: twice 5 / 3", x.subscriber(0, 3), 2);
        x.died(1);
        due("the other's dead do not: twice 5 / 2", x.subscriber(0, 3), 4);
        x.died(2);
        due("the last: 5", x.subscriber(0, 3), 5);
        due("the other", x.subscriber(1, 3), 0);
        ParrotTontine less = made("p4 0 0 0;l0 0;l0 0;l0 0;l0 0;l0 0;s0 0 0;s0 0 1;s0 0 2;s0 0 3;s0 0 4;");
        due("less than there are", less.year(30), 0);
    }

    // "(Nothing where there would be a division by 0.)"
    private static void nothingByNought() {
        ParrotTontine none = made("p999 5 0 0;l0 0;");
        due("no subscribers", none.year(30), 0);
        due("its years count", none.told(7), 30);
        due("no subscribers, by draws", none.drift(30), 1);
        due("no subscribers: nobody gains", none.gainers(20), 0);
        due("no subscribers: no terms are needed", none.terms(20), 0);
        due("no subscribers: nobody would", none.who(0, 50), 0);
        due("no subscribers: no nurse", none.nurse(0, 20), NONE);
        ParrotTontine bare = made("p999 5 0 0;");
        due("no lives", bare.year(1), 0);
        due("no lives, by draws", bare.drift(30), 0);
        ParrotTontine dead = made("p999 5 0 0;l0 0;l0 0;s0 0 0;");
        dead.died(0);
        due("none is alive and held: fixed alone", dead.subscriber(0, 3), 499);
        due("none is alive and held: year", dead.year(2), 998);
        due("none is alive and held: worth", dead.worth(0, 2), 998000);
        dead.died(1);
        due("none is alive: worth", dead.worth(0, 20), 20 * 499000);
    }

    // "PURSES are 999999 at most": 1001 times 999 is just that
    private static void purseAtMostInYears() {
        String paid = "p999 10 0 0;l0 0;";
        ParrotTontine x = rich(paid + "s0 0 0;", 1000);
        due("999 less", x.told(11), MOST_PURSE - 999);
        due("just that", x.year(1), MOST_PURSE);
        due("no more", x.year(1), MOST_PURSE);
        due("no more by draws", x.drift(1) == 1 ? x.told(11) : NOT, MOST_PURSE);
        due("no more in thirty", x.year(30), MOST_PURSE);
        due("its pay is as ever", x.subscriber(0, 3), 999);
        due("one less than just that", rich("p998 10 0 0;l0 0;s999 0 0;", 1001).told(11), MOST_PURSE - 2);
        due("one more than just that", rich(paid + "s1 0 0;", 1001).told(11), MOST_PURSE);
        ParrotTontine two = rich("p999 0 9 0;l0 0;l100 0;s0 0 0;s5 0 1;", 1);
        two.died(1);
        for (int i = 0; i < 40; i++) {
            two.year(30);
        }
        due("each by itself", two.told(11), MOST_PURSE + 5 + 499);
        due("less by a guard", two.guard(0, 0), MOST_PURSE - 9);
        due("full again", two.year(1), MOST_PURSE + 5 + 499);
    }

    private static ParrotTontine rich(String text, int years) {
        ParrotTontine x = made(text);
        for (int left = years; left > 0; left -= 30) {
            x.year(Math.min(left, 30));
        }
        return x;
    }

    private static void purseAtMostBySale() {
        String text = "p999 0 0 0;l0 0;l100 0;l0 0;s0 0 0;s999 0 1;";
        ParrotTontine x = made(text);
        x.died(1);
        for (int i = 0; i < 33; i++) {
            x.year(30);
        }
        due("990 years", x.year(10), 999 * 1000 + 999);
        due("just full by a sale", x.sell(0, 1, 999) == 0 ? x.subscriber(0, 0) : NOT, MOST_PURSE);
        x.undo();
        x.year(1);
        due("full ahead", x.subscriber(0, 0), MOST_PURSE);
        due("the buyer pays all the same", x.sell(0, 1, 998), 1);
        due("no more by a sale", x.subscriber(0, 0), MOST_PURSE);
        due("it is sold", x.life(0, 3), 1);
        due("a full one may buy", x.sell(2, 0, 1), MOST_PURSE - 1);
        due("one less, then two more", x.sell(2, 1, 1) == 0 ? x.subscriber(0, 0) : NOT, MOST_PURSE);
    }

    // "n YEARS (1 .. 30)"
    private static void fewestAndMostYears() {
        ParrotTontine x = made("p10 0 0 0;l0 0;s5 0 0;");
        due("year(1)", x.year(1), 15);
        due("one year", x.told(7), 1);
        due("year(30)", x.year(30), 315);
        due("thirty years", x.told(7), 31);
        due("drift(1)", x.drift(1) == 1 ? x.told(7) : NOT, 32);
        due("drift(30)", x.drift(30) == 1 ? x.told(7) : NOT, 62);
        due("all were paid", x.told(11), 625);
    }

    // "FULL: YEARS are above 9000 as it is called (n may pass that)"
    private static void lastYearToGoOn() {
        due("year(30) at 8999", late(8999).year(30), 0);
        due("year(30) at 9000", late(9000).year(30), 0);
        due("drift(30) at 9000", late(9000).drift(30), 0);
        due("year(1) at 9001", late(9001).year(1), FULL);
        due("drift(1) at 9001", late(9001).drift(1), FULL);
        ParrotTontine x = late(9000);
        x.year(30);
        due("it passes", x.told(7), 9030);
        due("year(30) at 9030", x.year(30), FULL);
        due("drift(30) at 9030", x.drift(30), FULL);
        due("undone", x.undo(), MOST_UNDONE - 1);
        due("drift(30) at 9000 again", x.drift(30) == 0 ? x.told(7) : NOT, 9030);
        Check.feedAll(x, "p1 0 0 0;");
        x.tontine();
        due("anew", x.year(1), 0);
    }

    private static ParrotTontine late(int years) {
        ParrotTontine x = made("p0 0 0 0;");
        for (int left = years; left > 0; left -= 30) {
            x.year(Math.min(left, 30));
        }
        CHECK.due("years", x.told(7), years);
        return x;
    }

    // "then GUARDS and HARM are gone; YEARS are counted"
    private static void guardsGoWithTheYear() {
        ParrotTontine x = made("p9 0 0 0;l0 0;l0 0;l0 0;l0 0;l0 0;s0 0 0;");
        for (int l = 0; l < 5; l++) {
            x.guard(0, l);
            x.harm(0, 4 - l);
            due("guarded", x.told(9), (1 << l + 1) - 1);
            due("harmed", x.told(10), 31 & ~((1 << 4 - l) - 1));
        }
        x.year(1);
        due("no guards", x.told(9), 0);
        due("no harm", x.told(10), 0);
        x.guard(0, 4);
        x.harm(0, 0);
        x.drift(1);
        due("no guards by draws", x.told(9), 0);
        due("no harm by draws", x.told(10), 0);
        due("two years", x.told(7), 2);
    }

    // "(GUARDED, HARMED, if it was, till the YEAR is paid)"
    private static void deadAreGuardedTillPaid() {
        ParrotTontine x = made("p9 0 0 0;l0 0;l7 0;s0 0 0;");
        x.guard(0, 1);
        x.harm(0, 1);
        x.died(1);
        due("dead and guarded", x.told(9), 2);
        due("dead and harmed", x.told(10), 2);
        due("no chance of the dead", x.life(1, 4), 0);
        due("a dead one is not guarded anew", x.guard(0, 1), NOT);
        due("a dead one is not harmed anew", x.harm(0, 1), NOT);
        x.year(1);
        due("paid", x.told(9) + x.told(10), 0);
        due("for good", x.life(1, 2), 0);
        x.year(30);
        due("for good", x.told(8), 1);
    }

    // "CHANCE ..: Q; Q / 2 if it is GUARDED, twice Q (100 at most) if it is HARMED, Q if it is both"
    private static void chances() {
        int[] q = {0, 1, 49, 50, 51, 99, 100};
        int[] guarded = {0, 0, 24, 25, 25, 49, 50};
        int[] harmed = {0, 2, 98, 100, 100, 100, 100};
        for (int i = 0; i < q.length; i++) {
            ParrotTontine x = made("p0 0 0 0;l" + q[i] + " 0;s0 0 0;");
            due(q[i] + " as it is", x.life(0, 4), q[i]);
            x.guard(0, 0);
            due(q[i] + " guarded", x.life(0, 4), guarded[i]);
            x.harm(0, 0);
            due(q[i] + " both", x.life(0, 4), q[i]);
            x.undo();
            x.undo();
            x.harm(0, 0);
            due(q[i] + " harmed", x.life(0, 4), harmed[i]);
            due(q[i] + " stays Q", x.life(0, 0), q[i]);
            x.year(1);
            due(q[i] + " the next year", x.life(0, 4), q[i]);
        }
    }

    // "(.. in a year() nobody does)"
    private static void nobodyDiesInYears() {
        ParrotTontine x = made("p9 0 0 0;l100 0;l99 0;s0 0 0;");
        x.harm(0, 1);
        due("paid for both", x.year(30), 270);
        due("both are alive", x.told(8), 3);
        due("no draw", x.seed(0), 0);
    }

    private static void lastLifeDies() {
        ParrotTontine x = made("p9 0 0 0;l0 0;l0 0;l0 0;l0 0;l0 0;s0 0 0;");
        due("the greatest", x.died(4), 15);
        due("the least", x.died(0), 14);
        due("two", x.died(2), 10);
        due("three", x.died(1), 8);
        due("the last", x.died(3), 0);
        due("none is left", x.died(3), NOT);
    }

    // "NOT: .. he has less than G"
    private static void guardCosts() {
        String lives = "l0 0;l0 0;l0 0;";
        due("98 for 99", made("p0 0 99 0;" + lives + "s98 0 0;").guard(0, 0), NOT);
        due("99 for 99", made("p0 0 99 0;" + lives + "s99 0 0;").guard(0, 0), 0);
        due("100 for 99", made("p0 0 99 0;" + lives + "s100 0 0;").guard(0, 0), 1);
        due("0 for 0", made("p0 0 0 99;" + lives + "s0 0 0;").guard(0, 0), 0);
        due("0 for 1", made("p0 0 1 0;" + lives + "s0 0 0;").guard(0, 0), NOT);
        ParrotTontine x = made("p0 0 3 9;" + lives + "s6 0 0;s1 0 1;");
        due("nobody's life", x.guard(0, 2), 3);
        due("another's life", x.guard(0, 1), 0);
        due("he alone pays", x.told(11), 1);
    }

    // "NOT: .. he has less than H"
    private static void harmCosts() {
        String lives = "l0 0;l0 0;l0 0;";
        due("98 for 99", made("p0 0 0 99;" + lives + "s98 0 0;").harm(0, 0), NOT);
        due("99 for 99", made("p0 0 0 99;" + lives + "s99 0 0;").harm(0, 0), 0);
        due("100 for 99", made("p0 0 0 99;" + lives + "s100 0 0;").harm(0, 0), 1);
        due("0 for 0", made("p0 0 99 0;" + lives + "s0 0 0;").harm(0, 0), 0);
        due("0 for 1", made("p0 0 0 1;" + lives + "s0 0 0;").harm(0, 0), NOT);
        ParrotTontine x = made("p0 0 9 3;" + lives + "s6 0 0;s1 0 1;");
        due("nobody's life", x.harm(0, 2), 3);
        due("another's life", x.harm(0, 1), 0);
        due("he alone pays", x.told(11), 1);
    }

    // "NOT: it is dead, GUARDED", "NOT: it is dead, HARMED"
    private static void guardedAndHarmedOnce() {
        ParrotTontine x = made("p0 0 1 1;l0 0;l0 0;s9 0 0;s9 0 1;");
        due("guarded", x.guard(0, 0), 8);
        due("guarded by himself already", x.guard(0, 0), NOT);
        due("guarded by another already", x.guard(1, 0), NOT);
        due("a guarded one may be harmed", x.harm(1, 0), 8);
        due("harmed by himself already", x.harm(1, 0), NOT);
        due("harmed by another already", x.harm(0, 0), NOT);
        due("the other may be", x.guard(0, 1), 7);
        due("the other may be", x.harm(0, 1), 6);
        x.year(1);
        due("again in the next year", x.guard(0, 0), 5);
        due("again in the next year", x.harm(0, 0), 4);
    }

    // "v (0 .. 999 ..)", "NOT: .. he has less than v"
    private static void prices() {
        String text = "p0 0 0 0;l0 0;l0 0;s0 0 0;s999 0 1;";
        ParrotTontine x = made(text);
        due("all that he has", x.sell(0, 1, 999), 0);
        due("its holder gets it", x.subscriber(0, 0), 999);
        due("nothing for nothing", made(text).sell(1, 0, 0), 0);
        due("1 of 0", made(text).sell(1, 0, 1), NOT);
        ParrotTontine less = made("p0 0 0 0;l0 0;l0 0;s0 0 0;s998 0 1;");
        due("999 of 998", less.sell(0, 1, 999), NOT);
        due("998 of 998", less.sell(0, 1, 998), 0);
    }

    // "NOT: it is his, dead"
    private static void saleToHimself() {
        ParrotTontine x = made("p0 0 0 0;l0 0;l0 0;s9 0 0;s9 0 1;");
        due("his", x.sell(0, 0, 0), NOT);
        due("sold", x.sell(0, 1, 4), 5);
        due("his now", x.sell(0, 1, 0), NOT);
        due("sold back", x.sell(0, 0, 13), 0);
        due("he has it", x.subscriber(0, 2), 1);
        x.died(1);
        due("dead", x.sell(1, 0, 0), NOT);
        due("dead, and his", x.sell(1, 1, 0), NOT);
        due("the dead one's holder", x.life(1, 3), 1);
    }

    // "(its holder gets it, if there is one)"
    private static void saleOfNobodys() {
        ParrotTontine x = made("p0 0 0 0;l0 0;l0 0;s9 0 1;");
        due("nobody's", x.sell(0, 0, 9), 0);
        due("nobody gets it", x.told(11), 0);
        due("he holds both", x.subscriber(0, 2), 3);
        due("undone", x.undo(), 0);
        due("nobody's again", x.life(0, 3), NONE);
        due("he has it again", x.subscriber(0, 0), 9);
    }

    // "a DRAW of 100: below its CHANCE it dies"; behind these SEEDs comes the DRAW that is named
    private static void drawsBesideChance() {
        int[] seeds = {0, 70, 58, 27, 15, 194};
        int[] draws = {0, 1, 49, 50, 98, 99};
        for (int i = 0; i < seeds.length; i++) {
            int draw = draws[i];
            due("draw " + draw + " by " + draw, aliveBehind(seeds[i], draw), 1);
            due("draw " + draw + " by " + (draw + 1), aliveBehind(seeds[i], draw + 1), 0);
        }
        ParrotTontine x = made("p0 0 0 0;l1 0;s0 0 0;");
        x.guard(0, 0);
        due("draw 0 by 1 guarded: 0", x.drift(1), 1);
        x = made("p0 0 0 0;l50 0;s0 0 0;");
        x.harm(0, 0);
        x.seed(194);
        due("draw 99 by 50 harmed: 100", x.drift(1), 0);
    }

    private static int aliveBehind(int seed, int q) {
        ParrotTontine x = made("p0 0 0 0;l" + q + " 0;");
        x.seed(seed);
        return x.drift(1);
    }

    // "LIFE by LIFE that is alive a DRAW": by a CHANCE of 0 or 100, too; none for the dead
    private static void drawsOfNoneAlive() {
        ParrotTontine x = made("p0 0 0 0;l0 0;l100 0;l0 0;");
        due("one dies", x.drift(1), 5);
        due("three draws", x.seed(0), 654583775);
        x.drift(1);
        due("two draws", x.seed(0), 1406932606);
        x.died(0);
        x.drift(1);
        due("one draw", x.seed(0), 12345);
        x.died(2);
        due("none alive", x.drift(30), 0);
        due("no draw", x.seed(0), 0);
        ParrotTontine two = made("p0 0 0 0;l100 0;l0 0;");
        due("it is dead in the second year", two.drift(2), 2);
        due("two draws and one", two.seed(0), 654583775);
    }

    // the DRAWS are 0, 68, 88, 17, 98: a guard, a harm counts in the first YEAR alone
    private static void guardsInTheFirstYearOfDrift() {
        ParrotTontine guarded = made("p0 0 0 0;l0 0;l100 0;s0 0 0;");
        guarded.guard(0, 1);
        due("68 by 50", guarded.drift(1), 3);
        guarded.seed(0);
        guarded.guard(0, 1);
        due("then 17 by 100", guarded.drift(2), 1);
        ParrotTontine harmed = made("p0 0 0 0;l0 0;l17 0;s0 0 0;");
        harmed.harm(0, 0);
        harmed.harm(0, 1);
        due("68 by 34, then 17 by 17 (no longer 34)", harmed.drift(2), 3);
    }

    // "left over by 2 to the 31"
    private static void seedWrapsAround() {
        int[] ahead = {0, 1, 2147483647, 230538014, 2088216195};
        int[] behind = {12345, 1103527590, 1043980748, 2147483647, 0};
        for (int i = 0; i < ahead.length; i++) {
            ParrotTontine x = made("p0 0 0 0;l0 0;");
            x.seed(ahead[i]);
            x.drift(1);
            due("the seed behind " + ahead[i], x.seed(0), behind[i]);
        }
    }

    // "the latest of year(), died(), guard(), harm(), sell(), drift()": all is as ahead of it, but THE SEED
    private static void eachKindIsUndone() {
        String[] names = {"year", "died", "guard", "harm", "sell", "drift"};
        int[][] args = {{30}, {1}, {0, 1}, {1, 0}, {2, 0, 5}, {30}};
        for (int i = 0; i < names.length; i++) {
            ParrotTontine x = begun();
            int answer = Calls.answer(x, names[i], args[i]);
            due(names[i] + " is taken", Calls.isRefusal(answer) ? answer : 0, 0);
            due(names[i] + " can be undone", x.told(13), 4);
            due(names[i] + " changes something", Sight.of(x).equals(Sight.of(begun())) ? 1 : 0, 0);
            int seed = x.seed(8);
            due(names[i] + " draws or not", seed == 3 ? 0 : 1, names[i].equals("drift") ? 1 : 0);
            due(names[i] + " undone", x.undo(), 3);
            due("the seed stays", x.seed(3), 8);
            due(names[i] + " is gone", Sight.through(x).equals(Sight.through(begun())) ? 1 : 0, 1);
        }
    }

    private static ParrotTontine begun() {
        ParrotTontine x = made("p50 3 1 2;l50 1;l7 2;l30 3;s40 4 0;s30 5 1;");
        x.seed(3);
        x.write(0, 40);
        x.keep(1);
        x.year(2);
        x.guard(0, 0);
        x.harm(0, 2);
        return x;
    }

    // what is no such call, or was refused, is not kept
    private static void restIsNotUndone() {
        ParrotTontine x = begun();
        x.write(1, 3);
        x.judge();
        x.tear();
        x.seed(3);
        x.feed('p');
        x.worth(0, 5);
        x.game(0, 1, 2, -1);
        x.died(3);
        x.guard(0, 0);
        x.harm(0, 2);
        x.sell(0, 0, 1);
        x.year(0);
        x.drift(31);
        x.keep(2);
        x.goBack(0);
        due("as many as ahead", x.told(13), 3);
        due("harm is the latest", x.undo() == 2 ? x.told(10) : NOT, 0);
        due("guard", x.undo() == 1 ? x.told(9) : NOT, 0);
        due("year", x.undo() == 0 ? x.told(7) : NOT, 0);
        due("none", x.undo(), NOT);
        due("the book is not undone", x.told(12), 0);
        due("the text is not undone", x.told(6), 1);
        x.year(1);
        x.keep(0);
        due("keep: nothing can be undone then", x.told(13), 0);
        x.year(1);
        x.goBack(0);
        due("goBack: nothing can be undone then", x.undo(), NOT);
    }

    // "(20 at most are kept, the oldest are lost)"
    private static void twentyAreKept() {
        for (int done : new int[] {1, 19, 20, 21, 40, 41}) {
            ParrotTontine x = made("p1 0 0 0;l0 0;s0 0 0;");
            for (int i = 0; i < done; i++) {
                x.year(1);
            }
            int kept = Math.min(done, MOST_UNDONE);
            due(done + " were done", x.told(13), kept);
            for (int left = kept - 1; left >= 0; left--) {
                due("undo", x.undo(), left);
            }
            due("the oldest is lost", x.undo(), NOT);
            due("years", x.told(7), done - kept);
            due("purse", x.told(11), done - kept);
        }
    }

    private static void ringOfUndone() {
        ParrotTontine x = made("p1 0 0 0;l0 0;s0 0 0;");
        years(x, 25);
        undoes(x, 5);
        due("15 are left", x.told(13), 15);
        years(x, 7);
        due("two more are lost", x.told(13), MOST_UNDONE);
        undoes(x, MOST_UNDONE);
        due("back to the year", x.told(7), 7);
        due("none", x.undo(), NOT);
        years(x, 3);
        x.keep(0);
        years(x, 21);
        undoes(x, 3);
        due("17 are left", x.told(13), 17);
        undoes(x, 17);
        due("back to the year", x.told(7), 11);
        due("none", x.undo(), NOT);
        due("back to the image", x.goBack(0) == 1 ? x.told(7) : NOT, 10);
    }

    private static void years(ParrotTontine x, int times) {
        for (int i = 0; i < times; i++) {
            x.year(1);
        }
    }

    private static void undoes(ParrotTontine x, int times) {
        for (int i = 0; i < times; i++) {
            x.undo();
        }
    }

    // thirty years by one call are undone by one
    private static void undoneByOneCall() {
        ParrotTontine x = made("p9 0 0 0;l100 0;l0 0;s1 0 0;s2 0 1;");
        x.guard(0, 0);
        due("draw 0 by 50: one dies", x.drift(30), 2);
        due("one call", x.undo(), 1);
        due("years", x.told(7), 0);
        due("alive", x.told(8), 3);
        due("guarded", x.told(9), 1);
        due("purses", x.told(11), 3);
        due("and the guard", x.undo(), 0);
        due("guarded", x.told(9), 0);
        due("a life that there is not", x.died(2), UNKNOWN);
    }
}

/** Section 3 and promises 15 to 23: each bound of what is tried. Answers are reckoned by hand where they are told. */
public final class TrialEdgesTest {
    private static final int NONE = ParrotTontine.NONE;
    private static final int UNKNOWN = ParrotTontine.UNKNOWN;
    private static final int NOT = ParrotTontine.NOT;
    private static final int BILLION = 1000000000;
    private static final Check CHECK = new Check("TrialEdgesTest");

    private TrialEdgesTest() {
    }

    public static void main(String[] args) {
        worthOfNoneAndOfMostYears();
        worthIsCutOnceForEachSet();
        worthIsCutEachYear();
        worthByFirstYearsChances();
        worthByWhoHoldsNow();
        gainOfTheDead();
        gainAtNought();
        gainByACutAlone();
        gainOfAllYears();
        gainersOfEach();
        gainersWithNoOther();
        gainersOfAllFive();
        termsFromNoneToAll();
        termsOfTheLeast();
        whoByDistance();
        whoHoldsIt();
        whoOfTheDead();
        whoInOneYear();
        whoOfNobodys();
        nursesOfNoneAndOfAll();
        nursesNoOneTwice();
        nursesInTheFirstWay();
        nurseWhoGainsNothingJust();
        gameWithoutPair();
        gameOfAllPairs();
        gameAtEvenCost();
        gameByEmptyPurses();
        gameInTheFirstYear();
        gameOfWhoHoldsNoneAlive();
        fairOfNoneAndOfMostYears();
        fairIsCutTowardsNought();
        fairOfTheDead();
        outlivesOfNoneAndOfMostYears();
        outlivesIsCut();
        CHECK.close();
    }

    private static ParrotTontine made(String text) {
        return Check.made(text);
    }

    private static void due(String call, long got, long want) {
        CHECK.due(call, got, want);
    }

    // "WORTH .. of n YEARS (0 .. 20)"
    private static void worthOfNoneAndOfMostYears() {
        String five = "p999 0 0 0;l0 0;l0 0;l0 0;l0 0;l0 0;";
        ParrotTontine x = made(five + "s0 0 4;");
        due("n 0", x.worth(0, 0), 0);
        due("n 1", x.worth(0, 1), 999000);
        due("n 20", x.worth(0, 20), 19980000);
        for (int l = 0; l < 4; l++) {
            x.sell(l, 0, 0);
        }
        due("five times 999 / 5, cut", x.worth(0, 20), 5 * 199 * 20000);
        ParrotTontine gone = made("p999 0 0 0;l100 0;s0 0 0;");
        due("it dies ahead of its pay", gone.worth(0, 20), 0);
        ParrotTontine none = made("p0 0 0 0;l50 0;s999 0 0;");
        due("no pot, and a purse that does not count", none.worth(0, 20), 0);
    }

    // "the sum / 100 to the power of how many LIVES were alive (cut, once for each SET)"
    private static void worthIsCutOnceForEachSet() {
        ParrotTontine x = made("p3 0 0 0;l3 0;l3 0;s0 0 0;s0 0 1;");
        due("n 1: (97 97 1000 + 97 3 3000) / 10000 = 1028.2", x.worth(0, 1), 1028);
        // cut for each LIFE by itself it were 2079, for each SET that is left 2078
        due("n 2: (9409 (1000 + 1028) + 291 (3000 + 2910)) / 10000 = 2080.1", x.worth(0, 2), 2080);
    }

    private static void worthIsCutEachYear() {
        ParrotTontine x = made("p1 0 0 0;l1 0;s0 0 0;");
        int[] want = {0, 990, 1970, 2940, 3900, 4851, 5792};
        for (int n = 0; n < want.length; n++) {
            // 99 / 100 of 1000 and what was ahead; at n 6 it were 5793 if it were cut at the end alone
            due("n " + n, x.worth(0, n), want[n]);
        }
    }

    // "(GUARDS, HARM in the first YEAR alone)"
    private static void worthByFirstYearsChances() {
        String text = "p10 0 0 0;l60 0;s0 0 0;";
        ParrotTontine x = made(text);
        due("n 2 as it is: 40 / 100 (10000 + 4000)", x.worth(0, 2), 5600);
        x.guard(0, 0);
        due("n 0 guarded", x.worth(0, 0), 0);
        due("n 1 guarded: 70 / 100", x.worth(0, 1), 7000);
        due("n 2 guarded: 70 / 100 (10000 + 4000)", x.worth(0, 2), 9800);
        x.harm(0, 0);
        due("n 2 both", x.worth(0, 2), 5600);
        x.year(1);
        due("n 2 a year later", x.worth(0, 2), 5600);
        x.harm(0, 0);
        due("n 2 harmed: 100 at most", x.worth(0, 2), 0);
        x = made("p10 0 0 0;l49 0;s0 0 0;");
        x.harm(0, 0);
        due("n 2 harmed: 2 / 100 (10000 + 5100)", x.worth(0, 2), 302);
    }

    // "PAY is reckoned with who holds now"
    private static void worthByWhoHoldsNow() {
        ParrotTontine x = made("p10 0 0 0;l0 0;l0 0;s0 0 0;s0 0 1;");
        due("each half", x.worth(0, 3), 15000);
        x.sell(1, 0, 0);
        due("all", x.worth(0, 3), 30000);
        due("none", x.worth(1, 3), 0);
        ParrotTontine fixed = made("p10 10 0 0;l100 0;l100 0;s0 0 0;s0 0 1;");
        due("the fixed part is paid to whose life is dead", fixed.worth(0, 20), 100000);
    }

    // "(may be below 0; 0: it is dead)"
    private static void gainOfTheDead() {
        ParrotTontine x = made("p10 0 0 0;l0 0;l0 0;s0 0 0;s0 0 1;");
        due("his own", x.gain(0, 0, 1), -5000);
        due("another's", x.gain(0, 1, 1), 5000);
        x.died(0);
        due("his own, dead", x.gain(0, 0, 1), 0);
        due("his own, dead, to the other", x.gain(1, 0, 20), 0);
        due("the last one, to its holder", x.gain(1, 1, 20), -200000);
        due("the last one, to the other", x.gain(0, 1, 20), 0);
        x.died(1);
        due("all are dead", x.gain(1, 1, 1), 0);
    }

    // "One gains, if that is above 0": by a thousandth, but not by 0
    private static void gainAtNought() {
        ParrotTontine x = made("p20 0 0 0;l99 0;l99 0;s0 0 0;s0 0 1;");
        due("200 less (10000 + 99 20000) / 10000", x.gain(0, 1, 1), 1);
        due("both gain", x.gainers(1), 3);
        due("both would", x.who(0, 50) + x.who(1, 50), 3);
        due("each is nursed by its holder", x.nurse(0, 1), 0);
        due("only where nothing is free it brings nothing", x.terms(1), 10);
        ParrotTontine even = made("p3 0 0 0;l0 0;l0 0;l0 0;s0 0 0;s0 0 1;s0 0 2;");
        due("3 / 2 less 3 / 3, cut", even.gain(0, 1, 1), 0);
        due("nobody gains", even.gainers(1), 0);
        due("nobody would", even.who(1, 50), 0);
        due("the lesser nurses", even.nurse(1, 1), 1);
        due("no terms are needed", even.terms(1), 0);
    }

    // n 2: to who holds the life of 98 20.4 less 19.79, to the other 30.9 less 30.29: by the cut 1 and 0
    private static void gainByACutAlone() {
        String behind = " 0;s0 0 0;s0 0 1;";
        ParrotTontine first = made("p1 0 0 0;l98 0;l97" + behind);
        due("98: the first gains", first.gain(0, 1, 2), 1);
        due("97: the other does not", first.gain(1, 0, 2), 0);
        due("the first alone", first.gainers(2), 1);
        due("terms for the first alone", first.terms(2), 10);
        ParrotTontine other = made("p1 0 0 0;l97 0;l98" + behind);
        due("97: the first does not", other.gain(0, 1, 2), 0);
        due("98: the other gains", other.gain(1, 0, 2), 1);
        due("the other alone", other.gainers(2), 2);
        due("terms for the other alone", other.terms(2), 10);
        due("the first nurses his own", other.nurse(0, 2), 0);
        due("the other his own", other.nurse(1, 2), 1);
    }

    // "n 1 .. 20"
    private static void gainOfAllYears() {
        ParrotTontine x = made("p10 0 0 0;l0 0;l0 0;s0 0 0;s0 0 1;");
        for (int n = 1; n <= 20; n++) {
            due("gain of " + n, x.gain(1, 0, n), 5000L * n);
            due("gainers of " + n, x.gainers(n), 3);
            due("terms of " + n, x.terms(n), 10);
            due("nurse of " + n, x.nurse(1, n), 1);
            due("worth of " + n, x.worth(1, n), 5000L * n);
            due("fair of " + n, x.fair(1, n), 5L * n);
        }
    }

    // "who gain by the death of each LIFE that is alive and not theirs": by all but one is not enough
    private static void gainersOfEach() {
        ParrotTontine x = made("p30 0 0 0;l0 0;l0 0;l0 0;s0 0 0;s0 0 1;");
        due("nobody's death brings nothing", x.gainers(1), 0);
        x.died(2);
        due("the dead do not count", x.gainers(1), 3);
        x.undo();
        x.sell(2, 1, 0);
        due("two to one", x.gainers(1), 3);
        ParrotTontine y = made("p30 0 0 0;l0 0;l100 0;l0 0;s0 0 0;s0 0 1;s0 0 2;");
        due("one dies anyway: its death brings nothing", y.gainers(1), 0);
    }

    // "(there is one at least)"
    private static void gainersWithNoOther() {
        due("one life", made("p9 0 0 0;l0 0;s0 0 0;").gainers(20), 0);
        due("no life", made("p9 0 0 0;").gainers(20), 0);
        ParrotTontine x = made("p9 0 0 0;l0 0;l0 0;s0 0 0;s0 0 1;");
        due("each has another", x.gainers(20), 3);
        x.died(1);
        due("his alone is alive", x.gainers(20), 0);
        x.died(0);
        due("none is alive", x.gainers(20), 0);
    }

    private static void gainersOfAllFive() {
        ParrotTontine x = made("p999 0 0 0;l0 0;l0 0;l0 0;l0 0;l0 0;s0 0 4;s0 0 3;s0 0 2;s0 0 1;s0 0 0;");
        due("all five", x.gainers(20), 31);
        x.died(0);
        due("all whose life is alive", x.gainers(20), 15);
        x.died(4);
        due("the last and the first have none", x.gainers(20), 14);
    }

    // "the least K (0 .. 10)"
    private static void termsFromNoneToAll() {
        String two = "l0 0;l0 0;s0 0 0;s0 0 1;";
        due("V 0", made("p0 7 0 0;" + two).terms(20), 0);
        // a POT of 1 is FREE below K 10: alone he has it
        due("V 1", made("p1 0 0 0;" + two).terms(1), 10);
        due("V 999", made("p999 3 0 0;" + two).terms(20), 10);
        ParrotTontine x = made("p999 3 0 0;" + two);
        x.terms(20);
        due("K stays", x.told(1), 3);
        due("K stays in what is tried", x.gain(0, 1, 1), (299 / 2 + 700) * 1000 - (299 / 2 + 350) * 1000);
        x.died(0);
        due("none to gain by", x.terms(20), 0);
        due("one life", made("p999 0 0 0;l0 0;s0 0 0;").terms(20), 0);
        due("nobody's death", made("p999 0 0 0;l0 0;l0 0;s0 0 0;").terms(20), 0);
        ParrotTontine nobody = made("p999 0 0 0;l0 0;l0 0;l0 0;s0 0 0;");
        nobody.sell(1, 0, 0);
        due("who is nobody gains nothing by what the others hold", nobody.terms(20), 0);
    }

    private static void termsOfTheLeast() {
        String three = " 0 0 0;l0 0;l0 0;l0 0;s0 0 0;s0 0 1;s0 0 2;";
        // a gain is FREE / 2 less FREE / 3 (cut): none by a FREE of 0, 1 or 3
        int[] pots = {1, 2, 3, 4, 5, 6, 10, 20, 100};
        int[] want = {0, 5, 0, 3, 4, 5, 7, 10, 10};
        for (int i = 0; i < pots.length; i++) {
            due("V " + pots[i], made("p" + pots[i] + three).terms(1), want[i]);
        }
    }

    // "no farther from it than d (0 .. 50)", on either side
    private static void whoByDistance() {
        String text = "p9 0 0 0;l0 20;l0 0;l0 0;l0 0;s0 20 1;s0 19 2;s0 22 3;";
        ParrotTontine x = made(text);
        x.sell(0, 2, 0);
        x.sell(3, 0, 0);
        due("0 holds two, 1 one, 2 the life", x.subscriber(0, 2), 10);
        due("d 0", x.who(0, 0), 1);
        due("d 1", x.who(0, 1), 3);
        due("the holder is 2 away", x.who(0, 2), 3);
        due("d 50", x.who(0, 50), 3);
        ParrotTontine far = made("p9 0 0 0;l0 50;l0 0;s0 0 1;s0 50 0;");
        due("49 of 50", far.who(0, 49), 0);
        due("50 of 50", far.who(0, 50), 1);
        due("49 of 50, the other side", far.who(1, 49), 0);
        due("50 of 50, the other side", far.who(1, 50), 2);
        ParrotTontine above = made("p9 0 0 0;l0 20;l0 0;s0 23 1;s0 20 0;");
        due("2 of 3", above.who(0, 2), 0);
        due("3 of 3", above.who(0, 3), 1);
    }

    // "who do not hold it": one may gain by his own LIFE's death
    private static void whoHoldsIt() {
        ParrotTontine x = made("p1 0 0 0;l0 0;l0 0;s0 0 0;");
        x.sell(1, 0, 0);
        due("he gains by it: 1 / 2 twice, 1 alone", x.gain(0, 0, 1), 1000);
        due("but holds it", x.who(0, 50), 0);
        due("nor does his own count", x.gainers(1), 0);
        due("nor in the terms", x.terms(1), 0);
        due("he does not nurse it", x.nurse(0, 1), NONE);
    }

    // "by a LIFE's death (n 1), were it alive now"
    private static void whoOfTheDead() {
        ParrotTontine x = made("p9 0 0 0;l0 0;l0 0;l0 0;s0 0 0;s0 0 1;s0 0 2;");
        due("alive", x.who(0, 50), 6);
        x.died(0);
        due("dead", x.who(0, 50), 6);
        due("it stays dead", x.told(8), 6);
        x.year(30);
        due("long dead", x.who(0, 50), 6);
        x.died(1);
        due("of two dead: 2 would have 9 for 4", x.who(0, 50), 4);
        x.died(2);
        due("all are dead: nobody has any share", x.who(0, 50), 0);
        ParrotTontine first = made("p10 0 0 0;l0 0;l100 0;s0 0 0;s0 0 1;");
        first.guard(0, 1);
        due("it lives by one half: 0 has 7500, else 10000", first.who(1, 50), 1);
        first.year(1);
        due("it dies this year", first.who(1, 50), 0);
    }

    // "(n 1 ..)": of a POT of 3 two have as much each as three; only if the third dies would one have more
    private static void whoInOneYear() {
        ParrotTontine x = made("p3 0 0 0;l0 0;l0 0;l1 0;s0 0 0;s0 0 1;s0 0 2;");
        due("it may die this year", x.who(0, 50), 2);
        x.guard(0, 2);
        due("guarded, not this year", x.life(2, 4), 0);
        due("then nobody gains in one", x.who(0, 50), 0);
        due("though in two 1 does, by 1 / 100 of 2000", x.gain(1, 0, 2), 20);
    }

    private static void whoOfNobodys() {
        ParrotTontine x = made("p9 0 0 0;l0 0;l0 0;s0 0 0;");
        due("nobody's death brings nothing", x.who(1, 50), 0);
        due("nobody else is there", x.who(0, 50), 0);
        due("no subscribers", made("p9 0 0 0;l0 0;").who(0, 0), 0);
    }

    // "for each LIFE alive a SUBSCRIBER (its holder, too) who does not gain by its death"
    private static void nursesOfNoneAndOfAll() {
        ParrotTontine five = made("p999 0 0 0;l0 0;l0 0;l0 0;l0 0;l0 0;s0 0 4;s0 0 3;s0 0 2;s0 0 1;s0 0 0;");
        for (int l = 0; l < 5; l++) {
            due("each has its holder: " + l, five.nurse(l, 20), 4 - l);
        }
        five.died(2);
        due("dead", five.nurse(2, 20), NONE);
        // 2 has nothing to gain any more, and is less than 4 and 3
        due("the lesser", five.nurse(0, 20), 2);
        due("its holder", five.nurse(1, 20), 3);
        due("its holder", five.nurse(3, 20), 1);
        due("its holder", five.nurse(4, 20), 0);
        ParrotTontine none = made("p9 0 0 0;l0 0;");
        due("no subscribers", none.nurse(0, 1), NONE);
        ParrotTontine dead = made("p9 0 0 0;l0 0;s0 0 0;");
        dead.died(0);
        due("none alive", dead.nurse(0, 1), NONE);
    }

    // "no one twice": as many SUBSCRIBERS as LIVES, one more LIFE, one less
    private static void nursesNoOneTwice() {
        String lives = "p0 0 0 0;l0 0;l0 0;l0 0;";
        ParrotTontine two = made(lives + "s0 0 0;s0 0 1;");
        for (int l = 0; l < 3; l++) {
            due("three by two", two.nurse(l, 1), NONE);
        }
        two.died(0);
        due("dead", two.nurse(0, 1), NONE);
        due("two by two", two.nurse(1, 1), 0);
        due("two by two", two.nurse(2, 1), 1);
        two.died(1);
        due("one by two", two.nurse(2, 1), 0);
        ParrotTontine three = made(lives + "s0 0 0;s0 0 1;s0 0 2;");
        for (int l = 0; l < 3; l++) {
            due("three by three", three.nurse(l, 1), l);
        }
    }

    // "the first such (LIFE by LIFE the lesser SUBSCRIBER)"
    private static void nursesInTheFirstWay() {
        // each may nurse his own alone, who holds none alive any: he is first where he may, and last where he must
        ParrotTontine x = made("p90 0 0 0;l0 0;l0 0;l0 0;l0 0;s0 0 3;s0 0 1;s0 0 2;");
        x.died(3);
        x.sell(0, 2, 0);
        due("2 holds 0 and 2: 0 nurses the one", x.nurse(0, 1), 0);
        due("1 his own", x.nurse(1, 1), 1);
        due("2 the other", x.nurse(2, 1), 2);
        ParrotTontine y = made("p90 0 0 0;l0 0;l0 0;l0 0;l0 0;s0 0 3;s0 0 1;s0 0 2;");
        y.died(3);
        y.sell(2, 1, 0);
        y.sell(0, 2, 0);
        // 1 holds 1 and 2: 0 is needed for one of these, so 2 must nurse 0
        due("the lesser would leave one without", y.nurse(0, 1), 2);
        due("then the lesser", y.nurse(1, 1), 0);
        due("the last", y.nurse(2, 1), 1);
        ParrotTontine z = made("p90 0 0 0;l0 0;l0 0;s0 0 0;s0 0 1;");
        z.sell(1, 0, 0);
        // 0 gains by neither of his own (45 twice is 90 alone), 1 by none
        due("0 the first", z.nurse(0, 1), 0);
        due("1 the other", z.nurse(1, 1), 1);
    }

    // 0 is no gain
    private static void nurseWhoGainsNothingJust() {
        ParrotTontine x = made("p3 0 0 0;l0 0;l0 0;l0 0;s0 0 2;s0 0 0;s0 0 1;");
        due("3 / 2 is 3 / 3: the lesser", x.nurse(0, 1), 0);
        due("then the next", x.nurse(1, 1), 1);
        due("then the last", x.nurse(2, 1), 2);
        ParrotTontine y = made("p4 0 0 0;l0 0;l0 0;l0 0;s0 0 2;s0 0 0;s0 0 1;");
        due("4 / 2 is more than 4 / 3: the holder", y.nurse(0, 1), 1);
        due("the holder", y.nurse(1, 1), 2);
        due("the holder", y.nurse(2, 1), 0);
    }

    // "how many; the i-th ..; NONE": there may be no such pair at all
    private static void gameWithoutPair() {
        // harm pays (20 for 15) where 1 does not guard, a guard (20 for 15) where 0 harms; else they bring 10
        ParrotTontine x = made("p100 0 15 15;l0 0;l40 0;s0 0 0;s0 0 1;");
        due("none", x.game(0, 1, 1, NONE), 0);
        due("no first", x.game(0, 1, 1, 0), NONE);
        due("none, turned", x.game(1, 0, 1, NONE), 0);
        due("no first, turned", x.game(1, 0, 1, 0), NONE);
    }

    private static void gameOfAllPairs() {
        ParrotTontine x = made("p0 0 0 0;l50 0;l50 0;s0 0 0;s0 0 1;");
        int[] rising = {0, 1, 2, 10, 11, 12, 20, 21, 22};
        due("nine", x.game(0, 1, 20, NONE), rising.length);
        for (int i = 0; i < rising.length; i++) {
            due("the " + i + "th", x.game(1, 0, 20, i), rising[i]);
        }
        int[] none = {9, 10, -2, Integer.MIN_VALUE, Integer.MAX_VALUE};
        for (int i : none) {
            due("no " + i + "th", x.game(0, 1, 20, i), NONE);
        }
    }

    // "neither has more by doing otherwise": as much is not more; costs are thousandfold
    private static void gameAtEvenCost() {
        // 0 has 50 by a life that never dies, and 50 more by the other's death: harm to it is worth 40 / 100 of 50
        String behind = ";l0 0;l40 0;s0 0 0;s0 0 1;";
        ParrotTontine cheap = made("p100 0 99 19" + behind);
        due("19 for 20", cheap.game(0, 1, 1, NONE), 1);
        due("19 for 20: harm", cheap.game(0, 1, 1, 0), 20);
        ParrotTontine even = made("p100 0 99 20" + behind);
        due("20 for 20", even.game(0, 1, 1, NONE), 2);
        due("20 for 20: nothing", even.game(0, 1, 1, 0), 0);
        due("20 for 20: or harm", even.game(0, 1, 1, 1), 20);
        ParrotTontine dear = made("p100 0 99 21" + behind);
        due("21 for 20", dear.game(0, 1, 1, NONE), 1);
        due("21 for 20: nothing", dear.game(0, 1, 1, 0), 0);
        // 1 has 50 by his own life: a guard of it is worth 20 / 100 of 50
        due("9 for 10: guard", made("p100 0 9 99" + behind).game(0, 1, 1, 0), 1);
        due("10 for 10", made("p100 0 10 99" + behind).game(0, 1, 1, NONE), 2);
        due("11 for 10: nothing", made("p100 0 11 99" + behind).game(0, 1, 1, 0), 0);
    }

    // "what is in PURSES does not matter"
    private static void gameByEmptyPurses() {
        String behind = " 9 19;l0 0;l40 0;s0 0 0;s0 0 1;";
        ParrotTontine poor = made("p100 0" + behind);
        due("harm can't be paid", poor.harm(0, 1), NOT);
        due("a guard can't be paid", poor.guard(1, 1), NOT);
        ParrotTontine rich = made("p100 0 9 19;l0 0;l40 0;s999 0 0;s999 0 1;");
        due("as many", poor.game(0, 1, 1, NONE), rich.game(0, 1, 1, NONE));
        due("the same", poor.game(0, 1, 1, 0), rich.game(0, 1, 1, 0));
        due("both act where it pays: harm brings 10 for 19 beside a guard", poor.game(0, 1, 1, 0), 1);
    }

    // "in the first YEAR; beside GUARDS, HARM that there are"
    private static void gameInTheFirstYear() {
        ParrotTontine x = made("p100 0 0 99;l40 0;l0 0;s0 0 0;s0 0 1;");
        x.guard(0, 0);
        due("guarded already: a guard more is no more", x.game(0, 1, 1, NONE), 4);
        due("the first", x.game(0, 1, 1, 0), 0);
        due("a guard more, for nothing", x.game(0, 1, 1, 2), 10);
        x.harm(0, 1);
        due("harm to what never dies", x.told(10), 0);
        // the guard of the first year is lost in the second: 20 more a year by it, then 60 / 100 as ever
        ParrotTontine y = made("p100 0 10 99;l40 0;l0 0;s0 0 0;s0 0 1;");
        due("n 1: 20 / 100 of 50 for 10, just even", y.game(0, 1, 1, NONE), 2);
        // n 2: 20 / 100 of 50 and 60 / 100 of 50 is 16
        due("n 2: it is worth 16", y.game(0, 1, 2, NONE), 1);
        due("n 2: guard", y.game(0, 1, 2, 0), 10);
        ParrotTontine z = made("p100 0 16 99;l40 0;l0 0;s0 0 0;s0 0 1;");
        due("n 2: 16 for 16, just even", z.game(0, 1, 2, NONE), 2);
    }

    // "who hold a LIFE alive each (the least of theirs)"
    private static void gameOfWhoHoldsNoneAlive() {
        ParrotTontine x = made("p0 0 0 0;l0 0;l0 0;l0 0;s0 0 0;s0 0 1;");
        x.died(0);
        due("the first", x.game(0, 1, 1, NONE), NOT);
        due("the other", x.game(1, 0, 1, NONE), NOT);
        x.sell(2, 0, 0);
        due("he holds another", x.game(0, 1, 1, NONE), 9);
        x.sell(2, 1, 0);
        due("sold", x.game(0, 1, 1, NONE), NOT);
        x.sell(1, 0, 0);
        due("each holds one", x.game(0, 1, 1, NONE), 9);
        due("he himself", x.game(0, 0, 1, NONE), UNKNOWN);
        x.died(1);
        x.died(2);
        due("none alive", x.game(0, 1, 1, NONE), NOT);
    }

    // "FAIR ..: WORTH of n YEARS (0 .. 20)"
    private static void fairOfNoneAndOfMostYears() {
        ParrotTontine x = made("p999 0 0 0;l0 0;s0 0 0;");
        due("n 0", x.fair(0, 0), 0);
        due("n 1", x.fair(0, 1), 999);
        due("n 20", x.fair(0, 20), 19980);
        ParrotTontine fixed = made("p999 10 0 0;l0 0;s0 0 0;");
        due("the fixed part is his anyway", fixed.fair(0, 20), 0);
    }

    // "less what it would be if it were held by nobody, / 1000 (cut)"
    private static void fairIsCutTowardsNought() {
        ParrotTontine x = made("p1 0 0 0;l0 0;l0 0;s0 0 0;");
        x.sell(1, 0, 0);
        due("0 less 1000", x.fair(0, 1), -1);
        ParrotTontine y = made("p1 0 0 0;l25 0;l0 0;s0 0 0;");
        y.sell(1, 0, 0);
        due("250 less 1000, towards 0", y.fair(0, 1), 0);
        due("75 / 100 of 250 and 25 / 100 of 2000, 687, less 2000", y.fair(0, 2), -1);
        ParrotTontine z = made("p1 0 0 0;l1 0;s0 0 0;");
        due("990", z.fair(0, 1), 0);
        due("1970", z.fair(0, 2), 1);
    }

    private static void fairOfTheDead() {
        ParrotTontine x = made("p9 0 0 0;l0 0;l0 0;s0 0 0;");
        due("nobody's", x.fair(1, 20), NOT);
        due("alive", x.fair(0, 20), 180);
        x.died(0);
        due("dead, still held", x.fair(0, 20), 0);
        x.died(1);
        due("dead, nobody's", x.fair(1, 20), NOT);
    }

    // "OUTLIVES: odds that behind n YEARS (0 .. 20) a is alive, b dead"
    private static void outlivesOfNoneAndOfMostYears() {
        ParrotTontine x = made("p0 0 0 0;l0 0;l100 0;l50 0;l1 0;");
        due("n 0", x.outlives(0, 1, 0), 0);
        due("n 0, turned", x.outlives(1, 0, 0), 0);
        due("surely", x.outlives(0, 1, 1), BILLION);
        due("surely not", x.outlives(1, 0, 1), 0);
        due("surely in twenty", x.outlives(0, 1, 20), BILLION);
        due("n 1: b by one half", x.outlives(0, 2, 1), 500000000);
        due("n 1: a by one half", x.outlives(2, 1, 1), 500000000);
        due("n 1: 99 / 100 by one half", x.outlives(3, 2, 1), 495000000);
        due("n 20: a by one half each year", x.outlives(2, 1, 20), 953);
        due("n 20: b by one half each year", x.outlives(0, 2, 20), BILLION - 953);
        due("both never die", made("p0 0 0 0;l0 0;l0 0;").outlives(0, 1, 20), 0);
        due("both die", made("p0 0 0 0;l100 0;l100 0;").outlives(0, 1, 20), 0);
    }

    // "for each YEAR (cut)": by one half a billion is 1953125 behind nine years, then 976562, 488281, 244140, 122070
    private static void outlivesIsCut() {
        ParrotTontine x = made("p0 0 0 0;l50 0;l100 0;l0 0;");
        int[] want = {BILLION, 500000000, 250000000, 125000000, 62500000, 31250000, 15625000, 7812500, 3906250, 1953125,
            976562, 488281, 244140, 122070, 61035, 30517, 15258, 7629, 3814, 1907, 953};
        for (int n = 1; n <= 20; n++) {
            due("a alive, n " + n, x.outlives(0, 1, n), want[n]);
            due("b dead, n " + n, x.outlives(2, 0, n), BILLION - want[n]);
        }
    }
}

import java.util.Arrays;
import java.util.List;

/**
 * REFUSALS: which one is due at either side of each bound, which comes first of several, and that what is refused
 * changes nothing (beside a twin that was not asked).
 */
public final class RefusalsTest {
    private static final int UNKNOWN = ParrotTontine.UNKNOWN;
    private static final int OUTSIDE = ParrotTontine.OUTSIDE;
    private static final int NOT = ParrotTontine.NOT;
    private static final int FULL = ParrotTontine.FULL;
    private static final int LEAST = Integer.MIN_VALUE;
    private static final int MOST = Integer.MAX_VALUE;
    private static final Check CHECK = new Check("RefusalsTest");

    /** How an object comes to be asked; each has a TEXT begun, if there is room. */
    private enum Story {
        /** Lives 0 and 1 are alive and held by 0 and 1; 2 (nobody's) and 3 (of subscriber 2) are dead; IMAGE 1 was not kept. */
        RICH {
            @Override
            ParrotTontine tell() {
                ParrotTontine x = Check.made("p100 2 5 8;l10 3;l50 20;l20 4;l0 40;s30 5 0;s60 18 1;s9 0 3;");
                x.seed(77);
                x.year(1);
                x.died(2);
                x.keep(0);
                x.feed('q');
                x.tontine();
                Check.feedAll(x, "p7 3");
                x.write(0, 57);
                x.write(1, 6);
                x.guard(0, 0);
                x.harm(1, 1);
                x.died(3);
                return x;
            }
        },
        /** All five lives and subscribers, all alive, with purses of 999. */
        WEALTHY {
            @Override
            ParrotTontine tell() {
                ParrotTontine x = Check.made("p0 0 99 99;l1 0;l2 0;l3 0;l4 0;l5 0;"
                        + "s999 0 0;s999 0 1;s999 0 2;s999 0 3;s999 0 4;");
                x.write(0, 999);
                Check.feedAll(x, "p7 3");
                return x;
            }
        },
        /** One less than a guard, than a harm costs. */
        POOR {
            @Override
            ParrotTontine tell() {
                ParrotTontine x = Check.made("p9 0 20 30;l1 0;l2 0;s19 0 0;s29 0 1;");
                Check.feedAll(x, "p7 3");
                return x;
            }
        },
        /** Life 1 is alive and nobody's. */
        FREE {
            @Override
            ParrotTontine tell() {
                ParrotTontine x = Check.made("p9 0 0 0;l1 0;l2 0;s19 0 0;");
                x.seed(3);
                x.drift(1);
                Check.feedAll(x, "p7 3");
                return x;
            }
        },
        NO_POT {
            @Override
            ParrotTontine tell() {
                ParrotTontine x = new ParrotTontine();
                x.seed(5);
                Check.feedAll(x, "p7 3");
                return x;
            }
        },
        NO_POT_TOLD {
            @Override
            ParrotTontine tell() {
                ParrotTontine x = Check.made("p9 0 0 0;l0 0;s9 0 0;");
                x.year(3);
                Check.feedAll(x, "  ");
                x.tontine();
                Check.feedAll(x, "p7 3");
                return x;
            }
        },
        FULL_TEXT {
            @Override
            ParrotTontine tell() {
                ParrotTontine x = Check.made("p9 0 0 0;l1 0;l2 0;s19 0 0;");
                Check.feedAll(x, "p7 3 1 1;l7 8;" + " ".repeat(220 - 14));
                return x;
            }
        },
        FULL_BOOK {
            @Override
            ParrotTontine tell() {
                ParrotTontine x = Check.made("p9 0 0 0;l1 0;l2 0;s19 0 0;");
                for (int i = 0; i < 15; i++) {
                    x.write(0, 19);
                }
                x.year(2);
                Check.feedAll(x, "p7 3");
                return x;
            }
        },
        /** 9001 YEARS, and nothing to undo. */
        LATE {
            @Override
            ParrotTontine tell() {
                ParrotTontine x = Check.made("p1 0 0 0;l0 0;s0 0 0;");
                for (int i = 0; i < 300; i++) {
                    x.year(30);
                }
                x.year(1);
                x.keep(0);
                x.harm(0, 0);
                Check.feedAll(x, "p7 3");
                return x;
            }
        };

        abstract ParrotTontine tell();
    }

    private RefusalsTest() {
    }

    public static void main(String[] args) {
        known();
        inBounds();
        notNow();
        full();
        unknownGoesFirst();
        outsideGoesNext();
        triedChangesNothing();
        CHECK.close();
    }

    private static void refused(Story story, int due, String name, int... args) {
        ParrotTontine x = story.tell();
        ParrotTontine twin = story.tell();
        String call = story + ": " + name + Arrays.toString(args);
        CHECK.due(call, Calls.answer(x, name, args), due);
        List<Integer> is = Sight.through(x);
        CHECK.due(call + " changes nothing", is.equals(Sight.through(twin)) ? 1 : 0, 1);
    }

    private static void taken(Story story, String name, int... args) {
        int answer = Calls.answer(story.tell(), name, args);
        CHECK.due(story + ": " + name + Arrays.toString(args) + " is taken", Calls.isRefusal(answer) ? answer : 0, 0);
    }

    private static int[] with(int[] args, int at, int value) {
        int[] changed = args.clone();
        changed[at] = value;
        return changed;
    }

    /** The least and the greatest are taken, the next on either side and the farthest are OUTSIDE. */
    private static void bounds(Story story, int at, int least, int most, String name, int... args) {
        taken(story, name, with(args, at, least));
        taken(story, name, with(args, at, most));
        refused(story, OUTSIDE, name, with(args, at, least - 1));
        refused(story, OUTSIDE, name, with(args, at, LEAST));
        if (most < MOST) {
            refused(story, OUTSIDE, name, with(args, at, most + 1));
            refused(story, OUTSIDE, name, with(args, at, MOST));
        }
    }

    /** The first and the last of so many are known, those beside them are not. */
    private static void ones(Story story, int at, int count, String name, int... args) {
        for (int one : new int[] {0, count - 1}) {
            int answer = Calls.answer(story.tell(), name, with(args, at, one));
            CHECK.due(name + " knows " + one, answer == UNKNOWN ? 0 : 1, 1);
        }
        for (int none : new int[] {-1, count, 32, 33, LEAST, MOST}) {
            refused(story, UNKNOWN, name, with(args, at, none));
        }
    }

    // "UNKNOWN (a LIFE, SUBSCRIBER, IMAGE that there is not ..)", "what has a number has it from 0 on"
    private static void known() {
        ones(Story.RICH, 0, 4, "life", 0, 2);
        ones(Story.RICH, 0, 3, "subscriber", 0, 0);
        ones(Story.RICH, 0, 4, "died", 0);
        ones(Story.RICH, 0, 3, "guard", 0, 1);
        ones(Story.RICH, 1, 4, "guard", 0, 1);
        ones(Story.RICH, 0, 3, "harm", 0, 0);
        ones(Story.RICH, 1, 4, "harm", 0, 0);
        ones(Story.RICH, 0, 4, "sell", 0, 1, 0);
        ones(Story.RICH, 1, 3, "sell", 0, 1, 0);
        ones(Story.RICH, 0, 3, "worth", 0, 1);
        ones(Story.RICH, 0, 3, "gain", 0, 0, 1);
        ones(Story.RICH, 1, 4, "gain", 0, 0, 1);
        ones(Story.RICH, 0, 4, "who", 0, 1);
        ones(Story.RICH, 0, 4, "nurse", 0, 1);
        ones(Story.RICH, 0, 3, "game", 0, 1, 1, 0);
        ones(Story.RICH, 1, 3, "game", 1, 0, 1, 0);
        ones(Story.RICH, 0, 4, "fair", 0, 1);
        ones(Story.RICH, 0, 4, "outlives", 0, 1, 1);
        ones(Story.RICH, 1, 4, "outlives", 1, 0, 1);
        ones(Story.RICH, 0, 3, "write", 0, 0);
        ones(Story.RICH, 0, 2, "keep", 0);
        ones(Story.RICH, 0, 2, "goBack", 0);
        ones(Story.WEALTHY, 0, 5, "life", 0, 0);
        ones(Story.WEALTHY, 0, 5, "subscriber", 0, 0);
        oneTwice();
        noneKnown();
    }

    // "one twice, where two are asked" (and nowhere else: a SUBSCRIBER and a LIFE may have one number)
    private static void oneTwice() {
        for (int one = 0; one <= 2; one++) {
            refused(Story.RICH, UNKNOWN, "game", one, one, 1, 0);
        }
        for (int one = 0; one <= 3; one++) {
            refused(Story.RICH, UNKNOWN, "outlives", one, one, 1);
        }
        taken(Story.WEALTHY, "gain", 3, 3, 1);
        taken(Story.WEALTHY, "guard", 3, 3);
        taken(Story.WEALTHY, "sell", 2, 1, 0);
    }

    private static void noneKnown() {
        for (Story story : new Story[] {Story.NO_POT, Story.NO_POT_TOLD}) {
            for (String name : new String[] {"life", "subscriber", "guard", "harm", "worth", "who", "nurse", "fair", "write"}) {
                refused(story, UNKNOWN, name, 0, 0);
            }
            refused(story, UNKNOWN, "died", 0);
            refused(story, UNKNOWN, "sell", 0, 0, 0);
            refused(story, UNKNOWN, "gain", 0, 0, 1);
            refused(story, UNKNOWN, "game", 0, 1, 1, 0);
            refused(story, UNKNOWN, "outlives", 0, 1, 1);
        }
    }

    // "OUTSIDE (another number out of its bounds)"
    private static void inBounds() {
        bounds(Story.RICH, 0, 0, 255, "feed", 0);
        bounds(Story.RICH, 0, 0, 13, "told", 0);
        bounds(Story.RICH, 1, 0, 4, "life", 2, 0);
        bounds(Story.RICH, 1, 0, 3, "subscriber", 2, 0);
        bounds(Story.RICH, 0, 1, 30, "year", 1);
        bounds(Story.WEALTHY, 2, 0, 999, "sell", 0, 4, 0);
        bounds(Story.RICH, 0, 1, 30, "drift", 1);
        bounds(Story.RICH, 1, 0, 20, "worth", 0, 0);
        bounds(Story.RICH, 2, 1, 20, "gain", 0, 1, 1);
        bounds(Story.RICH, 2, 1, 20, "gain", 0, 2, 1);
        bounds(Story.RICH, 0, 1, 20, "gainers", 1);
        bounds(Story.RICH, 0, 1, 20, "terms", 1);
        bounds(Story.RICH, 1, 0, 50, "who", 1, 0);
        bounds(Story.RICH, 1, 0, 50, "who", 2, 0);
        bounds(Story.RICH, 1, 1, 20, "nurse", 0, 1);
        bounds(Story.RICH, 1, 1, 20, "nurse", 2, 1);
        bounds(Story.RICH, 2, 1, 20, "game", 0, 1, 1, 0);
        bounds(Story.RICH, 1, 0, 20, "fair", 0, 0);
        bounds(Story.RICH, 2, 0, 20, "outlives", 0, 1, 0);
        bounds(Story.RICH, 1, 0, 999999, "write", 0, 0);
        bounds(Story.RICH, 0, 0, MOST, "seed", 0);
        bounds(Story.NO_POT, 0, 1, 20, "gainers", 1);
        bounds(Story.NO_POT, 0, 1, 20, "terms", 1);
    }

    // "NOT (not now, as told)"
    private static void notNow() {
        for (int n : new int[] {1, 30}) {
            refused(Story.NO_POT, NOT, "year", n);
            refused(Story.NO_POT, NOT, "drift", n);
            refused(Story.NO_POT_TOLD, NOT, "year", n);
            refused(Story.NO_POT_TOLD, NOT, "drift", n);
        }
        for (Story story : new Story[] {Story.WEALTHY, Story.POOR, Story.NO_POT, Story.NO_POT_TOLD}) {
            refused(story, NOT, "undo");
            refused(story, NOT, "goBack", 0);
            refused(story, NOT, "goBack", 1);
        }
        refused(Story.RICH, NOT, "goBack", 1);
        refused(Story.RICH, NOT, "died", 2);
        refused(Story.RICH, NOT, "guard", 1, 2);
        refused(Story.RICH, NOT, "guard", 1, 0);
        refused(Story.RICH, NOT, "guard", 0, 0);
        refused(Story.POOR, NOT, "guard", 0, 0);
        taken(Story.POOR, "guard", 1, 0);
        refused(Story.RICH, NOT, "harm", 0, 3);
        refused(Story.RICH, NOT, "harm", 0, 1);
        refused(Story.RICH, NOT, "harm", 1, 1);
        refused(Story.POOR, NOT, "harm", 1, 0);
        refused(Story.RICH, NOT, "sell", 0, 0, 0);
        refused(Story.RICH, NOT, "sell", 2, 0, 0);
        refused(Story.RICH, NOT, "sell", 3, 2, 0);
        refused(Story.RICH, NOT, "sell", 3, 0, 0);
        refused(Story.POOR, NOT, "sell", 0, 1, 30);
        taken(Story.POOR, "sell", 0, 1, 29);
        refused(Story.RICH, NOT, "game", 2, 0, 1, 0);
        refused(Story.RICH, NOT, "game", 0, 2, 1, -1);
        refused(Story.RICH, NOT, "fair", 2, 0);
        refused(Story.FREE, NOT, "fair", 1, 20);
        taken(Story.RICH, "fair", 3, 1);
        for (int dead : new int[] {2, 3}) {
            refused(Story.RICH, NOT, "outlives", 0, dead, 0);
            refused(Story.RICH, NOT, "outlives", dead, 1, 20);
        }
        refused(Story.RICH, NOT, "outlives", 2, 3, 1);
    }

    private static void full() {
        refused(Story.FULL_TEXT, FULL, "feed", 0);
        refused(Story.FULL_TEXT, FULL, "feed", ' ');
        refused(Story.FULL_TEXT, FULL, "feed", 255);
        refused(Story.FULL_BOOK, FULL, "write", 0, 0);
        refused(Story.FULL_BOOK, FULL, "write", 0, 999999);
        for (int n : new int[] {1, 30}) {
            refused(Story.LATE, FULL, "year", n);
            refused(Story.LATE, FULL, "drift", n);
        }
    }

    // "of several the first in this order"
    private static void unknownGoesFirst() {
        refused(Story.RICH, UNKNOWN, "life", 4, 5);
        refused(Story.RICH, UNKNOWN, "life", -1, -1);
        refused(Story.RICH, UNKNOWN, "subscriber", 3, 4);
        refused(Story.RICH, UNKNOWN, "subscriber", -1, -1);
        refused(Story.RICH, UNKNOWN, "guard", 3, 2);
        refused(Story.RICH, UNKNOWN, "guard", 3, 0);
        refused(Story.POOR, UNKNOWN, "guard", 0, 2);
        refused(Story.RICH, UNKNOWN, "harm", 3, 2);
        refused(Story.RICH, UNKNOWN, "harm", 3, 1);
        refused(Story.POOR, UNKNOWN, "harm", 1, 2);
        refused(Story.RICH, UNKNOWN, "sell", 4, 0, 1000);
        refused(Story.RICH, UNKNOWN, "sell", 0, 3, -1);
        refused(Story.RICH, UNKNOWN, "sell", 2, 3, 0);
        refused(Story.POOR, UNKNOWN, "sell", 2, 0, 20);
        refused(Story.RICH, UNKNOWN, "worth", 3, 21);
        refused(Story.RICH, UNKNOWN, "gain", 3, 0, 0);
        refused(Story.RICH, UNKNOWN, "gain", 0, 4, 21);
        refused(Story.RICH, UNKNOWN, "gain", 3, 2, 1);
        refused(Story.RICH, UNKNOWN, "who", 4, 51);
        refused(Story.RICH, UNKNOWN, "nurse", 4, 0);
        refused(Story.RICH, UNKNOWN, "game", 3, 0, 0, 0);
        refused(Story.RICH, UNKNOWN, "game", 0, 3, 21, 0);
        refused(Story.RICH, UNKNOWN, "game", 0, 0, 0, 0);
        refused(Story.RICH, UNKNOWN, "game", 2, 2, 1, 0);
        refused(Story.RICH, UNKNOWN, "game", 2, 3, 1, 0);
        refused(Story.RICH, UNKNOWN, "fair", 4, 21);
        refused(Story.RICH, UNKNOWN, "outlives", 4, 0, 21);
        refused(Story.RICH, UNKNOWN, "outlives", 0, 4, -1);
        refused(Story.RICH, UNKNOWN, "outlives", 1, 1, 21);
        refused(Story.RICH, UNKNOWN, "outlives", 2, 2, 1);
        refused(Story.RICH, UNKNOWN, "outlives", 2, 4, 1);
        refused(Story.RICH, UNKNOWN, "write", 3, -1);
        refused(Story.FULL_BOOK, UNKNOWN, "write", 1, 0);
        refused(Story.FULL_BOOK, UNKNOWN, "write", 1, 1000000);
        refused(Story.NO_POT, UNKNOWN, "goBack", 2);
        refused(Story.NO_POT, UNKNOWN, "goBack", -1);
    }

    private static void outsideGoesNext() {
        for (int n : new int[] {0, 31, LEAST, MOST}) {
            refused(Story.NO_POT, OUTSIDE, "year", n);
            refused(Story.NO_POT, OUTSIDE, "drift", n);
            refused(Story.LATE, OUTSIDE, "year", n);
            refused(Story.LATE, OUTSIDE, "drift", n);
        }
        refused(Story.RICH, OUTSIDE, "sell", 2, 0, 1000);
        refused(Story.RICH, OUTSIDE, "sell", 0, 0, -1);
        refused(Story.POOR, OUTSIDE, "sell", 0, 1, 1000);
        refused(Story.RICH, OUTSIDE, "game", 2, 0, 0, 0);
        refused(Story.RICH, OUTSIDE, "game", 0, 2, 21, -1);
        refused(Story.RICH, OUTSIDE, "fair", 2, 21);
        refused(Story.RICH, OUTSIDE, "fair", 2, -1);
        refused(Story.RICH, OUTSIDE, "outlives", 2, 0, 21);
        refused(Story.RICH, OUTSIDE, "outlives", 0, 3, -1);
        refused(Story.FULL_TEXT, OUTSIDE, "feed", 256);
        refused(Story.FULL_TEXT, OUTSIDE, "feed", -1);
        refused(Story.FULL_BOOK, OUTSIDE, "write", 0, 1000000);
        refused(Story.FULL_BOOK, OUTSIDE, "write", 0, -1);
    }

    // "TRIED from now; nothing changes by it", and what is only asked changes nothing either
    private static void triedChangesNothing() {
        for (Story story : new Story[] {Story.RICH, Story.WEALTHY, Story.FREE}) {
            ParrotTontine x = story.tell();
            tryAll(x);
            CHECK.due(story + " is as it was", Sight.through(x).equals(Sight.through(story.tell())) ? 1 : 0, 1);
        }
    }

    private static void tryAll(ParrotTontine x) {
        for (int l = 0; l < 2; l++) {
            for (int n : new int[] {1, 20}) {
                x.worth(0, n);
                x.gain(0, l, n);
                x.gainers(n);
                x.terms(n);
                x.who(l, 50);
                x.nurse(l, n);
                x.game(l, 1 - l, n, -1);
                x.game(l, 1 - l, n, 0);
                x.fair(l, n);
                x.outlives(l, 1 - l, n);
            }
        }
        x.who(2, 50);
        x.worth(0, 0);
        x.fair(0, 0);
    }
}

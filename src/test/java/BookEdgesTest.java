/** Promises 24 to 29: each bound of THE BOOK, THE SEED and the IMAGES. */
public final class BookEdgesTest {
    private static final int NONE = ParrotTontine.NONE;
    private static final int UNKNOWN = ParrotTontine.UNKNOWN;
    private static final int OUTSIDE = ParrotTontine.OUTSIDE;
    private static final int NOT = ParrotTontine.NOT;
    private static final int FULL = ParrotTontine.FULL;
    private static final int MOST_ENTRIES = 15;
    private static final int MOST_PURSE = 999999;
    private static final String TEXT = "p10 0 2 3;l50 1;l20 2;s20 0 0;s7 50 1;";
    private static final Check CHECK = new Check("BookEdgesTest");

    private BookEdgesTest() {
    }

    public static void main(String[] args) {
        emptyBook();
        fullBook();
        pursesOfTheBook();
        firstWrong();
        wrongByOne();
        wrongBySubscriber();
        bookStays();
        seedAtFirst();
        seedBounds();
        seedStays();
        imagesKeepAll();
        imagesOfEither();
        imageKeptAgain();
        imagesWithoutPot();
        imagesAreGone();
        nothingToUndoThen();
        CHECK.close();
    }

    private static ParrotTontine made() {
        return Check.made(TEXT);
    }

    private static void due(String call, long got, long want) {
        CHECK.due(call, got, want);
    }

    private static void emptyBook() {
        ParrotTontine x = made();
        due("no entry", x.told(12), 0);
        due("none is wrong", x.judge(), NONE);
        due("tear none", x.tear(), 0);
        due("the first", x.write(0, 20), 1);
        due("tear one", x.tear(), 1);
        due("tear none again", x.tear(), 0);
        due("none is wrong", x.judge(), NONE);
    }

    // "THE BOOK (15 at most)", "FULL (15)"
    private static void fullBook() {
        ParrotTontine x = made();
        for (int i = 1; i < MOST_ENTRIES; i++) {
            due("write", x.write(0, 20), i);
        }
        due("the last", x.write(1, 8), MOST_ENTRIES);
        due("full", x.write(0, 20), FULL);
        due("full", x.told(12), MOST_ENTRIES);
        due("the last is the first that is wrong", x.judge(), MOST_ENTRIES - 1);
        due("tear all", x.tear(), MOST_ENTRIES);
        for (int i = 1; i <= MOST_ENTRIES; i++) {
            due("write anew", x.write(0, 20), i);
        }
        due("none of them is wrong", x.judge(), NONE);
        due("full anew", x.write(0, 20), FULL);
    }

    // "(0 .. 999999)"
    private static void pursesOfTheBook() {
        ParrotTontine x = Check.made("p999 10 0 0;l0 0;l0 0;s0 0 0;s0 0 1;");
        due("0", x.write(0, 0), 1);
        due("-1", x.write(0, -1), OUTSIDE);
        due("1000000", x.write(0, MOST_PURSE + 1), OUTSIDE);
        due("999999", x.write(1, MOST_PURSE), 2);
        due("0 is so", x.judge(), 1);
        x.tear();
        for (int i = 0; i < 67; i++) {
            x.year(30);
        }
        due("it is full", x.subscriber(0, 0), MOST_PURSE);
        x.write(0, MOST_PURSE);
        due("999999 is so", x.judge(), NONE);
    }

    // "WRONG: the first that is otherwise now"
    private static void firstWrong() {
        ParrotTontine x = made();
        x.write(0, 21);
        due("the first", x.judge(), 0);
        x.write(1, 7);
        due("still the first", x.judge(), 0);
        x.tear();
        x.write(1, 7);
        x.write(0, 20);
        due("none", x.judge(), NONE);
        x.write(1, 9);
        x.write(0, 9);
        due("the first of two", x.judge(), 2);
        x.sell(0, 1, 2);
        due("it is otherwise now", x.judge(), 0);
        x.undo();
        due("as it was", x.judge(), 2);
    }

    private static void wrongByOne() {
        for (int told : new int[] {19, 20, 21}) {
            ParrotTontine x = made();
            x.write(0, told);
            due("20 told as " + told, x.judge(), told == 20 ? NONE : 0);
        }
    }

    private static void wrongBySubscriber() {
        ParrotTontine x = made();
        x.write(1, 20);
        due("the other's purse", x.judge(), 0);
        ParrotTontine five = Check.made("p0 0 0 0;l0 0;l0 0;l0 0;l0 0;l0 0;s1 0 0;s2 0 1;s3 0 2;s4 0 3;s5 0 4;");
        for (int s = 0; s < 5; s++) {
            due("write", five.write(s, s + 1), s + 1);
        }
        due("each his own", five.judge(), NONE);
        five.write(4, 4);
        due("the last", five.judge(), 5);
    }

    // it is neither undone, nor in an IMAGE
    private static void bookStays() {
        ParrotTontine x = made();
        x.year(1);
        x.write(0, 20);
        x.keep(0);
        x.write(0, 25);
        x.goBack(0);
        due("the image brings no book", x.told(12), 2);
        due("the first is wrong", x.judge(), 0);
        x.year(1);
        x.write(0, 1);
        x.undo();
        due("undone, but the book", x.told(12), 3);
        x.tear();
        x.goBack(0);
        due("torn for good", x.told(12), 0);
    }

    // "THE SEED (0 at first ..)"
    private static void seedAtFirst() {
        due("0 at first", new ParrotTontine().seed(0), 0);
        ParrotTontine x = made();
        due("0 with a pot", x.seed(1), 0);
        x.seed(0);
        x.drift(1);
        // two lives: two DRAWS
        due("two draws on", x.seed(0), 1406932606);
    }

    // "(0 .. 2147483647): what it was"
    private static void seedBounds() {
        ParrotTontine x = new ParrotTontine();
        due("the greatest", x.seed(2147483647), 0);
        due("the least", x.seed(0), 2147483647);
        due("1", x.seed(1), 0);
        due("-1", x.seed(-1), OUTSIDE);
        due("the farthest", x.seed(Integer.MIN_VALUE), OUTSIDE);
        due("as it was", x.seed(0), 1);
    }

    // by a year(), an undo(), a tontine() it stays
    private static void seedStays() {
        ParrotTontine x = made();
        x.seed(9);
        x.year(30);
        due("year", x.seed(9), 9);
        x.drift(1);
        int drawn = x.seed(0);
        x.seed(drawn);
        x.undo();
        due("undo", x.seed(drawn), drawn);
        Check.feedAll(x, TEXT);
        x.tontine();
        due("tontine", x.seed(drawn), drawn);
        x.feed('q');
        x.tontine();
        due("a text with a fault", x.seed(drawn), drawn);
        x.tontine();
        due("an empty text", x.seed(drawn), drawn);
    }

    private static ParrotTontine busy() {
        ParrotTontine x = made();
        x.seed(41);
        x.year(3);
        x.guard(0, 1);
        x.harm(1, 0);
        x.sell(1, 0, 6);
        x.died(0);
        return x;
    }

    // "IMAGES 0, 1 keep these, THE SEED": PURSES, who is alive, who holds, GUARDS, HARM, YEARS
    private static void imagesKeepAll() {
        for (int image = 0; image <= 1; image++) {
            ParrotTontine x = busy();
            due("keep", x.keep(image), 1);
            x.drift(30);
            x.sell(1, 1, 1);
            x.died(1);
            x.seed(1);
            due("goBack", x.goBack(image), 1);
            ParrotTontine twin = busy();
            twin.keep(image);
            due("all is as it was kept", Sight.through(x).equals(Sight.through(twin)) ? 1 : 0, 1);
            ParrotTontine y = busy();
            y.keep(image);
            y.year(1);
            y.goBack(image);
            due("the seed", y.seed(0), 41);
            due("years", y.told(7), 3);
            due("alive", y.told(8), 2);
            due("guarded", y.told(9), 2);
            due("harmed", y.told(10), 1);
            due("purses", y.told(11), 27 + 30 - 5);
            due("sold", y.subscriber(0, 2), 3);
        }
    }

    // each by itself, again and again
    private static void imagesOfEither() {
        ParrotTontine x = made();
        x.seed(5);
        x.keep(0);
        x.year(1);
        x.seed(6);
        x.keep(1);
        x.year(1);
        for (int i = 0; i < 2; i++) {
            x.goBack(0);
            due("image 0", x.told(7), 0);
            due("its seed", x.seed(99), 5);
            x.year(7);
            x.goBack(1);
            due("image 1", x.told(7), 1);
            due("its seed", x.seed(98), 6);
            x.died(0);
        }
        due("what is so stays what it is", x.told(8), 2);
    }

    private static void imageKeptAgain() {
        ParrotTontine x = made();
        x.keep(0);
        x.year(4);
        x.keep(0);
        x.year(1);
        x.goBack(0);
        due("the later", x.told(7), 4);
        due("the other was not kept", x.goBack(1), NOT);
        due("no third", x.keep(2), UNKNOWN);
        due("none below", x.keep(-1), UNKNOWN);
        due("no third", x.goBack(2), UNKNOWN);
        due("none below", x.goBack(-1), UNKNOWN);
    }

    private static void imagesWithoutPot() {
        ParrotTontine x = new ParrotTontine();
        due("not kept", x.goBack(0), NOT);
        x.seed(3);
        due("kept", x.keep(0), 1);
        x.seed(4);
        due("back", x.goBack(0), 1);
        due("its seed", x.seed(0), 3);
        due("still no pot", x.year(1), NOT);
    }

    // a new TONTINE has none; a text with a FAULT leaves them
    private static void imagesAreGone() {
        ParrotTontine x = made();
        x.keep(0);
        x.keep(1);
        x.year(1);
        x.feed('q');
        x.tontine();
        due("a fault leaves 0", x.goBack(0) == 1 ? x.told(7) : NOT, 0);
        due("a fault leaves 1", x.goBack(1), 1);
        Check.feedAll(x, TEXT);
        x.tontine();
        due("0 is gone", x.goBack(0), NOT);
        due("1 is gone", x.goBack(1), NOT);
        x.keep(1);
        due("0 is still gone", x.goBack(0), NOT);
        x.tontine();
        due("1 is gone by an empty text", x.goBack(1), NOT);
    }

    // "(nothing can be undone then)"; by what is refused it can
    private static void nothingToUndoThen() {
        ParrotTontine x = made();
        x.year(1);
        x.year(1);
        x.keep(2);
        x.goBack(0);
        x.goBack(-1);
        due("refused", x.told(13), 2);
        x.keep(0);
        due("kept", x.told(13), 0);
        due("kept", x.undo(), NOT);
        x.year(1);
        due("one behind it", x.told(13), 1);
        x.goBack(0);
        due("gone back", x.told(13), 0);
        due("gone back", x.undo(), NOT);
        due("years", x.told(7), 2);
        x.year(1);
        due("one behind it", x.undo(), 0);
        due("years", x.told(7), 2);
    }
}

/** What all tests share: a count of what was not as due, and texts fed whole. */
final class Check {
    private final String name;
    private int wrong;
    private int asked;

    Check(String name) {
        this.name = name;
    }

    void due(String call, long got, long want) {
        asked++;
        if (got != want) {
            wrong++;
            if (wrong <= 20) {
                System.out.println(name + ": " + call + " answered " + got + ", due is " + want);
            }
        }
    }

    /** Ends the program with 1 if anything was not as due, or nothing was asked. */
    void close() {
        System.out.println(name + ": " + asked + " answers, " + wrong + " not as due");
        if (wrong != 0 || asked == 0) {
            System.exit(1);
        }
    }

    static void feedAll(ParrotTontine x, String text) {
        for (int i = 0; i < text.length(); i++) {
            x.feed(text.charAt(i));
        }
    }

    /** A new object with this TONTINE, which must have no FAULT. */
    static ParrotTontine made(String text) {
        ParrotTontine x = new ParrotTontine();
        feedAll(x, text);
        if (x.tontine() < 0) {
            throw new IllegalStateException("the test's own text has a fault: " + text);
        }
        return x;
    }
}

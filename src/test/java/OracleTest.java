import java.util.Random;

/** Random runs of calls (the same ones each time) on the program and on the Oracle: all answers are the same. */
public final class OracleTest {
    private static final int RUNS = 700;
    private static final String[] DONE = {"year", "died", "guard", "harm", "sell", "drift", "undo"};
    private static final String[] TRIED =
            {"worth", "gain", "gainers", "terms", "who", "nurse", "game", "fair", "outlives"};
    private static final String[] TOLD = {"fault", "told", "life", "subscriber"};
    private static final String[] BOOKS = {"write", "tear", "judge", "seed", "keep", "goBack"};
    private static final int[] FAR = {Integer.MIN_VALUE, Integer.MAX_VALUE, -1000, 1000000, -2, 101, 1000};

    private final Check check = new Check("OracleTest");
    private final Random random;
    private ParrotTontine x;
    private Oracle oracle;
    private int calls;
    private StringBuilder said;

    private OracleTest(long seed) {
        random = new Random(seed);
    }

    public static void main(String[] args) {
        OracleTest test = new OracleTest(args.length > 0 ? Long.parseLong(args[0]) : 20261118L);
        int runs = args.length > 1 ? Integer.parseInt(args[1]) : RUNS;
        for (int run = 0; run < runs; run++) {
            test.run(run);
        }
        test.check.close();
    }

    private void run(int run) {
        x = new ParrotTontine();
        oracle = new Oracle();
        calls = 0;
        said = new StringBuilder();
        if (random.nextInt(10) == 0) {
            some(5);
        }
        tell(text(run % 5 == 4));
        int left = 40 + random.nextInt(60);
        for (int i = 0; i < left && calls < 500; i++) {
            some(1);
            if (random.nextInt(60) == 0) {
                tell(text(random.nextInt(3) == 0));
            }
        }
    }

    private int upTo(int most) {
        return random.nextInt(most + 1);
    }

    private void tell(String text) {
        for (int i = 0; i < text.length() && calls < 500; i++) {
            ask("feed", text.charAt(i));
        }
        said.append('"').append(text).append('"');
        ask("tontine");
        ask("fault");
    }

    private String text(boolean faulty) {
        StringBuilder t = new StringBuilder();
        int[] pots = {0, 1, 2, 3, 7, 10, upTo(40), upTo(999), 999};
        clause(t, 'p', pots[upTo(8)], upTo(2) == 0 ? 0 : upTo(10), upTo(2) == 0 ? 0 : upTo(99), upTo(2) == 0 ? 0 : upTo(20));
        int lives = 1 + upTo(4);
        int subscribers = 0;
        java.util.List<Integer> free = new java.util.ArrayList<>();
        for (int l = 0; l < lives; l++) {
            int[] chances = {0, 100, 50, 1, upTo(100), upTo(100), upTo(20)};
            clause(t, 'l', chances[upTo(6)], upTo(50));
            free.add(l);
            while (!free.isEmpty() && upTo(2) != 0) {
                clause(t, 's', upTo(999), upTo(50), free.remove(upTo(free.size() - 1)));
                subscribers++;
            }
        }
        if (subscribers < lives && upTo(3) == 0 && faulty) {
            clause(t, 's', 1, 1, upTo(4));
        }
        if (faulty) {
            spoil(t);
        }
        return t.substring(0, Math.min(t.length(), 230));
    }

    private void clause(StringBuilder t, char word, int... numbers) {
        blanks(t, 8);
        t.append(word);
        for (int i = 0; i < numbers.length; i++) {
            if (i > 0) {
                t.append(' ');
            }
            blanks(t, 8);
            t.append(upTo(20) == 0 ? String.format("%03d", numbers[i]) : String.valueOf(numbers[i]));
        }
        blanks(t, 8);
        t.append(';');
        blanks(t, 20);
    }

    private void blanks(StringBuilder t, int seldom) {
        if (upTo(seldom) == 0) {
            t.append(' ');
        }
    }

    private void spoil(StringBuilder t) {
        String signs = "plsq;;  0123456789-x\n";
        int often = upTo(2);
        for (int i = 0; i < often && t.length() > 0; i++) {
            int at = upTo(t.length() - 1);
            char sign = signs.charAt(upTo(signs.length() - 1));
            switch (upTo(4)) {
                case 0: t.setCharAt(at, sign); break;
                case 1: t.insert(at, sign); break;
                case 2: t.deleteCharAt(at); break;
                case 3: t.setLength(at); break;
                default: t.append(sign).append("1 1 1;"); break;
            }
        }
    }

    private void some(int times) {
        for (int i = 0; i < times; i++) {
            int kind = upTo(9);
            String[] names = kind < 4 ? DONE : kind < 8 ? TRIED : kind < 9 ? TOLD : BOOKS;
            String name = names[upTo(names.length - 1)];
            // long times seldom: the Oracle is slow
            askAnyhow(name);
        }
    }

    private int near(int most) {
        int far = random.nextInt(40);
        return far < FAR.length && far % 4 == 0 ? FAR[far] : random.nextInt(most + 2) - (random.nextInt(12) == 0 ? 1 : 0);
    }

    private int tried() {
        int kind = upTo(20);
        return kind == 0 ? 20 : kind == 1 ? near(20) : kind == 2 ? 21 : upTo(5);
    }

    private int one() {
        return upTo(15) == 0 ? near(5) : upTo(Math.max(0, x.told(4) - 1));
    }

    private int any() {
        return upTo(15) == 0 ? near(5) : upTo(Math.max(0, x.told(5) - 1));
    }

    private void askAnyhow(String name) {
        switch (name) {
            case "told": ask(name, near(14)); break;
            case "life": ask(name, one(), near(4)); break;
            case "subscriber": ask(name, any(), near(3)); break;
            case "year": case "drift": ask(name, upTo(3) == 0 ? near(30) : 1 + upTo(2)); break;
            case "died": ask(name, upTo(2) == 0 ? one() : near(30)); break;
            case "guard": case "harm": ask(name, any(), one()); break;
            case "sell": ask(name, one(), any(), upTo(2) == 0 ? near(999) : upTo(30)); break;
            case "worth": ask(name, any(), tried()); break;
            case "gain": ask(name, any(), one(), tried()); break;
            case "gainers": case "terms": ask(name, tried()); break;
            case "who": ask(name, one(), near(50)); break;
            case "nurse": case "fair": ask(name, one(), tried()); break;
            case "game": ask(name, any(), any(), tried(), near(5) - 1); break;
            case "outlives": ask(name, one(), one(), tried()); break;
            case "write": int s = any(); ask(name, s, upTo(1) == 0 ? Math.max(0, x.subscriber(s, 0)) : near(999999)); break;
            case "seed": ask(name, upTo(3) == 0 ? near(100) : random.nextInt() >>> 1); break;
            case "keep": case "goBack": ask(name, near(1)); break;
            default: ask(name); break;
        }
    }

    private void ask(String name, int... a) {
        calls++;
        if (!name.equals("feed")) {
            said.append(' ').append(name).append(java.util.Arrays.toString(a));
        }
        int want = oracle.call(name, a);
        int got = Calls.answer(x, name, a);
        check.due(got == want ? name : "calls:" + said, got, want);
        for (int what = 0; what <= 13; what++) {
            int is = x.told(what);
            int due = oracle.call("told", what);
            check.due(is == due ? "told" : "told " + what + " behind:" + said, is, due);
        }
    }
}

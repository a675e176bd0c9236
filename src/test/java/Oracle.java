import java.math.BigInteger;
import java.util.ArrayDeque;
import java.util.ArrayList;
import java.util.Arrays;
import java.util.Deque;
import java.util.HashMap;
import java.util.List;
import java.util.Map;
import java.util.TreeSet;

/**
 * The document written down a second time, as literally and as unlike the program as can be: sets as sets,
 * WORTH by recursion over all SETS with their whole products, the first FAULT by tokens, refusals by exceptions.
 */
final class Oracle {
    static final int NONE = -1, UNKNOWN = -2000000001, OUTSIDE = -2000000002, NOT = -2000000003, FULL = -2000000004;

    private static final class Refused extends RuntimeException {
        private static final long serialVersionUID = 1L;
        final int by;

        Refused(int by) {
            super(null, null, false, false);
            this.by = by;
        }
    }

    private static final class Life {
        int q;
        int x;
        boolean alive = true;
        boolean guarded;
        boolean harmed;
        int holder = NONE;

        Life copy() {
            Life l = new Life();
            l.q = q;
            l.x = x;
            l.alive = alive;
            l.guarded = guarded;
            l.harmed = harmed;
            l.holder = holder;
            return l;
        }

        int chance() {
            if (guarded && harmed) {
                return q;
            }
            if (guarded) {
                return q / 2;
            }
            return harmed ? Math.min(100, q * 2) : q;
        }
    }

    private static final class World {
        final List<Life> lives = new ArrayList<>();
        final List<Integer> purses = new ArrayList<>();
        int years;
        long seed;

        World copy() {
            World w = new World();
            for (Life l : lives) {
                w.lives.add(l.copy());
            }
            w.purses.addAll(purses);
            w.years = years;
            w.seed = seed;
            return w;
        }
    }

    private final StringBuilder text = new StringBuilder();
    private int fault = NONE;
    private int[] pot;
    private List<Integer> places = new ArrayList<>();
    private World world = new World();
    private Deque<World> past = new ArrayDeque<>();
    private final World[] images = new World[2];
    private final List<int[]> book = new ArrayList<>();

    int call(String name, int... a) {
        try {
            switch (name) {
                case "feed": return feed(a[0]);
                case "tontine": return tontine();
                case "fault": return fault;
                case "told": return told(a[0]);
                case "life": return life(a[0], a[1]);
                case "subscriber": return subscriber(a[0], a[1]);
                case "year": return years(a[0], false);
                case "died": return died(a[0]);
                case "guard": return touch(a[0], a[1], true);
                case "harm": return touch(a[0], a[1], false);
                case "sell": return sell(a[0], a[1], a[2]);
                case "drift": return years(a[0], true);
                case "undo": return undo();
                case "worth": return worthCall(a[0], a[1]);
                case "gain": return gainCall(a[0], a[1], a[2]);
                case "gainers": return gainers(a[0]);
                case "terms": return terms(a[0]);
                case "who": return who(a[0], a[1]);
                case "nurse": return nurse(a[0], a[1]);
                case "game": return game(a[0], a[1], a[2], a[3]);
                case "fair": return fair(a[0], a[1]);
                case "outlives": return outlives(a[0], a[1], a[2]);
                case "write": return write(a[0], a[1]);
                case "tear": return tear();
                case "judge": return judge();
                case "seed": return seed(a[0]);
                case "keep": return keep(a[0]);
                case "goBack": return goBack(a[0]);
                default: throw new IllegalArgumentException(name);
            }
        } catch (Refused r) {
            return r.by;
        }
    }

    private static void refuseIf(boolean so, int by) {
        if (so) {
            throw new Refused(by);
        }
    }

    private void needLife(int l) {
        refuseIf(l < 0 || l >= world.lives.size(), UNKNOWN);
    }

    private void needSubscriber(int s) {
        refuseIf(s < 0 || s >= world.purses.size(), UNKNOWN);
    }

    private static void needIn(int v, int least, int most) {
        refuseIf(v < least || v > most, OUTSIDE);
    }

    // ---- the tontine

    private int feed(int letter) {
        needIn(letter, 0, 255);
        refuseIf(text.length() == 220, FULL);
        text.append((char) letter);
        return text.length();
    }

    /** A run of figures, another letter, or the end. */
    private record Token(int at, String says) {
        boolean isNumber() {
            return !says.isEmpty() && Character.isDigit(says.charAt(0));
        }
    }

    private static List<Token> tokens(String t) {
        List<Token> all = new ArrayList<>();
        int i = 0;
        while (i < t.length()) {
            int from = i;
            if (t.charAt(i) >= '0' && t.charAt(i) <= '9') {
                while (i < t.length() && t.charAt(i) >= '0' && t.charAt(i) <= '9') {
                    i++;
                }
                all.add(new Token(from, t.substring(from, i)));
            } else {
                if (t.charAt(i) != ' ') {
                    all.add(new Token(i, t.substring(i, i + 1)));
                }
                i++;
            }
        }
        all.add(new Token(t.length(), ""));
        return all;
    }

    private static final class Fault extends Exception {
        private static final long serialVersionUID = 1L;
        final int kind;
        final int at;

        Fault(int kind, int at) {
            super(null, null, false, false);
            this.kind = kind;
            this.at = at;
        }
    }

    private static int number(Token t, int most) throws Fault {
        if (!t.isNumber()) {
            throw new Fault(1, t.at());
        }
        if (t.says().length() > 3 || Integer.parseInt(t.says()) > most) {
            throw new Fault(2, t.at());
        }
        return Integer.parseInt(t.says());
    }

    private static final Map<String, int[]> BOUNDS =
            Map.of("p", new int[] {999, 10, 99, 99}, "l", new int[] {100, 50}, "s", new int[] {999, 50, 999});

    private int tontine() {
        String t = text.toString();
        text.setLength(0);
        fault = NONE;
        int[] newPot = null;
        World made = new World();
        List<Integer> at = new ArrayList<>();
        try {
            List<Token> all = tokens(t);
            int i = 0;
            while (all.get(i).at() < t.length()) {
                Token word = all.get(i++);
                int[] bounds = BOUNDS.get(word.says());
                if (bounds == null || (newPot == null) != word.says().equals("p") && newPot == null) {
                    throw new Fault(1, word.at());
                }
                if (word.says().equals("p") && newPot != null || word.says().equals("l") && made.lives.size() == 5
                        || word.says().equals("s") && made.purses.size() == 5) {
                    throw new Fault(3, word.at());
                }
                int[] got = new int[bounds.length];
                for (int k = 0; k < bounds.length; k++) {
                    boolean isLife = word.says().equals("s") && k == 2;
                    got[k] = number(all.get(i), isLife ? made.lives.size() - 1 : bounds[k]);
                    if (isLife && made.lives.get(got[k]).holder != NONE) {
                        throw new Fault(4, all.get(i).at());
                    }
                    i++;
                }
                if (!all.get(i).says().equals(";")) {
                    throw new Fault(1, all.get(i).at());
                }
                i++;
                if (word.says().equals("p")) {
                    newPot = got;
                } else if (word.says().equals("l")) {
                    Life l = new Life();
                    l.q = got[0];
                    l.x = got[1];
                    made.lives.add(l);
                } else {
                    made.lives.get(got[2]).holder = made.purses.size();
                    made.purses.add(got[0]);
                    at.add(got[1]);
                }
            }
        } catch (Fault f) {
            fault = f.at;
            return -10 - f.kind;
        }
        made.seed = world.seed;
        world = made;
        pot = newPot;
        places = at;
        past.clear();
        book.clear();
        Arrays.fill(images, null);
        return world.lives.size();
    }

    private int potAt(int i) {
        return pot == null ? 0 : pot[i];
    }

    private int sumOfPurses() {
        return world.purses.stream().mapToInt(Integer::intValue).sum();
    }

    private int told(int what) {
        needIn(what, 0, 13);
        int alive = 0;
        int guarded = 0;
        int harmed = 0;
        for (int l = 0; l < world.lives.size(); l++) {
            alive += world.lives.get(l).alive ? 1 << l : 0;
            guarded += world.lives.get(l).guarded ? 1 << l : 0;
            harmed += world.lives.get(l).harmed ? 1 << l : 0;
        }
        int[] all = {potAt(0), potAt(1), potAt(2), potAt(3), world.lives.size(), world.purses.size(), text.length(),
            world.years, alive, guarded, harmed, sumOfPurses(), book.size(), past.size()};
        return all[what];
    }

    private int life(int l, int what) {
        needLife(l);
        needIn(what, 0, 4);
        Life it = world.lives.get(l);
        return new int[] {it.q, it.x, it.alive ? 1 : 0, it.holder, it.alive ? it.chance() : 0}[what];
    }

    private int subscriber(int s, int what) {
        needSubscriber(s);
        needIn(what, 0, 3);
        int held = 0;
        for (int l = 0; l < world.lives.size(); l++) {
            held += world.lives.get(l).holder == s ? 1 << l : 0;
        }
        return new int[] {world.purses.get(s), places.get(s), held, pay(world, s, potAt(1), aliveIn(world))}[what];
    }

    private static TreeSet<Integer> aliveIn(World w) {
        TreeSet<Integer> set = new TreeSet<>();
        for (int l = 0; l < w.lives.size(); l++) {
            if (w.lives.get(l).alive) {
                set.add(l);
            }
        }
        return set;
    }

    private int pay(World w, int s, int tenths, TreeSet<Integer> alive) {
        int fixed = potAt(0) * tenths / 10;
        int free = potAt(0) - fixed;
        int heads = 0;
        for (int l : alive) {
            heads += w.lives.get(l).holder == NONE ? 0 : 1;
        }
        int sum = fixed / w.purses.size();
        for (int l : alive) {
            if (w.lives.get(l).holder == s) {
                sum += free / heads;
            }
        }
        return sum;
    }

    // ---- what is done

    private void remember() {
        past.addLast(world.copy());
        if (past.size() > 20) {
            past.removeFirst();
        }
    }

    private void give(int s, int money) {
        world.purses.set(s, Math.min(999999, world.purses.get(s) + money));
    }

    private int draw(int n) {
        world.seed = BigInteger.valueOf(world.seed).multiply(BigInteger.valueOf(1103515245L))
                .add(BigInteger.valueOf(12345)).mod(BigInteger.ONE.shiftLeft(31)).longValue();
        return (int) (world.seed / 65536 % n);
    }

    private int years(int n, boolean byDraws) {
        needIn(n, 1, 30);
        refuseIf(pot == null, NOT);
        refuseIf(world.years > 9000, FULL);
        remember();
        for (int y = 0; y < n; y++) {
            for (Life l : world.lives) {
                if (byDraws && l.alive) {
                    l.alive = draw(100) >= l.chance();
                }
            }
            int[] pays = new int[world.purses.size()];
            for (int s = 0; s < pays.length; s++) {
                pays[s] = pay(world, s, pot[1], aliveIn(world));
            }
            for (int s = 0; s < pays.length; s++) {
                give(s, pays[s]);
            }
            for (Life l : world.lives) {
                l.guarded = false;
                l.harmed = false;
            }
            world.years++;
        }
        return byDraws ? told(8) : sumOfPurses();
    }

    private int died(int l) {
        needLife(l);
        refuseIf(!world.lives.get(l).alive, NOT);
        remember();
        world.lives.get(l).alive = false;
        return told(8);
    }

    private int touch(int s, int l, boolean guards) {
        needSubscriber(s);
        needLife(l);
        Life it = world.lives.get(l);
        refuseIf(!it.alive, NOT);
        refuseIf(guards ? it.guarded : it.harmed, NOT);
        int cost = guards ? pot[2] : pot[3];
        refuseIf(world.purses.get(s) < cost, NOT);
        remember();
        if (guards) {
            it.guarded = true;
        } else {
            it.harmed = true;
        }
        give(s, -cost);
        return world.purses.get(s);
    }

    private int sell(int l, int s, int v) {
        needLife(l);
        needSubscriber(s);
        needIn(v, 0, 999);
        Life it = world.lives.get(l);
        refuseIf(it.holder == s || !it.alive || world.purses.get(s) < v, NOT);
        remember();
        give(s, -v);
        if (it.holder != NONE) {
            give(it.holder, v);
        }
        it.holder = s;
        return world.purses.get(s);
    }

    private int undo() {
        refuseIf(past.isEmpty(), NOT);
        long seed = world.seed;
        world = past.removeLast();
        world.seed = seed;
        return past.size();
    }

    // ---- tried

    private int worthCall(int s, int n) {
        needSubscriber(s);
        needIn(n, 0, 20);
        return worth(world, s, n, potAt(1));
    }

    private int worth(World w, int s, int n, int tenths) {
        return worthOf(w, s, n, tenths, aliveIn(w), true, new HashMap<>()).intValueExact();
    }

    private BigInteger worthOf(World w, int s, int n, int tenths, TreeSet<Integer> alive, boolean first,
            Map<String, BigInteger> known) {
        if (n == 0) {
            return BigInteger.ZERO;
        }
        String key = n + "/" + alive;
        if (known.containsKey(key)) {
            return known.get(key);
        }
        List<Integer> order = new ArrayList<>(alive);
        BigInteger sum = BigInteger.ZERO;
        for (int left = 0; left < 1 << order.size(); left++) {
            TreeSet<Integer> behind = new TreeSet<>();
            BigInteger weight = BigInteger.ONE;
            for (int k = 0; k < order.size(); k++) {
                Life l = w.lives.get(order.get(k));
                int dies = first ? l.chance() : l.q;
                boolean lives = (left >> k & 1) == 1;
                weight = weight.multiply(BigInteger.valueOf(lives ? 100 - dies : dies));
                if (lives) {
                    behind.add(order.get(k));
                }
            }
            if (weight.signum() != 0) {
                BigInteger brings = BigInteger.valueOf(1000L * pay(w, s, tenths, behind))
                        .add(worthOf(w, s, n - 1, tenths, behind, false, known));
                sum = sum.add(weight.multiply(brings));
            }
        }
        BigInteger cut = sum.divide(BigInteger.valueOf(100).pow(order.size()));
        known.put(key, cut);
        return cut;
    }

    private int gainOf(World w, int s, int l, int n, int tenths) {
        if (!w.lives.get(l).alive) {
            return 0;
        }
        World were = w.copy();
        were.lives.get(l).alive = false;
        return worth(were, s, n, tenths) - worth(w, s, n, tenths);
    }

    private int gainCall(int s, int l, int n) {
        needSubscriber(s);
        needLife(l);
        needIn(n, 1, 20);
        return gainOf(world, s, l, n, potAt(1));
    }

    private int gainers(int n) {
        needIn(n, 1, 20);
        int set = 0;
        for (int s = 0; s < world.purses.size(); s++) {
            int others = 0;
            int gained = 0;
            for (int l : aliveIn(world)) {
                if (world.lives.get(l).holder != s) {
                    others++;
                    gained += gainOf(world, s, l, n, potAt(1)) > 0 ? 1 : 0;
                }
            }
            set += others > 0 && gained == others ? 1 << s : 0;
        }
        return set;
    }

    private int terms(int n) {
        needIn(n, 1, 20);
        for (int tenths = 0; tenths <= 10; tenths++) {
            boolean gains = false;
            for (int s = 0; s < world.purses.size(); s++) {
                for (int l : aliveIn(world)) {
                    gains |= world.lives.get(l).holder != s && gainOf(world, s, l, n, tenths) > 0;
                }
            }
            if (!gains) {
                return tenths;
            }
        }
        return NONE;
    }

    private int who(int l, int d) {
        needLife(l);
        needIn(d, 0, 50);
        World were = world.copy();
        were.lives.get(l).alive = true;
        int set = 0;
        for (int s = 0; s < world.purses.size(); s++) {
            int far = places.get(s) - world.lives.get(l).x;
            if (gainOf(were, s, l, 1, potAt(1)) > 0 && world.lives.get(l).holder != s && far <= d && -far <= d) {
                set += 1 << s;
            }
        }
        return set;
    }

    private int nurse(int l, int n) {
        needLife(l);
        needIn(n, 1, 20);
        List<Integer> alive = new ArrayList<>(aliveIn(world));
        int subscribers = world.purses.size();
        int ways = (int) Math.pow(subscribers, alive.size());
        boolean[][] gains = new boolean[subscribers][world.lives.size()];
        for (int s = 0; s < subscribers; s++) {
            for (int m : alive) {
                gains[s][m] = gainOf(world, s, m, n, potAt(1)) > 0;
            }
        }
        for (int way = 0; way < ways; way++) {
            int[] of = new int[alive.size()];
            int rest = way;
            for (int k = alive.size() - 1; k >= 0; k--) {
                of[k] = rest % subscribers;
                rest /= subscribers;
            }
            boolean fits = Arrays.stream(of).distinct().count() == of.length;
            for (int k = 0; k < of.length; k++) {
                fits &= !gains[of[k]][alive.get(k)];
            }
            if (fits) {
                return alive.contains(l) ? of[alive.indexOf(l)] : NONE;
            }
        }
        return NONE;
    }

    private int leastHeld(int s) {
        for (int l : aliveIn(world)) {
            if (world.lives.get(l).holder == s) {
                return l;
            }
        }
        throw new Refused(NOT);
    }

    private int game(int s, int t, int n, int i) {
        needSubscriber(s);
        needSubscriber(t);
        refuseIf(s == t, UNKNOWN);
        needIn(n, 1, 20);
        int own = leastHeld(s);
        int others = leastHeld(t);
        int[][][] brings = new int[3][3][];
        for (int a = 0; a < 3; a++) {
            for (int b = 0; b < 3; b++) {
                World w = world.copy();
                w.lives.get(own).guarded |= a == 1;
                w.lives.get(others).harmed |= a == 2;
                w.lives.get(others).guarded |= b == 1;
                w.lives.get(own).harmed |= b == 2;
                int[] costs = {0, pot[2] * 1000, pot[3] * 1000};
                brings[a][b] = new int[] {worth(w, s, n, pot[1]) - costs[a], worth(w, t, n, pot[1]) - costs[b]};
            }
        }
        List<Integer> pairs = new ArrayList<>();
        for (int a = 0; a < 3; a++) {
            for (int b = 0; b < 3; b++) {
                int most = Math.max(brings[0][b][0], Math.max(brings[1][b][0], brings[2][b][0]));
                int mostOther = Math.max(brings[a][0][1], Math.max(brings[a][1][1], brings[a][2][1]));
                if (brings[a][b][0] == most && brings[a][b][1] == mostOther) {
                    pairs.add(10 * a + b);
                }
            }
        }
        if (i == NONE) {
            return pairs.size();
        }
        return i >= 0 && i < pairs.size() ? pairs.get(i) : NONE;
    }

    private int fair(int l, int n) {
        needLife(l);
        needIn(n, 0, 20);
        int holder = world.lives.get(l).holder;
        refuseIf(holder == NONE, NOT);
        World were = world.copy();
        were.lives.get(l).holder = NONE;
        return (worth(world, holder, n, pot[1]) - worth(were, holder, n, pot[1])) / 1000;
    }

    private int outlives(int a, int b, int n) {
        needLife(a);
        needLife(b);
        refuseIf(a == b, UNKNOWN);
        needIn(n, 0, 20);
        refuseIf(!world.lives.get(a).alive || !world.lives.get(b).alive, NOT);
        BigInteger billion = BigInteger.valueOf(1000000000);
        BigInteger x = billion;
        BigInteger y = billion;
        for (int k = 0; k < n; k++) {
            x = x.multiply(BigInteger.valueOf(100 - world.lives.get(a).q)).divide(BigInteger.valueOf(100));
            y = y.multiply(BigInteger.valueOf(100 - world.lives.get(b).q)).divide(BigInteger.valueOf(100));
        }
        return x.multiply(billion.subtract(y)).divide(billion).intValueExact();
    }

    // ---- books, images

    private int write(int s, int purse) {
        needSubscriber(s);
        needIn(purse, 0, 999999);
        refuseIf(book.size() == 15, FULL);
        book.add(new int[] {s, purse});
        return book.size();
    }

    private int tear() {
        int had = book.size();
        book.clear();
        return had;
    }

    private int judge() {
        for (int i = 0; i < book.size(); i++) {
            if (world.purses.get(book.get(i)[0]) != book.get(i)[1]) {
                return i;
            }
        }
        return NONE;
    }

    private int seed(int v) {
        needIn(v, 0, Integer.MAX_VALUE);
        int was = (int) world.seed;
        world.seed = v;
        return was;
    }

    private int keep(int i) {
        refuseIf(i < 0 || i > 1, UNKNOWN);
        images[i] = world.copy();
        past.clear();
        return 1;
    }

    private int goBack(int i) {
        refuseIf(i < 0 || i > 1, UNKNOWN);
        refuseIf(images[i] == null, NOT);
        world = images[i].copy();
        past.clear();
        return 1;
    }
}

public final class ParrotTontine {
    public static final int NONE = -1, UNKNOWN = -2000000001, OUTSIDE = -2000000002, NOT = -2000000003, FULL = -2000000004;

    private static final int MOST_LETTERS = 220;
    private static final int MOST_LETTER = 255;
    private static final int MOST_LIVES = 5;
    private static final int MOST_SUBSCRIBERS = 5;
    private static final int SETS = 1 << MOST_LIVES;
    private static final int MOST_POT = 999;
    private static final int MOST_TENTHS = 10;
    private static final int MOST_COST = 99;
    private static final int HUNDRED = 100;
    private static final int MOST_PLACE = 50;
    private static final int MOST_TOLD_PURSE = 999;
    private static final int MOST_PURSE = 999999;
    private static final int MOST_PRICE = 999;
    private static final int MOST_YEARS_AT_ONCE = 30;
    private static final int MOST_YEARS_TRIED = 20;
    private static final int LAST_YEAR_TO_GO_ON = 9000;
    private static final int MOST_UNDONE = 20;
    private static final int MOST_ENTRIES = 15;
    private static final int IMAGES = 2;
    private static final int THOUSAND = 1000;
    private static final long BILLION = 1000000000L;

    private final Text text = new Text();
    private Charter charter = new Charter();
    private Charter draft = new Charter();
    private final State now = new State();
    private final Past past = new Past();
    private final Images images = new Images();
    private final Book book = new Book();
    private final Dice dice = new Dice();
    private final Trial trial = new Trial();
    private final Nursing nursing = new Nursing();
    private final Contest contest = new Contest();
    private int faultPlace = NONE;

    public ParrotTontine() {
        now.begin(charter);
    }

    // ---- the tontine

    public int feed(int letter) {
        if (letter < 0 || letter > MOST_LETTER) {
            return OUTSIDE;
        }
        if (text.isFull()) {
            return FULL;
        }
        return text.append(letter);
    }

    public int tontine() {
        int kind = text.readInto(draft);
        faultPlace = text.placeOfFault();
        text.empty();
        if (kind != 0) {
            return -10 - kind;
        }
        Charter old = charter;
        charter = draft;
        draft = old;
        now.begin(charter);
        past.forget();
        images.forget();
        book.tearOut();
        return charter.lives;
    }

    public int fault() {
        return faultPlace;
    }

    public int told(int what) {
        switch (what) {
            case 0: return charter.pot;
            case 1: return charter.tenths;
            case 2: return charter.guardCost;
            case 3: return charter.harmCost;
            case 4: return charter.lives;
            case 5: return charter.subscribers;
            case 6: return text.length();
            case 7: return now.years;
            case 8: return now.alive;
            case 9: return now.guarded;
            case 10: return now.harmed;
            case 11: return now.pursesOfAll();
            case 12: return book.size();
            case 13: return past.size();
            default: return OUTSIDE;
        }
    }

    public int life(int l, int what) {
        if (!charter.hasLife(l)) {
            return UNKNOWN;
        }
        switch (what) {
            case 0: return charter.hundredths[l];
            case 1: return charter.lifeAt[l];
            case 2: return now.isAlive(l) ? 1 : 0;
            case 3: return now.holder[l];
            case 4: return now.isAlive(l) ? chanceNow(l) : 0;
            default: return OUTSIDE;
        }
    }

    public int subscriber(int s, int what) {
        if (!charter.hasSubscriber(s)) {
            return UNKNOWN;
        }
        switch (what) {
            case 0: return now.purse[s];
            case 1: return charter.subscriberAt[s];
            case 2: return now.heldBy(s);
            case 3: return payNow(s);
            default: return OUTSIDE;
        }
    }

    // ---- what is done

    public int year(int n) {
        int refusal = refusalOfYears(n);
        if (refusal != 0) {
            return refusal;
        }
        past.remember(now);
        for (int i = 0; i < n; i++) {
            passYear();
        }
        return now.pursesOfAll();
    }

    public int died(int l) {
        if (!charter.hasLife(l)) {
            return UNKNOWN;
        }
        if (!now.isAlive(l)) {
            return NOT;
        }
        past.remember(now);
        now.alive &= ~(1 << l);
        return now.alive;
    }

    public int guard(int s, int l) {
        if (!charter.hasSubscriber(s) || !charter.hasLife(l)) {
            return UNKNOWN;
        }
        if (!now.isAlive(l) || isIn(now.guarded, l) || now.purse[s] < charter.guardCost) {
            return NOT;
        }
        past.remember(now);
        now.guarded |= 1 << l;
        now.purse[s] -= charter.guardCost;
        return now.purse[s];
    }

    public int harm(int s, int l) {
        if (!charter.hasSubscriber(s) || !charter.hasLife(l)) {
            return UNKNOWN;
        }
        if (!now.isAlive(l) || isIn(now.harmed, l) || now.purse[s] < charter.harmCost) {
            return NOT;
        }
        past.remember(now);
        now.harmed |= 1 << l;
        now.purse[s] -= charter.harmCost;
        return now.purse[s];
    }

    public int sell(int l, int s, int v) {
        if (!charter.hasLife(l) || !charter.hasSubscriber(s)) {
            return UNKNOWN;
        }
        if (v < 0 || v > MOST_PRICE) {
            return OUTSIDE;
        }
        int seller = now.holder[l];
        if (seller == s || !now.isAlive(l) || now.purse[s] < v) {
            return NOT;
        }
        past.remember(now);
        now.purse[s] -= v;
        if (charter.hasSubscriber(seller)) {
            now.receive(seller, v);
        }
        now.holder[l] = s;
        return now.purse[s];
    }

    public int drift(int n) {
        int refusal = refusalOfYears(n);
        if (refusal != 0) {
            return refusal;
        }
        past.remember(now);
        for (int i = 0; i < n; i++) {
            drawDeaths();
            passYear();
        }
        return now.alive;
    }

    public int undo() {
        if (past.size() == 0) {
            return NOT;
        }
        past.takeLatestInto(now);
        return past.size();
    }

    // ---- tried

    public int worth(int s, int n) {
        if (!charter.hasSubscriber(s)) {
            return UNKNOWN;
        }
        if (n < 0 || n > MOST_YEARS_TRIED) {
            return OUTSIDE;
        }
        trial.asNow(charter, now, s);
        trial.look(charter, n);
        return (int) trial.worthWith(now.alive);
    }

    public int gain(int s, int l, int n) {
        if (!charter.hasSubscriber(s) || !charter.hasLife(l)) {
            return UNKNOWN;
        }
        if (!mayBeTried(n)) {
            return OUTSIDE;
        }
        if (!now.isAlive(l)) {
            return 0;
        }
        trial.asNow(charter, now, s);
        trial.look(charter, n);
        return (int) trial.gainBy(l, now.alive);
    }

    public int gainers(int n) {
        if (!mayBeTried(n)) {
            return OUTSIDE;
        }
        int set = 0;
        for (int s = 0; s < charter.subscribers; s++) {
            trial.asNow(charter, now, s);
            trial.look(charter, n);
            int others = now.alive & ~now.heldBy(s);
            if (others != 0 && trial.deathsThatGain(others, now.alive) == others) {
                set |= 1 << s;
            }
        }
        return set;
    }

    public int terms(int n) {
        if (!mayBeTried(n)) {
            return OUTSIDE;
        }
        for (int tenths = 0; tenths <= MOST_TENTHS; tenths++) {
            if (!somebodyGains(tenths, n)) {
                return tenths;
            }
        }
        return NONE;
    }

    public int who(int l, int d) {
        if (!charter.hasLife(l)) {
            return UNKNOWN;
        }
        if (d < 0 || d > MOST_PLACE) {
            return OUTSIDE;
        }
        int set = 0;
        for (int s = 0; s < charter.subscribers; s++) {
            boolean near = Math.abs(charter.subscriberAt[s] - charter.lifeAt[l]) <= d;
            if (!near || now.holder[l] == s) {
                continue;
            }
            trial.asNow(charter, now, s);
            trial.look(charter, 1);
            if (trial.gainBy(l, now.alive | 1 << l) > 0) {
                set |= 1 << s;
            }
        }
        return set;
    }

    public int nurse(int l, int n) {
        if (!charter.hasLife(l)) {
            return UNKNOWN;
        }
        if (!mayBeTried(n)) {
            return OUTSIDE;
        }
        nursing.clear();
        for (int s = 0; s < charter.subscribers; s++) {
            trial.asNow(charter, now, s);
            trial.look(charter, n);
            nursing.offer(s, now.alive & ~trial.deathsThatGain(now.alive, now.alive));
        }
        return nursing.nurseOf(l, now.alive);
    }

    public int game(int s, int t, int n, int i) {
        if (!charter.hasSubscriber(s) || !charter.hasSubscriber(t) || s == t) {
            return UNKNOWN;
        }
        if (!mayBeTried(n)) {
            return OUTSIDE;
        }
        int own = leastOf(now.heldBy(s) & now.alive);
        int others = leastOf(now.heldBy(t) & now.alive);
        if (own == 0 || others == 0) {
            return NOT;
        }
        for (int a = 0; a < Contest.DOINGS; a++) {
            for (int b = 0; b < Contest.DOINGS; b++) {
                int guarded = now.guarded | guardedBy(a, own) | guardedBy(b, others);
                int harmed = now.harmed | harmedBy(a, others) | harmedBy(b, own);
                contest.put(a, b, worthBeside(s, guarded, harmed, n) - costOf(a),
                        worthBeside(t, guarded, harmed, n) - costOf(b));
            }
        }
        return i == NONE ? contest.restingPairs() : contest.restingPair(i);
    }

    public int fair(int l, int n) {
        if (!charter.hasLife(l)) {
            return UNKNOWN;
        }
        if (n < 0 || n > MOST_YEARS_TRIED) {
            return OUTSIDE;
        }
        int holder = now.holder[l];
        if (!charter.hasSubscriber(holder)) {
            return NOT;
        }
        trial.asNow(charter, now, holder);
        trial.look(charter, n);
        long withIt = trial.worthWith(now.alive);
        trial.letGo(l);
        trial.look(charter, n);
        return (int) ((withIt - trial.worthWith(now.alive)) / THOUSAND);
    }

    public int outlives(int a, int b, int n) {
        if (!charter.hasLife(a) || !charter.hasLife(b) || a == b) {
            return UNKNOWN;
        }
        if (n < 0 || n > MOST_YEARS_TRIED) {
            return OUTSIDE;
        }
        if (!now.isAlive(a) || !now.isAlive(b)) {
            return NOT;
        }
        long aLives = oddsToLive(charter.hundredths[a], n);
        long bLives = oddsToLive(charter.hundredths[b], n);
        return (int) (aLives * (BILLION - bLives) / BILLION);
    }

    // ---- books, images

    public int write(int s, int purse) {
        if (!charter.hasSubscriber(s)) {
            return UNKNOWN;
        }
        if (purse < 0 || purse > MOST_PURSE) {
            return OUTSIDE;
        }
        if (book.isFull()) {
            return FULL;
        }
        return book.enter(s, purse);
    }

    public int tear() {
        return book.tearOut();
    }

    public int judge() {
        return book.firstWrong(now);
    }

    public int seed(int v) {
        if (v < 0) {
            return OUTSIDE;
        }
        int was = dice.seed;
        dice.seed = v;
        return was;
    }

    public int keep(int i) {
        if (!images.has(i)) {
            return UNKNOWN;
        }
        images.take(i, now, dice);
        past.forget();
        return 1;
    }

    public int goBack(int i) {
        if (!images.has(i)) {
            return UNKNOWN;
        }
        if (!images.isTaken(i)) {
            return NOT;
        }
        images.giveBack(i, now, dice);
        past.forget();
        return 1;
    }

    // ---- what the calls share

    private static boolean isIn(int set, int k) {
        return (set >> k & 1) == 1;
    }

    /** The SET of the least one alone; empty for an empty SET. */
    private static int leastOf(int set) {
        return set & -set;
    }

    private static boolean mayBeTried(int n) {
        return n >= 1 && n <= MOST_YEARS_TRIED;
    }

    private static int chance(int hundredths, boolean guarded, boolean harmed) {
        if (guarded == harmed) {
            return hundredths;
        }
        return guarded ? hundredths / 2 : Math.min(HUNDRED, 2 * hundredths);
    }

    private int chanceNow(int l) {
        if (!charter.hasLife(l)) {
            return 0;
        }
        return chance(charter.hundredths[l], isIn(now.guarded, l), isIn(now.harmed, l));
    }

    private int payNow(int s) {
        int heldAlive = now.heldByAny() & now.alive;
        return charter.pay(charter.tenths, now.heldBy(s) & now.alive, heldAlive);
    }

    /** 0 if n YEARS may pass now. */
    private int refusalOfYears(int n) {
        if (n < 1 || n > MOST_YEARS_AT_ONCE) {
            return OUTSIDE;
        }
        if (!charter.hasPot) {
            return NOT;
        }
        return now.years > LAST_YEAR_TO_GO_ON ? FULL : 0;
    }

    private void passYear() {
        for (int s = 0; s < charter.subscribers; s++) {
            now.receive(s, payNow(s));
        }
        now.guarded = 0;
        now.harmed = 0;
        now.years++;
    }

    private void drawDeaths() {
        for (int l = 0; l < charter.lives; l++) {
            // a DRAW is spent on every LIFE that is alive, even by a CHANCE of 0
            if (now.isAlive(l) && dice.draw(HUNDRED) < chanceNow(l)) {
                now.alive &= ~(1 << l);
            }
        }
    }

    private boolean somebodyGains(int tenths, int n) {
        for (int s = 0; s < charter.subscribers; s++) {
            trial.asNow(charter, now, s);
            trial.tenths = tenths;
            trial.look(charter, n);
            if (trial.deathsThatGain(now.alive & ~now.heldBy(s), now.alive) != 0) {
                return true;
            }
        }
        return false;
    }

    private static int guardedBy(int doing, int ownLife) {
        return doing == Contest.GUARDS_OWN ? ownLife : 0;
    }

    private static int harmedBy(int doing, int otherLife) {
        return doing == Contest.HARMS_OTHER ? otherLife : 0;
    }

    private long costOf(int doing) {
        if (doing == Contest.GUARDS_OWN) {
            return (long) charter.guardCost * THOUSAND;
        }
        return doing == Contest.HARMS_OTHER ? (long) charter.harmCost * THOUSAND : 0;
    }

    private long worthBeside(int s, int guarded, int harmed, int n) {
        trial.asNow(charter, now, s);
        trial.guarded = guarded;
        trial.harmed = harmed;
        trial.look(charter, n);
        return trial.worthWith(now.alive);
    }

    private static long oddsToLive(int hundredths, int n) {
        long odds = BILLION;
        for (int i = 0; i < n; i++) {
            odds = odds * (HUNDRED - hundredths) / HUNDRED;
        }
        return odds;
    }

    /** What the text tells, as it was at first. */
    private static final class Charter {
        boolean hasPot;
        int pot;
        int tenths;
        int guardCost;
        int harmCost;
        int lives;
        int subscribers;
        final int[] hundredths = new int[MOST_LIVES];
        final int[] lifeAt = new int[MOST_LIVES];
        final int[] firstHolder = new int[MOST_LIVES];
        final int[] firstPurse = new int[MOST_SUBSCRIBERS];
        final int[] subscriberAt = new int[MOST_SUBSCRIBERS];

        void clear() {
            hasPot = false;
            pot = 0;
            tenths = 0;
            guardCost = 0;
            harmCost = 0;
            lives = 0;
            subscribers = 0;
        }

        boolean hasLife(int l) {
            return l >= 0 && l < lives;
        }

        boolean hasSubscriber(int s) {
            return s >= 0 && s < subscribers;
        }

        void addLife(int q, int x) {
            if (lives < MOST_LIVES) {
                hundredths[lives] = q;
                lifeAt[lives] = x;
                firstHolder[lives] = NONE;
                lives++;
            }
        }

        void addSubscriber(int purse, int x, int l) {
            if (subscribers < MOST_SUBSCRIBERS && hasLife(l)) {
                firstPurse[subscribers] = purse;
                subscriberAt[subscribers] = x;
                firstHolder[l] = subscribers;
                subscribers++;
            }
        }

        /** PAY by these TERMS to one who holds his LIVES, of all that are alive and held. */
        int pay(int byTenths, int his, int heldAlive) {
            int fixed = pot * byTenths / MOST_TENTHS;
            int sum = subscribers == 0 ? 0 : fixed / subscribers;
            int shares = Integer.bitCount(heldAlive);
            if (shares != 0) {
                sum += Integer.bitCount(his) * ((pot - fixed) / shares);
            }
            return sum;
        }
    }

    /** The letters that were fed, and how they are read. */
    private static final class Text {
        static final int CANNOT_STAND = 1;
        static final int OUT_OF_BOUNDS = 2;
        static final int TOO_MANY = 3;
        static final int IS_HELD = 4;
        static final int MOST_FIGURES = 3;

        final int[] letters = new int[MOST_LETTERS];
        int count;
        int place;
        int faultKind;
        int faultAt = NONE;

        int length() {
            return count;
        }

        boolean isFull() {
            return count >= MOST_LETTERS;
        }

        int append(int letter) {
            if (count >= 0 && count < MOST_LETTERS) {
                letters[count] = letter;
                count++;
            }
            return count;
        }

        void empty() {
            count = 0;
        }

        int placeOfFault() {
            return faultAt;
        }

        /** The number of the FAULT, 0 if there is none. */
        int readInto(Charter into) {
            place = 0;
            faultKind = 0;
            faultAt = NONE;
            into.clear();
            skipBlanks();
            // every clause has a letter at least, so there are no more clauses than letters
            for (int clause = 0; clause < MOST_LETTERS && place < count && faultKind == 0; clause++) {
                readClause(into);
                skipBlanks();
            }
            return faultKind;
        }

        void readClause(Charter into) {
            int word = letterHere();
            if (!into.hasPot) {
                readPot(into, word);
            } else if (word == 'l') {
                readLife(into);
            } else if (word == 's') {
                readSubscriber(into);
            } else {
                noteFault(word == 'p' ? TOO_MANY : CANNOT_STAND, place);
            }
        }

        void readPot(Charter into, int word) {
            if (word != 'p') {
                noteFault(CANNOT_STAND, place);
                return;
            }
            place++;
            into.pot = readNumber(MOST_POT);
            into.tenths = readNumber(MOST_TENTHS);
            into.guardCost = readNumber(MOST_COST);
            into.harmCost = readNumber(MOST_COST);
            readEndOfClause();
            into.hasPot = true;
        }

        void readLife(Charter into) {
            if (into.lives >= MOST_LIVES) {
                noteFault(TOO_MANY, place);
                return;
            }
            place++;
            int q = readNumber(HUNDRED);
            int x = readNumber(MOST_PLACE);
            readEndOfClause();
            into.addLife(q, x);
        }

        void readSubscriber(Charter into) {
            if (into.subscribers >= MOST_SUBSCRIBERS) {
                noteFault(TOO_MANY, place);
                return;
            }
            place++;
            int purse = readNumber(MOST_TOLD_PURSE);
            int x = readNumber(MOST_PLACE);
            skipBlanks();
            int lifePlace = place;
            int l = readNumber(into.lives - 1);
            if (into.hasLife(l) && into.firstHolder[l] != NONE) {
                noteFault(IS_HELD, lifePlace);
            }
            readEndOfClause();
            into.addSubscriber(purse, x, l);
        }

        /** A NUMBER 0 .. most; what it is with a FAULT is of no account, the first FAULT stays. */
        int readNumber(int most) {
            skipBlanks();
            int first = place;
            int figures = 0;
            int value = 0;
            while (place < count && isFigure(letterHere())) {
                figures++;
                if (figures <= MOST_FIGURES) {
                    value = 10 * value + letterHere() - '0';
                }
                place++;
            }
            if (figures == 0) {
                noteFault(CANNOT_STAND, first);
            } else if (figures > MOST_FIGURES || value > most) {
                noteFault(OUT_OF_BOUNDS, first);
            }
            return value;
        }

        void readEndOfClause() {
            skipBlanks();
            if (letterHere() == ';') {
                place++;
            } else {
                noteFault(CANNOT_STAND, place);
            }
        }

        void skipBlanks() {
            while (place < count && letterHere() == ' ') {
                place++;
            }
        }

        /** NONE at the end. */
        int letterHere() {
            return place >= 0 && place < count && place < MOST_LETTERS ? letters[place] : NONE;
        }

        static boolean isFigure(int letter) {
            return letter >= '0' && letter <= '9';
        }

        void noteFault(int kind, int at) {
            if (faultKind == 0) {
                faultKind = kind;
                faultAt = at;
            }
        }
    }

    /** What changes by what is done, and can be undone. */
    private static final class State {
        final int[] purse = new int[MOST_SUBSCRIBERS];
        final int[] holder = new int[MOST_LIVES];
        int alive;
        int guarded;
        int harmed;
        int years;

        void begin(Charter charter) {
            for (int s = 0; s < MOST_SUBSCRIBERS; s++) {
                purse[s] = s < charter.subscribers ? charter.firstPurse[s] : 0;
            }
            for (int l = 0; l < MOST_LIVES; l++) {
                holder[l] = l < charter.lives ? charter.firstHolder[l] : NONE;
            }
            alive = (1 << charter.lives) - 1;
            guarded = 0;
            harmed = 0;
            years = 0;
        }

        void copyFrom(State other) {
            System.arraycopy(other.purse, 0, purse, 0, MOST_SUBSCRIBERS);
            System.arraycopy(other.holder, 0, holder, 0, MOST_LIVES);
            alive = other.alive;
            guarded = other.guarded;
            harmed = other.harmed;
            years = other.years;
        }

        boolean isAlive(int l) {
            return isIn(alive, l);
        }

        int heldBy(int s) {
            int set = 0;
            for (int l = 0; l < MOST_LIVES; l++) {
                if (holder[l] == s) {
                    set |= 1 << l;
                }
            }
            return set;
        }

        int heldByAny() {
            int set = 0;
            for (int l = 0; l < MOST_LIVES; l++) {
                if (holder[l] != NONE) {
                    set |= 1 << l;
                }
            }
            return set;
        }

        int pursesOfAll() {
            int sum = 0;
            for (int s = 0; s < MOST_SUBSCRIBERS; s++) {
                sum += purse[s];
            }
            return sum;
        }

        void receive(int s, int money) {
            if (s >= 0 && s < MOST_SUBSCRIBERS) {
                purse[s] = Math.min(MOST_PURSE, purse[s] + money);
            }
        }
    }

    /** The latest States, for undo: a ring, so that the oldest is lost when it is full. */
    private static final class Past {
        final State[] states = new State[MOST_UNDONE];
        int oldest;
        int count;

        Past() {
            for (int i = 0; i < MOST_UNDONE; i++) {
                states[i] = new State();
            }
        }

        int size() {
            return count;
        }

        void forget() {
            count = 0;
        }

        State at(int i) {
            return states[Math.floorMod(oldest + i, MOST_UNDONE)];
        }

        void remember(State now) {
            if (count >= MOST_UNDONE) {
                oldest = (oldest + 1) % MOST_UNDONE;
                count--;
            }
            at(count).copyFrom(now);
            count++;
        }

        void takeLatestInto(State now) {
            if (count > 0) {
                count--;
                now.copyFrom(at(count));
            }
        }
    }

    /** States to go on from, each with its SEED. */
    private static final class Images {
        final State[] states = new State[IMAGES];
        final int[] seeds = new int[IMAGES];
        int taken;

        Images() {
            for (int i = 0; i < IMAGES; i++) {
                states[i] = new State();
            }
        }

        boolean has(int i) {
            return i >= 0 && i < IMAGES;
        }

        boolean isTaken(int i) {
            return has(i) && isIn(taken, i);
        }

        void forget() {
            taken = 0;
        }

        void take(int i, State now, Dice dice) {
            if (has(i)) {
                states[i].copyFrom(now);
                seeds[i] = dice.seed;
                taken |= 1 << i;
            }
        }

        void giveBack(int i, State now, Dice dice) {
            if (isTaken(i)) {
                now.copyFrom(states[i]);
                dice.seed = seeds[i];
            }
        }
    }

    private static final class Book {
        final int[] subscribers = new int[MOST_ENTRIES];
        final int[] purses = new int[MOST_ENTRIES];
        int count;

        int size() {
            return count;
        }

        boolean isFull() {
            return count >= MOST_ENTRIES;
        }

        int enter(int s, int purse) {
            if (count >= 0 && count < MOST_ENTRIES) {
                subscribers[count] = s;
                purses[count] = purse;
                count++;
            }
            return count;
        }

        int tearOut() {
            int had = count;
            count = 0;
            return had;
        }

        int firstWrong(State now) {
            for (int i = 0; i < count && i < MOST_ENTRIES; i++) {
                int s = subscribers[i];
                if (s >= 0 && s < MOST_SUBSCRIBERS && now.purse[s] != purses[i]) {
                    return i;
                }
            }
            return NONE;
        }
    }

    private static final class Dice {
        int seed;

        int draw(int sides) {
            seed = (int) ((seed * 1103515245L + 12345L) % 2147483648L);
            return sides > 0 ? seed / 65536 % sides : 0;
        }
    }

    /** One SUBSCRIBER's WORTH for each SET of LIVES that could be alive now. */
    private static final class Trial {
        int his;
        int held;
        int guarded;
        int harmed;
        int tenths;
        int sets;
        final long[] pays = new long[SETS];
        final long[] worths = new long[SETS];

        void asNow(Charter charter, State now, int s) {
            his = now.heldBy(s);
            held = now.heldByAny();
            guarded = now.guarded;
            harmed = now.harmed;
            tenths = charter.tenths;
        }

        void letGo(int l) {
            his &= ~(1 << l);
            held &= ~(1 << l);
        }

        void look(Charter charter, int years) {
            sets = Math.min(SETS, 1 << charter.lives);
            for (int set = 0; set < sets; set++) {
                pays[set] = (long) charter.pay(tenths, his & set, held & set) * THOUSAND;
                worths[set] = 0;
            }
            for (int behind = 1; behind <= years; behind++) {
                boolean isFirst = behind == years;
                lookOneYear(charter, isFirst ? guarded : 0, isFirst ? harmed : 0);
            }
        }

        void lookOneYear(Charter charter, int guards, int harms) {
            for (int set = 0; set < sets; set++) {
                worths[set] += pays[set];
            }
            for (int l = 0; l < charter.lives; l++) {
                weigh(1 << l, chance(charter.hundredths[l], isIn(guards, l), isIn(harms, l)));
            }
            for (int set = 0; set < sets; set++) {
                worths[set] /= wholeOf(set);
            }
        }

        /**
         * One LIFE after the other, this makes of each SET the sum over all SETS that may be left of it:
         * nothing is cut here, so the sum is the same as that of the whole products.
         */
        void weigh(int bit, int dies) {
            for (int set = 0; set < sets; set++) {
                if ((set & bit) != 0) {
                    worths[set] = (HUNDRED - dies) * worths[set] + dies * worths[set ^ bit];
                }
            }
        }

        /** 100 to the power of how many LIVES the SET has: 1 at least. */
        static long wholeOf(int set) {
            long whole = 1;
            for (int left = Integer.bitCount(set); left > 0; left--) {
                whole *= HUNDRED;
            }
            return whole;
        }

        long worthWith(int alive) {
            return alive >= 0 && alive < sets ? worths[alive] : 0;
        }

        long gainBy(int l, int alive) {
            return worthWith(alive & ~(1 << l)) - worthWith(alive);
        }

        int deathsThatGain(int lives, int alive) {
            int set = 0;
            for (int l = 0; l < MOST_LIVES; l++) {
                if (isIn(lives, l) && gainBy(l, alive) > 0) {
                    set |= 1 << l;
                }
            }
            return set;
        }
    }

    /** Who may nurse which LIFE, and the first way to give each one a nurse of its own. */
    private static final class Nursing {
        final int[] willing = new int[MOST_LIVES];
        final int[] chosen = new int[MOST_LIVES];

        void clear() {
            for (int l = 0; l < MOST_LIVES; l++) {
                willing[l] = 0;
                chosen[l] = NONE;
            }
        }

        void offer(int s, int lives) {
            for (int l = 0; l < MOST_LIVES; l++) {
                if (isIn(lives, l)) {
                    willing[l] |= 1 << s;
                }
            }
        }

        int nurseOf(int l, int alive) {
            boolean inBounds = l >= 0 && l < MOST_LIVES;
            if (!inBounds || !isIn(alive, l) || !choose(willing, chosen, alive, 0, 0)) {
                return NONE;
            }
            return chosen[l];
        }

        /** Chooses for l and all behind it; l is the depth, MOST_LIVES its end. */
        private static boolean choose(int[] willing, int[] chosen, int alive, int taken, int l) {
            if (l < 0 || l >= MOST_LIVES) {
                return true;
            }
            if (!isIn(alive, l)) {
                return choose(willing, chosen, alive, taken, l + 1);
            }
            int free = willing[l] & ~taken;
            for (int s = 0; s < MOST_SUBSCRIBERS; s++) {
                if (isIn(free, s)) {
                    chosen[l] = s;
                    if (choose(willing, chosen, alive, taken | 1 << s, l + 1)) {
                        return true;
                    }
                }
            }
            return false;
        }
    }

    /** What each pair of doings brings to either. */
    private static final class Contest {
        static final int DOINGS = 3;
        static final int GUARDS_OWN = 1;
        static final int HARMS_OTHER = 2;

        final long[] first = new long[DOINGS * DOINGS];
        final long[] other = new long[DOINGS * DOINGS];

        void put(int a, int b, long toFirst, long toOther) {
            if (a >= 0 && a < DOINGS && b >= 0 && b < DOINGS) {
                first[a * DOINGS + b] = toFirst;
                other[a * DOINGS + b] = toOther;
            }
        }

        boolean rests(int a, int b) {
            if (a < 0 || a >= DOINGS || b < 0 || b >= DOINGS) {
                return false;
            }
            for (int instead = 0; instead < DOINGS; instead++) {
                if (first[instead * DOINGS + b] > first[a * DOINGS + b]
                        || other[a * DOINGS + instead] > other[a * DOINGS + b]) {
                    return false;
                }
            }
            return true;
        }

        int restingPairs() {
            int count = 0;
            for (int pair = 0; pair < DOINGS * DOINGS; pair++) {
                if (rests(pair / DOINGS, pair % DOINGS)) {
                    count++;
                }
            }
            return count;
        }

        int restingPair(int i) {
            int count = 0;
            for (int pair = 0; pair < DOINGS * DOINGS; pair++) {
                if (rests(pair / DOINGS, pair % DOINGS)) {
                    if (count == i) {
                        return 10 * (pair / DOINGS) + pair % DOINGS;
                    }
                    count++;
                }
            }
            return NONE;
        }
    }
}

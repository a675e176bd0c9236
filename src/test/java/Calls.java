/** The calls of the face by their names, for tests that go over many of them. */
final class Calls {
    private Calls() {
    }

    static int answer(ParrotTontine x, String name, int... a) {
        switch (name) {
            case "feed": return x.feed(a[0]);
            case "tontine": return x.tontine();
            case "fault": return x.fault();
            case "told": return x.told(a[0]);
            case "life": return x.life(a[0], a[1]);
            case "subscriber": return x.subscriber(a[0], a[1]);
            case "year": return x.year(a[0]);
            case "died": return x.died(a[0]);
            case "guard": return x.guard(a[0], a[1]);
            case "harm": return x.harm(a[0], a[1]);
            case "sell": return x.sell(a[0], a[1], a[2]);
            case "drift": return x.drift(a[0]);
            case "undo": return x.undo();
            case "worth": return x.worth(a[0], a[1]);
            case "gain": return x.gain(a[0], a[1], a[2]);
            case "gainers": return x.gainers(a[0]);
            case "terms": return x.terms(a[0]);
            case "who": return x.who(a[0], a[1]);
            case "nurse": return x.nurse(a[0], a[1]);
            case "game": return x.game(a[0], a[1], a[2], a[3]);
            case "fair": return x.fair(a[0], a[1]);
            case "outlives": return x.outlives(a[0], a[1], a[2]);
            case "write": return x.write(a[0], a[1]);
            case "tear": return x.tear();
            case "judge": return x.judge();
            case "seed": return x.seed(a[0]);
            case "keep": return x.keep(a[0]);
            case "goBack": return x.goBack(a[0]);
            default: throw new IllegalArgumentException(name);
        }
    }

    static boolean isRefusal(int answer) {
        return answer <= ParrotTontine.UNKNOWN;
    }
}

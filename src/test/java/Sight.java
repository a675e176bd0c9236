import java.util.ArrayList;
import java.util.List;

/** All that can be seen of an object, so that two of them can be held side by side. */
final class Sight {
    private static final int MOST_UNDONE = 20;
    private static final String REST_OF_A_TEXT = " 1 1;l7 8;";

    private final List<Integer> seen = new ArrayList<>();

    private Sight() {
    }

    /** What the calls that change nothing answer. */
    static List<Integer> of(ParrotTontine x) {
        Sight sight = new Sight();
        sight.look(x);
        return sight.seen;
    }

    /** That, and what comes out by undoing all, going back to the IMAGES and ending the TEXT: it uses the object up. */
    static List<Integer> through(ParrotTontine x) {
        Sight sight = new Sight();
        sight.look(x);
        sight.seen.add(x.seed(1));
        for (int i = 0; i <= MOST_UNDONE && x.undo() >= 0; i++) {
            sight.look(x);
        }
        for (int image = 0; image <= 1; image++) {
            sight.seen.add(x.goBack(image));
            sight.look(x);
            sight.seen.add(x.seed(1));
        }
        Check.feedAll(x, REST_OF_A_TEXT);
        sight.seen.add(x.tontine());
        sight.look(x);
        return sight.seen;
    }

    private void look(ParrotTontine x) {
        for (int what = 0; what <= 13; what++) {
            seen.add(x.told(what));
        }
        int lives = x.told(4);
        int subscribers = x.told(5);
        for (int l = 0; l < lives; l++) {
            for (int what = 0; what <= 4; what++) {
                seen.add(x.life(l, what));
            }
        }
        for (int s = 0; s < subscribers; s++) {
            for (int what = 0; what <= 3; what++) {
                seen.add(x.subscriber(s, what));
            }
        }
        seen.add(x.fault());
        seen.add(x.judge());
    }
}

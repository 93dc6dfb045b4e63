import java.util.ArrayList;
import java.util.List;

/**
 * Asks at the edges of one scene: what a call answers there, and that a refused call changed nothing.
 *
 * Each answer and each view comes off an object of its own, made anew by the scene: so a call that went wrong spoils no
 * other, and no object comes near its 512 calls.
 */
final class Edge {
    interface Scene {
        BatchLinks make();
    }

    interface Answer {
        long of(BatchLinks x);
    }

    interface Choice {
        boolean of(BatchLinks x);
    }

    interface View {
        String of(BatchLinks x);
    }

    private static final int[] DAYS = {-1, 0, 1, 4, 5, 6, 9, 10, 11, 19, 20, 21, 99998, 99999, 100000};

    private final Due due;
    private final Scene scene;
    private final List<View> views = new ArrayList<>();
    private final List<String> untouched = new ArrayList<>();

    Edge(Due due, Scene scene) {
        this.due = due;
        this.scene = scene;
        int things = (int) scene.make().all(5);
        int certificates = (int) scene.make().all(7);
        for (int i = 0; i <= things; i++) {
            int thing = i;
            views.add(x -> thing(x, thing));
        }
        views.add(Edge::sums);
        views.add(x -> balances(x, certificates));
        views.add(x -> lastGoodDays(x, certificates));
        views.add(Edge::roomForThings);
        views.add(Edge::roomForCertificates);
        views.add(Edge::roomForEntries);
        views.add(Edge::tape);
        views.add(Edge::tapeWithOneMore);
        for (View view : views) {
            untouched.add(view.of(scene.make()));
        }
    }

    /** The call is good, and answers so. */
    void gives(String sentence, Answer call, long answer) {
        due.is(sentence, call.of(scene.make()), answer);
    }

    void yes(String sentence, Choice call) {
        due.is(sentence, call.of(scene.make()), true);
    }

    /** The call is good, and later it looks so. */
    void shows(String sentence, Choice call, View view, String look) {
        BatchLinks x = scene.make();
        due.is(sentence + ": it is good", call.of(x), true);
        due.is(sentence, view.of(x), look);
    }

    void none(String sentence, Answer call) {
        leaves(sentence, call, BatchLinks.NONE);
    }

    void no(String sentence, Choice call) {
        leaves(sentence, x -> call.of(x) ? 1 : 0, 0);
    }

    /** The call answers so and leaves all as it was: it is refused, or only asks. */
    void leaves(String sentence, Answer call, long answer) {
        gives(sentence, call, answer);
        for (int i = 0; i < views.size(); i++) {
            BatchLinks x = scene.make();
            call.of(x);
            due.is(sentence + ", and changes nothing", views.get(i).of(x), untouched.get(i));
        }
    }

    private static String thing(BatchLinks x, int thing) {
        StringBuilder text = new StringBuilder();
        for (int what = 0; what <= 8; what++) {
            text.append(x.told(thing, what)).append(' ');
        }
        text.append('[').append(Read.layers(x, thing)).append(']');
        for (int k = 0; k < 3; k++) {
            text.append(' ').append(x.back(thing, k)).append(' ').append(x.recalled(thing, k));
        }
        text.append(" recall ").append(x.recall(thing)).append(" names");
        for (int code = 0; code <= 3; code++) {
            for (int day = 0; day <= 10; day += 5) {
                text.append(x.name(thing, code, day) ? " +" : " -");
            }
        }
        return text.append(' ').append(Read.beginning(x, thing, 7, 12)).toString();
    }

    private static String sums(BatchLinks x) {
        return Read.sums(x) + " doubled " + x.doubled(0) + " " + x.doubled(1);
    }

    private static String balances(BatchLinks x, int certificates) {
        StringBuilder text = new StringBuilder();
        for (int number = 0; number <= certificates; number++) {
            for (int day : DAYS) {
                text.append(x.balance(number, day)).append(' ');
            }
        }
        return text.toString();
    }

    /** A claim of more than there is enters nothing, but its answer tells the last good day. */
    private static String lastGoodDays(BatchLinks x, int certificates) {
        StringBuilder text = new StringBuilder();
        for (int number = 0; number <= certificates; number++) {
            for (int day : DAYS) {
                text.append(x.claim(number, 1000000000L, day)).append(' ');
            }
        }
        return text.toString();
    }

    private static String roomForThings(BatchLinks x) {
        StringBuilder text = new StringBuilder();
        int last = 0;
        for (int i = 0; i <= 70 && last != BatchLinks.NONE; i++) {
            last = x.batch();
            text.append(last).append(' ');
        }
        return text.toString();
    }

    private static String roomForCertificates(BatchLinks x) {
        StringBuilder text = new StringBuilder();
        int last = 0;
        for (int i = 0; i <= 10 && last != BatchLinks.NONE; i++) {
            last = x.certificate(3);
            text.append(last).append(' ');
        }
        return text.toString();
    }

    private static String roomForEntries(BatchLinks x) {
        x.certificate(3);
        int good = 0;
        while (good <= 100 && x.credit(0, 1, 0)) {
            good++;
        }
        return "credits " + good;
    }

    private static String tape(BatchLinks x) {
        return "names " + x.names() + " rules " + x.all(6);
    }

    /** The place of a byte that cannot stand anywhere tells how long the tape was. */
    private static String tapeWithOneMore(BatchLinks x) {
        return "unit " + x.unit('x') + " names " + x.names() + " rules " + x.all(6);
    }
}

/**
 * Rule 7 of LANGUAGE.md: no call throws, for any arguments in an empty, a small and a full object.
 *
 * An object is made anew every hundred calls, so that none comes to 512 and its answers still count.
 */
public final class AnyArgumentsTest {
    private static final Due DUE = new Due();
    private static final int[] INTS = {Integer.MIN_VALUE, Integer.MIN_VALUE + 1, -100, -2, -1, 0, 1, 2, 3, 9, 10, 11,
        39, 40, 41, 68, 69, 70, 71, 79, 80, 81, 99, 100, 101, 399, 400, 401, 999, 1000, 99999, 100000,
        Integer.MAX_VALUE - 1, Integer.MAX_VALUE};
    private static final long[] LONGS = {Long.MIN_VALUE, Long.MIN_VALUE + 1, -1000000001L, -1, 0, 1, 2, 999999999L,
        1000000000L, 1000000001L, 1L << 32, Long.MAX_VALUE - 1, Long.MAX_VALUE};
    private static final int CALLS = 100;

    private final Edge.Scene scene;
    private BatchLinks x;
    private int calls;

    private AnyArgumentsTest(Edge.Scene scene) {
        this.scene = scene;
        x = scene.make();
    }

    public static void main(String[] args) {
        Edge.Scene[] scenes = {BatchLinks::new, Scenes::some, AnyArgumentsTest::fullOfThings,
            AnyArgumentsTest::fullOfEntries, AnyArgumentsTest::fullOfRules, AnyArgumentsTest::fullTape};
        for (Edge.Scene each : scenes) {
            new AnyArgumentsTest(each).asks();
            new AnyArgumentsTest(each).changes();
        }
        beyondTheLastCall();
        DUE.end();
    }

    private static BatchLinks fullOfThings() {
        BatchLinks x = new BatchLinks();
        for (int i = 0; i < 67; i++) {
            x.haul(1000000000L, i, i);
        }
        x.batch();
        x.batch();
        for (int i = 0; i < 160; i++) {
            x.into(i < 80 ? 67 : 68, i % 67, 1 + i);
        }
        x.box(67, 3240, 99);
        DUE.is("full of things and layers", x.all(5) + x.told(68, 2) + x.told(69, 2), 70 + 80 + 80);
        return x;
    }

    private static BatchLinks fullOfEntries() {
        BatchLinks x = new BatchLinks();
        for (int i = 0; i < 10; i++) {
            x.certificate(99999);
        }
        for (int i = 0; i < 100; i++) {
            x.credit(i % 10, 1000000000L, i);
        }
        DUE.is("full of entries", x.credit(0, 1, 1), false);
        return x;
    }

    private static BatchLinks fullOfRules() {
        BatchLinks x = new BatchLinks();
        x.haul(5, 5, 5);
        DUE.is("full of rules", Read.names(x, "1:0-999,0;".repeat(40)), 40);
        return x;
    }

    private static BatchLinks fullTape() {
        BatchLinks x = new BatchLinks();
        for (int i = 0; i < 400; i++) {
            x.unit(255);
        }
        DUE.is("full tape", x.unit(255), false);
        return x;
    }

    private BatchLinks next() {
        calls++;
        if (calls % CALLS == 0) {
            areGramsAndBalances();
            x = scene.make();
        }
        return x;
    }

    private void areGramsAndBalances() {
        DUE.is("each gram", x.all(1) + x.all(2) + x.all(3) + x.all(4), x.all(0));
        DUE.is("never below none", x.balance(0, 5) >= (x.all(7) == 0 ? -1 : 0), true);
    }

    private void asks() {
        for (int a : INTS) {
            next().all(a);
            next().doubled(a);
            next().recall(a);
            for (int b : INTS) {
                next().told(a, b);
                next().back(a, b);
                next().recalled(a, b);
                next().balance(a, b);
                for (int c : INTS) {
                    next().layer(a, b, c);
                    next().share(a, b, c);
                    next().name(a, b, c);
                    next().paper(a, b, c);
                }
            }
        }
    }

    private void changes() {
        for (int a : INTS) {
            next().certificate(a);
            next().unit(a);
            next().hold(a, false);
            next().batch();
            next().names();
            for (long grams : LONGS) {
                next().correct(a, grams);
                for (int b : INTS) {
                    next().haul(grams, a, b);
                    next().into(a, b, grams);
                    next().box(a, grams, b);
                    next().credit(a, grams, b);
                    next().claim(a, grams, b);
                    next().warm(a, b);
                }
                next().waste(a, grams);
            }
        }
    }

    /** What these calls answer is free, but none may throw. */
    private static void beyondTheLastCall() {
        BatchLinks x = fullOfThings();
        for (int i = 0; i < 3000; i++) {
            x.unit(i);
            x.batch();
            x.certificate(i);
            x.credit(i % 10, i, i);
            x.claim(i % 10, i, i);
            x.into(67 + i % 2, i % 70, i % 9);
            x.box(i % 70, i, i % 100);
            x.paper(69, 0, i);
        }
        x.names();
        x.all(0);
    }
}

/** All promises: the class against the model, over runs of calls that a fixed row of numbers chooses. */
public final class ModelTest {
    private static final Due DUE = new Due();
    private static final int CALLS = 500; // a few fewer than 512, since a round makes several
    private static final String BYTES = "0123456789 :-,;\t\n\rx";

    private long seed;
    private final BatchLinks x = new BatchLinks();
    private final Model m = new Model();
    private int calls = 0;

    private ModelTest(long seed) {
        this.seed = seed;
    }

    public static void main(String[] args) {
        for (int run = 0; run < 600; run++) {
            new ModelTest(run).mixed();
            new ModelTest(10000 + run).layered();
            new ModelTest(20000 + run).boxed();
            new ModelTest(30000 + run).texts();
            new ModelTest(40000 + run).certified();
        }
        DUE.end();
    }

    private int below(int bound) {
        seed = seed * 6364136223846793005L + 1442695040888963407L;
        return (int) Math.floorMod(seed >>> 33, (long) bound);
    }

    /** A number within the bound, or now and then one just or far outside. */
    private int about(int bound) {
        int[] far = {-1, bound, Integer.MIN_VALUE, Integer.MAX_VALUE};
        return below(40) == 0 ? far[below(4)] : below(Math.max(bound, 1));
    }

    private int thing() {
        return about((int) m.all(5));
    }

    private void is(String call, long got, long want) {
        calls++;
        DUE.is("call " + calls + " of a run: " + call, got, want);
    }

    private void is(String call, boolean got, boolean want) {
        is(call, got ? 1 : 0, want ? 1 : 0);
    }

    private void mixed() {
        while (calls < CALLS) {
            int choice = below(10);
            if (choice == 0) {
                makeThing();
            } else if (choice < 6) {
                change(30);
            } else {
                ask();
            }
        }
    }

    /** Few things and small parts, so that batches come to 80 layers. */
    private void layered() {
        for (int i = 0; i < 3; i++) {
            is("haul", x.haul(400, i, 0), m.haul(400, i, 0));
            is("batch", x.batch(), m.batch());
        }
        while (calls < CALLS) {
            int target = 1 + 2 * below(3);
            int source = below(6);
            int grams = 1 + below(below(10) == 0 ? 100 : 2);
            is("into", x.into(target, source, grams), m.into(target, source, grams));
            if (below(4) == 0) {
                ask();
            }
            if (below(60) == 0) {
                int from = 1 + 2 * below(3);
                long most = m.told(from, 1);
                is("box", x.box(from, most, 5), m.box(from, most, 5));
            }
        }
    }

    /** Many boxes of few customers. */
    private void boxed() {
        for (int i = 0; i < 5; i++) {
            is("haul", x.haul(50, i, 0), m.haul(50, i, 0));
            is("batch", x.batch(), m.batch());
        }
        while (calls < CALLS) {
            int choice = below(12);
            int from = below(10);
            int customer = below(6) * 19;
            int grams = 1 + below(5);
            if (choice < 2) {
                is("box", x.box(from, grams, customer), m.box(from, grams, customer));
            } else if (choice < 6) {
                change(6);
            } else {
                origin();
            }
        }
    }

    private void texts() {
        is("haul", x.haul(5, 4, 0), m.haul(5, 4, 0));
        while (calls < CALLS - 40) {
            int rules = below(6);
            for (int i = 0; i < rules * 8 && calls < CALLS - 40; i++) {
                int value = below(40) == 0 ? BYTES.charAt(below(BYTES.length())) : "12:3-5,6;".charAt(i % 9);
                value = below(12) == 0 ? ' ' : value;
                value = Character.isDigit(value) ? '0' + below(10) : value;
                int times = Character.isDigit(value) && below(25) == 0 ? 1 + below(7) : 1;
                for (int again = 0; again < times; again++) {
                    is("unit", x.unit(value + 256 * below(3)), m.unit(value));
                }
            }
            is("names", x.names(), m.names());
            is("all", x.all(6), m.all(6));
            for (int i = 0; i < 3; i++) {
                int code = below(100);
                is("name", x.name(0, code, 9), m.name(0, code, 9));
            }
        }
    }

    private void certified() {
        while (calls < CALLS) {
            int number = about((int) m.all(7));
            int day = below(Model.LAST_DAY);
            long grams = below(50) - 1;
            int choice = below(8);
            if (choice == 0 && below(3) == 0) {
                is("certificate", x.certificate(day), m.certificate(day));
            } else if (choice == 1) {
                is("credit", x.credit(number, grams, day), m.credit(number, grams, day));
            } else if (choice == 2) {
                is("claim", x.claim(number, grams / 3, day), m.claim(number, grams / 3, day));
            } else {
                int any = about(Model.LAST_DAY + 5);
                is("balance", x.balance(number, any), m.balance(number, any));
            }
        }
        is("all", x.all(7), m.all(7));
    }

    private void makeThing() {
        int from = thing();
        long grams = below(80);
        int place = about(1000);
        int day = about(100000);
        int customer = about(100);
        switch (below(3)) {
            case 0:
                is("haul", x.haul(grams, place, day), m.haul(grams, place, day));
                break;
            case 1:
                is("batch", x.batch(), m.batch());
                break;
            default:
                is("box", x.box(from, grams / 4, customer), m.box(from, grams / 4, customer));
                break;
        }
    }

    private void change(int bound) {
        int thing = thing();
        int other = thing();
        long grams = below(bound) - 1;
        boolean on = below(4) == 0;
        int eighths = about(4001);
        switch (below(8)) {
            case 0:
                is("waste", x.waste(thing, grams), m.waste(thing, grams));
                break;
            case 1:
                is("hold", x.hold(thing, on), m.hold(thing, on));
                break;
            case 2:
                is("correct", x.correct(thing, grams * 3), m.correct(thing, grams * 3));
                break;
            case 3:
                is("warm", x.warm(thing, eighths), m.warm(thing, eighths));
                break;
            default:
                is("into", x.into(thing, other, grams), m.into(thing, other, grams));
                break;
        }
    }

    private void ask() {
        int thing = thing();
        int what = about(9);
        int k = about(5);
        switch (below(5)) {
            case 0:
                is("told", x.told(thing, what), m.told(thing, what));
                break;
            case 1:
                is("layer", x.layer(thing, k, what & 1), m.layer(thing, k, what & 1));
                break;
            case 2:
                int i = about(30);
                int country = about(100);
                is("paper", x.paper(thing, country, i), m.paper(thing, country, i));
                break;
            case 3:
                is("all", x.all(what), m.all(what));
                is("each gram", x.all(1) + x.all(2) + x.all(3) + x.all(4), x.all(0));
                calls += 5;
                break;
            default:
                origin();
                break;
        }
    }

    private void origin() {
        int thing = thing();
        int haul = thing();
        int k = about(4);
        int part = about(2);
        switch (below(5)) {
            case 0:
                is("share", x.share(thing, haul, part), m.share(thing, haul, part));
                break;
            case 1:
                is("back", x.back(thing, k), m.back(thing, k));
                break;
            case 2:
                is("recall", x.recall(haul), m.recall(haul));
                break;
            case 3:
                is("recalled", x.recalled(haul, k), m.recalled(haul, k));
                break;
            default:
                is("doubled", x.doubled(k), m.doubled(k));
                break;
        }
    }
}

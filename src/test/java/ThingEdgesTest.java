/**
 * The edges of promises 1 to 10 and 25 and of what 'Terms' says of things, a sentence of the document at a time: the
 * last value that is good, the first that is not, and that a refused call changes nothing.
 */
public final class ThingEdgesTest {
    private static final Due DUE = new Due();
    private static final long MOST = 1000000000L;
    private static final int LEAST_INT = Integer.MIN_VALUE;
    private static final int MOST_INT = Integer.MAX_VALUE;
    private static final Edge SOME = new Edge(DUE, Scenes::some);
    private static final Edge SEVENTY = new Edge(DUE, Scenes::seventy);

    public static void main(String[] args) {
        theScene();
        numberedAsTheyCome();
        seventyAtMost();
        layersOfOneGramAndMore();
        aLayerWhollyBeforeTheNext();
        oneOfTheSameHaulJoins();
        eachGramLiesInOneLayer();
        aNewObjectHasNothing();
        haulGrams();
        haulPlace();
        haulDay();
        batchWithoutAnything();
        intoNoSuchThings();
        intoHeld();
        intoNotSoManyGrams();
        intoMoreThanEightyLayers();
        boxNoSuchThing();
        boxNoSuchCustomer();
        boxHeld();
        boxNotSoManyGrams();
        boxOfEightyLayers();
        wasteNoSuchThing();
        wasteNotSoMany();
        wasteInAll();
        holdNoneSuch();
        holdOnAndOff();
        holdHindersNothingElse();
        correctNoSuchHaul();
        correctGrams();
        correctBelowNone();
        correctToNone();
        toldNoneSuch();
        toldOfEachKind();
        layerNoneSuch();
        allOthers();
        allBeyondAnInt();
        DUE.end();
    }

    private static void theScene() {
        DUE.is("the scene", Read.things(Scenes.some()), "150 90 25 34 1 5 3 2"
                + " | 1 60 1 0 0 0 5 100 3 [0:60] | 1 30 1 0 0 200 9 50 4 [1:30]"
                + " | 2 25 2 0 0 200 0 0 0 [1:15 0:10] | 2 0 0 0 0 0 0 0 0 [] | 3 34 2 1 0 200 7 0 0 [0:29 1:5]");
    }

    private static Edge.View layers(int one, int other) {
        return x -> Read.layers(x, one) + "/" + Read.layers(x, other);
    }

    private static void numberedAsTheyCome() {
        BatchLinks x = new BatchLinks();
        DUE.is("Terms, numbered: the first", x.batch(), 0);
        DUE.is("Terms, numbered: refused", x.haul(0, 0, 0), -1);
        DUE.is("Terms, numbered: a refused one takes no number", x.haul(5, 0, 0), 1);
        DUE.is("Terms, numbered: refused", x.box(0, 1, 0), -1);
        DUE.is("Terms, numbered: kinds share the numbers", x.box(1, 1, 0), 2);
        DUE.is("Terms, numbered: the next", x.batch(), 3);
    }

    private static void seventyAtMost() {
        Edge before = new Edge(DUE, Scenes::sixtyNine);
        before.gives("2: the 70th thing is a haul", x -> x.haul(1, 1, 1), 69);
        before.gives("3: the 70th thing is a batch", x -> x.batch(), 69);
        before.gives("5: the 70th thing is a box", x -> x.box(0, 1, 1), 69);
        before.shows("Terms, 70 at most: the 70th thing is a thing", x -> x.box(0, 60, 99) == 69,
            x -> x.told(69, 0) + " " + x.told(69, 6) + " [" + Read.layers(x, 69) + "] " + x.told(70, 0), "3 99 [0:60] -1");
        SEVENTY.none("2: there are 70 things", x -> x.haul(1, 1, 1));
        SEVENTY.none("3: there are 70 things", x -> x.batch());
        SEVENTY.none("5: there are 70 things", x -> x.box(0, 1, 1));
        SEVENTY.none("5: there are 70 things, and all the grams are asked for", x -> x.box(2, 25, 1));
        SEVENTY.yes("4: a batch of 70 things", x -> x.into(69, 0, 1));
        SEVENTY.gives("6: a batch of 70 things", x -> x.waste(2, 1), 1);
    }

    /** What taking so many grams leaves in a thing of 0:3 1:4 0:5, and what comes of it elsewhere. */
    private static void isTaken(long grams, String taken, String left) {
        String told = "Terms, to take " + grams + " of 0:3 1:4 0:5";
        BatchLinks x = threeLayers();
        DUE.is(told + " into a batch", x.into(3, 2, grams), true);
        DUE.is(told + " into a batch: taken", Read.layers(x, 3), taken);
        DUE.is(told + " into a batch: left", Read.layers(x, 2), left);
        BatchLinks y = threeLayers();
        DUE.is(told + " into a box", y.box(2, grams, 1), 4);
        DUE.is(told + " into a box: taken", Read.layers(y, 4), taken);
        DUE.is(told + " into a box: left", Read.layers(y, 2), left);
        BatchLinks z = threeLayers();
        DUE.is(told + " as waste", z.waste(2, grams), grams);
        DUE.is(told + " as waste: left", Read.layers(z, 2), left);
        BatchLinks b = threeLayers();
        b.box(2, 12, 1);
        DUE.is(told + " as waste of a box", b.waste(4, grams), grams);
        DUE.is(told + " as waste of a box: left", Read.layers(b, 4), left);
    }

    private static BatchLinks threeLayers() {
        BatchLinks x = new BatchLinks();
        x.haul(100, 1, 1);
        x.haul(100, 1, 1);
        x.batch();
        x.batch();
        x.into(2, 0, 3);
        x.into(2, 1, 4);
        x.into(2, 0, 5);
        return x;
    }

    private static void layersOfOneGramAndMore() {
        isTaken(2, "0:2", "0:1 1:4 0:5");
        isTaken(3, "0:3", "1:4 0:5");
        isTaken(11, "0:3 1:4 0:4", "0:1");
        isTaken(12, "0:3 1:4 0:5", "");
        BatchLinks x = new BatchLinks();
        x.haul(1, 1, 1);
        x.batch();
        DUE.is("Terms, 1 gram and more: the only gram", x.into(1, 0, 1), true);
        DUE.is("Terms, 1 gram and more: no layer of none", x.told(0, 2), 0);
        DUE.is("Terms, 1 gram and more: a layer of one", Read.layers(x, 1), "0:1");
    }

    private static void aLayerWhollyBeforeTheNext() {
        isTaken(1, "0:1", "0:2 1:4 0:5");
        isTaken(4, "0:3 1:1", "1:3 0:5");
        isTaken(6, "0:3 1:3", "1:1 0:5");
        isTaken(7, "0:3 1:4", "0:5");
        isTaken(8, "0:3 1:4 0:1", "0:4");
    }

    private static void oneOfTheSameHaulJoins() {
        BatchLinks x = threeLayers();
        x.into(3, 0, 1);
        x.into(3, 2, 12);
        DUE.is("Terms, joins: the first that comes", Read.layers(x, 3), "0:4 1:4 0:5");
        BatchLinks y = threeLayers();
        y.into(3, 1, 1);
        y.into(3, 2, 12);
        DUE.is("Terms, joins: another haul does not", Read.layers(y, 3), "1:1 0:3 1:4 0:5");
        BatchLinks z = threeLayers();
        z.into(2, 0, 1);
        DUE.is("Terms, joins: the last, not the first of that haul", Read.layers(z, 2), "0:3 1:4 0:6");
        z.into(2, 1, 1);
        DUE.is("Terms, joins: not one farther before", Read.layers(z, 2), "0:3 1:4 0:6 1:1");
        BatchLinks w = threeLayers();
        w.waste(2, 12);
        w.into(2, 0, 7);
        DUE.is("Terms, joins: what was there before does not count", Read.layers(w, 2), "0:7");
        BatchLinks v = threeLayers();
        v.waste(2, 11);
        v.into(2, 0, 7);
        DUE.is("Terms, joins: the one gram that was left", Read.layers(v, 2), "0:8");
    }

    private static void eachGramLiesInOneLayer() {
        BatchLinks x = Scenes.some();
        isEachGramThere(x, "at first");
        x.into(3, 2, 20);
        isEachGramThere(x, "behind into");
        x.box(3, 16, 1);
        isEachGramThere(x, "behind box");
        x.waste(5, 16);
        isEachGramThere(x, "behind waste");
        x.correct(0, 1000);
        isEachGramThere(x, "behind correct, more");
        x.correct(1, 20);
        isEachGramThere(x, "behind correct, as little as can be");
        x.into(3, 2, 6);
        x.box(2, 6, 1);
        x.waste(3, 5);
        x.correct(1, 19);
        isEachGramThere(x, "behind refused calls");
    }

    private static void isEachGramThere(BatchLinks x, String when) {
        DUE.is("Terms, each gram: " + when, x.all(1) + x.all(2) + x.all(3) + x.all(4), x.all(0));
    }

    private static void aNewObjectHasNothing() {
        Edge fresh = new Edge(DUE, BatchLinks::new);
        for (int what = 0; what <= 7; what++) {
            int each = what;
            fresh.leaves("1: nothing, all " + what, x -> x.all(each), 0);
        }
        fresh.none("1: no thing", x -> x.told(0, 0));
        fresh.none("1: no thing to waste", x -> x.waste(0, 1));
        fresh.no("1: no things for into", x -> x.into(0, 1, 1));
        fresh.none("1: no thing for a box", x -> x.box(0, 1, 0));
        fresh.no("1: no haul to correct", x -> x.correct(0, 1));
        fresh.none("1: no certificate", x -> x.balance(0, 0));
        fresh.none("1: no certificate for a claim", x -> x.claim(0, 1, 0));
        fresh.leaves("1: nothing on the tape", x -> x.names(), 0);
        fresh.gives("1: the first haul", x -> x.haul(1, 0, 0), 0);
        fresh.gives("1: the first batch", x -> x.batch(), 0);
        fresh.gives("1: the first certificate", x -> x.certificate(0), 0);
    }

    private static void haulGrams() {
        SOME.shows("2: grams 1", x -> x.haul(1, 1, 1) == 5, x -> x.told(5, 7) + " " + Read.layers(x, 5), "1 5:1");
        SOME.shows("2: grams 1000000000", x -> x.haul(MOST, 1, 1) == 5, x -> x.told(5, 7) + " " + Read.layers(x, 5),
            "1000000000 5:1000000000");
        for (long grams : new long[] {0, -1, -5, MOST + 1, MOST + 2, Long.MIN_VALUE, Long.MAX_VALUE, 1L << 32,
            (1L << 32) + 1, -(1L << 32) + 1}) {
            SOME.none("2: grams not 1 .. 1000000000: " + grams, x -> x.haul(grams, 1, 1));
        }
    }

    private static void haulPlace() {
        SOME.shows("2: place 0", x -> x.haul(1, 0, 1) == 5, x -> "" + x.told(5, 6), "0");
        SOME.shows("2: place 999", x -> x.haul(1, 999, 1) == 5, x -> "" + x.told(5, 6), "999");
        for (int place : new int[] {-1, 1000, LEAST_INT, MOST_INT}) {
            SOME.none("2: place not 0 .. 999: " + place, x -> x.haul(1, place, 1));
        }
    }

    private static void haulDay() {
        SOME.shows("2: day 0", x -> x.haul(1, 1, 0) == 5, x -> "" + x.told(5, 8), "0");
        SOME.shows("2: day 99999", x -> x.haul(1, 1, 99999) == 5, x -> "" + x.told(5, 8), "99999");
        for (int day : new int[] {-1, 100000, LEAST_INT, MOST_INT}) {
            SOME.none("2: day not 0 .. 99999: " + day, x -> x.haul(1, 1, day));
        }
    }

    private static void batchWithoutAnything() {
        SOME.shows("3: a new batch, without anything", x -> x.batch() == 5, x -> {
            StringBuilder text = new StringBuilder();
            for (int what = 0; what <= 8; what++) {
                text.append(x.told(5, what)).append(' ');
            }
            return text.append(Read.layers(x, 5)).toString();
        }, "2 0 0 0 0 0 0 0 0 ");
    }

    private static void intoNoSuchThings() {
        for (int number : new int[] {-1, 5, 70, LEAST_INT, MOST_INT}) {
            SOME.no("4: no such batch: " + number, x -> x.into(number, 0, 1));
            SOME.no("4: no such thing to take out of: " + number, x -> x.into(2, number, 1));
            SOME.no("4: neither: " + number, x -> x.into(number, number, 1));
        }
        SOME.no("4: a haul is no batch", x -> x.into(0, 1, 1));
        SOME.no("4: a box is no batch", x -> x.into(4, 0, 1));
        SOME.no("4: nothing is taken out of a box", x -> x.into(2, 4, 1));
        SOME.no("4: another batch", x -> x.into(2, 2, 1));
        SOME.no("4: another batch, and all of it", x -> x.into(2, 2, 25));
        SOME.no("4: a haul into itself", x -> x.into(0, 0, 1));
        SOME.no("4: a box into itself", x -> x.into(4, 4, 1));
        SOME.yes("4: out of a haul", x -> x.into(2, 0, 1));
        SOME.yes("4: out of another batch", x -> x.into(3, 2, 1));
    }

    private static void intoHeld() {
        Edge batchHeld = new Edge(DUE, () -> Scenes.someHeld(2));
        batchHeld.no("4: the batch is held", x -> x.into(2, 0, 1));
        batchHeld.no("4: the batch that is taken out of is held", x -> x.into(3, 2, 1));
        batchHeld.yes("4: others are not", x -> x.into(3, 0, 1));
        batchHeld.yes("4: not any more", x -> x.hold(2, false) && x.into(2, 0, 1) && x.into(3, 2, 1));
        Edge haulHeld = new Edge(DUE, () -> Scenes.someHeld(0));
        haulHeld.no("4: the haul is held", x -> x.into(2, 0, 1));
        haulHeld.yes("4: the haul's grams elsewhere are not", x -> x.into(3, 2, 25));
        haulHeld.yes("4: another haul is not", x -> x.into(2, 1, 1));
        haulHeld.yes("4: the haul not any more", x -> x.hold(0, false) && x.into(2, 0, 1));
        Edge bothHeld = new Edge(DUE, () -> {
            BatchLinks x = Scenes.someHeld(0);
            x.hold(3, true);
            return x;
        });
        bothHeld.no("4: both are held", x -> x.into(3, 0, 1));
        bothHeld.no("4: the empty one is held", x -> x.into(3, 1, 1));
    }

    private static void intoNotSoManyGrams() {
        SOME.shows("4: so many grams in a haul", x -> x.into(3, 0, 60), layers(3, 0), "0:60/");
        SOME.shows("4: one gram fewer", x -> x.into(3, 0, 59), layers(3, 0), "0:59/0:1");
        SOME.shows("4: so many grams in a batch", x -> x.into(3, 2, 25), layers(3, 2), "1:15 0:10/");
        SOME.shows("4: one gram", x -> x.into(3, 2, 1), layers(3, 2), "1:1/1:14 0:10");
        SOME.no("4: not so many grams in a haul", x -> x.into(3, 0, 61));
        SOME.no("4: as many as it was told, but not any more", x -> x.into(3, 0, 100));
        SOME.no("4: not so many grams in a batch", x -> x.into(3, 2, 26));
        SOME.no("4: not one in an empty batch", x -> x.into(2, 3, 1));
        for (long grams : new long[] {0, -1, Long.MIN_VALUE, Long.MAX_VALUE, 1L << 32, (1L << 32) + 1}) {
            SOME.no("4: grams below 1, or too many: " + grams, x -> x.into(3, 0, grams));
            SOME.no("4: the same out of a batch: " + grams, x -> x.into(3, 2, grams));
        }
    }

    private static void intoMoreThanEightyLayers() {
        // The 79th layer is of haul 0, the 80th of haul 1.
        Edge has79 = new Edge(DUE, () -> Scenes.layered(79));
        has79.shows("4: the 80th layer", x -> x.into(2, 1, 1), x -> "" + x.told(2, 2), "80");
        has79.shows("4: 79 and two, of which one joins", x -> x.into(2, 3, 4), x -> x.told(2, 2) + " " + x.layer(2, 78, 1)
            + " " + x.layer(2, 79, 1), "80 3 2");
        has79.no("4: 79 and two would be 81 layers", x -> x.into(2, 4, 4));
        has79.no("4: 79 and one and a part", x -> x.into(2, 4, 3));
        has79.shows("4: 79 and one of the two", x -> x.into(2, 4, 2), x -> x.told(2, 2) + " " + x.told(4, 2), "80 1");
        Edge has80 = new Edge(DUE, () -> Scenes.layered(80));
        has80.no("4: the 81st layer", x -> x.into(2, 0, 1));
        has80.no("4: the 81st layer out of a batch", x -> x.into(2, 3, 1));
        has80.shows("4: 80, and what comes joins", x -> x.into(2, 1, 5), x -> x.told(2, 2) + " " + x.layer(2, 79, 1),
            "80 6");
        has80.shows("4: 80, and what comes out of a batch joins", x -> x.into(2, 4, 2), x -> x.told(2, 2) + " "
            + x.layer(2, 79, 1), "80 3");
        has80.no("4: 80, and one joins, but one gram of another comes", x -> x.into(2, 4, 3));
        has80.no("4: 80, and one joins, but another comes", x -> x.into(2, 4, 4));
        has80.shows("4: 80 less one and one more", x -> x.waste(2, 1) == 1 && x.into(2, 0, 1), x -> "" + x.told(2, 2), "80");
        // Batch 3 ends with haul 1, and the 80 layers begin with haul 0; batch 4 is the other way round.
        has80.no("4: 2 and 80 would be 82 layers", x -> x.into(3, 2, 80));
        has80.no("4: 2 and 80 would be 81, as one joins", x -> x.into(4, 2, 80));
        has80.shows("4: 2 and 79, of which one joins", x -> x.into(4, 2, 79), x -> x.told(4, 2) + " " + x.layer(4, 1, 1)
            + " " + x.told(2, 2), "80 3 1");
        has80.shows("4: 2 and 78", x -> x.into(3, 2, 78), x -> x.told(3, 2) + " " + x.told(2, 2), "80 2");
        has80.no("4: 2 and 79", x -> x.into(3, 2, 79));
        has80.shows("4: 1 and 80, of which one joins", x -> x.waste(4, 2) == 2 && x.into(4, 2, 80), x -> x.told(4, 2) + " "
            + x.layer(4, 0, 1), "80 3");
        has80.yes("4: 1 and 80 would be 81 layers", x -> x.waste(3, 2) == 2 && !x.into(3, 2, 80) && x.told(3, 2) == 1);
        has80.shows("4: 0 and 80", x -> x.waste(3, 4) == 4 && x.into(3, 2, 80), x -> x.told(3, 2) + " " + x.told(2, 2),
            "80 0");
    }

    private static void boxNoSuchThing() {
        for (int number : new int[] {-1, 5, 70, LEAST_INT, MOST_INT}) {
            SOME.none("5: no such thing: " + number, x -> x.box(number, 1, 1));
        }
        SOME.none("5: out of a box", x -> x.box(4, 1, 1));
        SOME.gives("5: out of a haul", x -> x.box(0, 1, 1), 5);
        SOME.gives("5: out of a batch", x -> x.box(2, 1, 1), 5);
    }

    private static void boxNoSuchCustomer() {
        SOME.shows("5: customer 0", x -> x.box(0, 1, 0) == 5, x -> "" + x.told(5, 6), "0");
        SOME.shows("5: customer 99", x -> x.box(0, 1, 99) == 5, x -> "" + x.told(5, 6), "99");
        for (int customer : new int[] {-1, 100, LEAST_INT, MOST_INT}) {
            SOME.none("5: no such customer: " + customer, x -> x.box(0, 1, customer));
        }
    }

    private static void boxHeld() {
        for (int thing : new int[] {0, 2}) {
            Edge held = new Edge(DUE, () -> Scenes.someHeld(thing));
            held.none("5: it is held", x -> x.box(thing, 1, 1));
            held.gives("5: not any more", x -> x.hold(thing, false) ? x.box(thing, 1, 1) : 0, 5);
            held.shows("5: another is not, nor is the box", x -> x.box(1, 1, 1) == 5, x -> "" + x.told(5, 4), "0");
        }
    }

    private static void boxNotSoManyGrams() {
        SOME.shows("5: so many grams in a haul", x -> x.box(0, 60, 1) == 5, layers(5, 0), "0:60/");
        SOME.shows("5: so many grams in a batch", x -> x.box(2, 25, 1) == 5, layers(5, 2), "1:15 0:10/");
        SOME.shows("5: one gram", x -> x.box(2, 1, 1) == 5, layers(5, 2), "1:1/1:14 0:10");
        SOME.none("5: not so many grams in a haul", x -> x.box(0, 61, 1));
        SOME.none("5: as many as it was told, but not any more", x -> x.box(0, 100, 1));
        SOME.none("5: not so many grams in a batch", x -> x.box(2, 26, 1));
        SOME.none("5: not one in an empty batch", x -> x.box(3, 1, 1));
        for (long grams : new long[] {0, -1, Long.MIN_VALUE, Long.MAX_VALUE, 1L << 32, (1L << 32) + 1}) {
            SOME.none("5: grams below 1, or too many: " + grams, x -> x.box(0, grams, 1));
            SOME.none("5: the same out of a batch: " + grams, x -> x.box(2, grams, 1));
        }
        SOME.none("5: none of an empty batch", x -> x.box(3, 0, 1));
    }

    private static void boxOfEightyLayers() {
        Edge has80 = new Edge(DUE, () -> Scenes.layered(80));
        has80.shows("5: they lie in 80 layers", x -> x.box(2, 80, 1) == 5, x -> x.told(5, 2) + " " + x.layer(5, 79, 0)
            + " " + x.told(2, 2), "80 1 0");
        has80.shows("5: they lie in 79", x -> x.box(2, 79, 1) == 5, x -> x.told(5, 2) + " " + Read.layers(x, 2), "79 1:1");
    }

    private static void wasteNoSuchThing() {
        for (int number : new int[] {-1, 5, 70, LEAST_INT, MOST_INT}) {
            SOME.none("6: no such thing: " + number, x -> x.waste(number, 1));
        }
    }

    private static void wasteNotSoMany() {
        int[] things = {0, 1, 2, 3, 4};
        long[] inside = {60, 30, 25, 0, 34};
        long[] before = {0, 0, 0, 0, 1};
        for (int thing : things) {
            long most = inside[thing];
            long lost = before[thing];
            SOME.none("6: it has not so many: " + thing, x -> x.waste(thing, most + 1));
            for (long grams : new long[] {0, -1, Long.MIN_VALUE, Long.MAX_VALUE, (1L << 32) + 1}) {
                SOME.none("6: grams below 1, or too many: " + grams, x -> x.waste(thing, grams));
            }
            if (most > 0) {
                SOME.gives("6: one gram of " + thing, x -> x.waste(thing, 1), lost + 1);
                SOME.shows("6: as many as it has: " + thing, x -> x.waste(thing, most) == lost + most, x -> x.told(thing, 1)
                    + " " + x.told(thing, 2) + " " + x.told(thing, 3), "0 0 " + (lost + most));
            }
        }
    }

    private static void wasteInAll() {
        SOME.gives("6: in all, of this thing", x -> x.waste(2, 2) + x.waste(4, 3) * 100 + x.waste(2, 5) * 10000, 70402);
        SOME.shows("6: what is lost stays lost", x -> x.waste(0, 10) == 10 && x.correct(0, 50), x -> x.told(0, 3) + " "
            + x.told(0, 1) + " " + x.all(4), "10 0 11");
        for (int thing : new int[] {0, 2, 4}) {
            Edge held = new Edge(DUE, () -> Scenes.someHeld(thing));
            held.gives("6: nothing is said of held things: " + thing, x -> x.waste(thing, 5), thing == 4 ? 6 : 5);
        }
    }

    private static void holdNoneSuch() {
        for (int number : new int[] {-1, 5, 70, LEAST_INT, MOST_INT}) {
            SOME.no("7: none such: " + number, x -> x.hold(number, true));
            SOME.no("7: none such, off: " + number, x -> x.hold(number, false));
        }
        SEVENTY.yes("7: the 70th", x -> x.hold(69, true) && x.told(69, 4) == 1);
        SEVENTY.no("7: there is no 71st", x -> x.hold(70, true));
    }

    /** Held things are only not taken out of, nor into, for batches and boxes: all else is as before. */
    private static void holdHindersNothingElse() {
        Edge held = new Edge(DUE, () -> {
            BatchLinks x = Scenes.some();
            for (int thing = 0; thing < 5; thing++) {
                x.hold(thing, true);
            }
            return x;
        });
        held.shows("7: held, and told", x -> true, x -> Read.layers(x, 0) + "/" + Read.layers(x, 2) + "/"
            + Read.layers(x, 4) + "/" + x.told(0, 7) + "/" + x.told(4, 6), "0:60/1:15 0:10/0:29 1:5/100/7");
        held.gives("7: held, and its share", x -> x.share(2, 1, 0) * 10 + x.share(2, 1, 1), 35);
        held.gives("7: held, and its hauls", x -> x.back(2, 0) * 10 + x.back(2, 1), 1);
        held.gives("7: held, and recalled", x -> x.recall(0) * 10 + x.recalled(0, 0), 17);
        held.yes("7: held, and its name", x -> x.name(4, 1, 0) && !x.name(4, 2, 10));
        held.shows("7: held, and its paper", x -> true, x -> Read.paper(x, 4, 7), "7/4 0:29 1:5");
        held.gives("7: held, and sums", x -> x.all(1) * 10000 + x.all(2) * 100 + x.all(3), 902534);
        held.gives("7: held, and wasted", x -> x.waste(4, 34), 35);
        held.yes("7: held, and corrected", x -> x.correct(0, 40));
        held.yes("7: held, and warm", x -> x.warm(4, 201) && x.told(4, 5) == 201);
    }

    private static void holdOnAndOff() {
        for (int thing = 0; thing < 5; thing++) {
            int each = thing;
            StringBuilder look = new StringBuilder();
            for (int other = 0; other < 5; other++) {
                look.append(other == thing ? 1 : 0);
            }
            SOME.shows("7: held from now on, and no other: " + thing, x -> x.hold(each, true), ThingEdgesTest::held,
                look.toString());
            SOME.shows("7: held twice", x -> x.hold(each, true) && x.hold(each, true), ThingEdgesTest::held, look.toString());
            SOME.shows("7: once off is enough", x -> x.hold(each, true) && x.hold(each, true) && x.hold(each, false),
                ThingEdgesTest::held, "00000");
            SOME.shows("7: off though it was not on", x -> x.hold(each, false), ThingEdgesTest::held, "00000");
        }
    }

    private static String held(BatchLinks x) {
        StringBuilder text = new StringBuilder();
        for (int thing = 0; thing < 5; thing++) {
            text.append(x.told(thing, 4));
        }
        return text.toString();
    }

    private static void correctNoSuchHaul() {
        for (int number : new int[] {-1, 5, 70, LEAST_INT, MOST_INT}) {
            SOME.no("8: no such haul: " + number, x -> x.correct(number, 100));
        }
        SOME.no("8: a batch", x -> x.correct(2, 100));
        SOME.no("8: an empty batch", x -> x.correct(3, 100));
        SOME.no("8: a box", x -> x.correct(4, 100));
    }

    private static String haul0(BatchLinks x) {
        return x.told(0, 7) + " " + x.told(0, 1) + " " + x.told(0, 2) + " [" + Read.layers(x, 0) + "] " + x.all(0);
    }

    private static void correctGrams() {
        SOME.shows("8: grams 1000000000", x -> x.correct(0, MOST), ThingEdgesTest::haul0,
            "1000000000 999999960 1 [0:999999960] 1000000050");
        for (long grams : new long[] {0, -1, MOST + 1, Long.MIN_VALUE, Long.MAX_VALUE, (1L << 32) + 100}) {
            SOME.no("8: grams not 1 .. 1000000000: " + grams, x -> x.correct(0, grams));
        }
        Edge untouched = new Edge(DUE, () -> {
            BatchLinks x = new BatchLinks();
            x.haul(MOST, 1, 1);
            return x;
        });
        untouched.shows("8: grams 1", x -> x.correct(0, 1), ThingEdgesTest::haul0, "1 1 1 [0:1] 1");
        untouched.no("8: grams 0, of which nothing has gone out", x -> x.correct(0, 0));
        untouched.shows("8: the same as told", x -> x.correct(0, MOST), ThingEdgesTest::haul0,
            "1000000000 1000000000 1 [0:1000000000] 1000000000");
        Edge held = new Edge(DUE, () -> Scenes.someHeld(0));
        held.shows("8: nothing is said of held hauls", x -> x.correct(0, 101), ThingEdgesTest::haul0, "101 61 1 [0:61] 151");
    }

    private static void correctBelowNone() {
        SOME.shows("8: one gram would be left", x -> x.correct(0, 41), ThingEdgesTest::haul0, "41 1 1 [0:1] 91");
        SOME.no("8: there would be less than 0 in it", x -> x.correct(0, 39));
        SOME.no("8: there would be far less", x -> x.correct(0, 1));
        Edge wasted = new Edge(DUE, () -> {
            BatchLinks x = Scenes.some();
            x.waste(0, 60);
            return x;
        });
        wasted.no("8: what is lost cannot come less", x -> x.correct(0, 99));
        wasted.shows("8: the same, with nothing in it", x -> x.correct(0, 100), ThingEdgesTest::haul0, "100 0 0 [] 150");
        wasted.shows("8: one more, with nothing in it", x -> x.correct(0, 101), ThingEdgesTest::haul0, "101 1 1 [0:1] 151");
    }

    private static void correctToNone() {
        SOME.shows("8: no layer any more for 0", x -> x.correct(0, 40), ThingEdgesTest::haul0, "40 0 0 [] 90");
        SOME.shows("8: and again more", x -> x.correct(0, 40) && x.correct(0, 42), ThingEdgesTest::haul0,
            "42 2 1 [0:2] 92");
        SOME.shows("8: what went out stays", x -> x.correct(0, 40), layers(2, 4), "1:15 0:10/0:29 1:5");
        SOME.shows("8: nothing is left to take", x -> x.correct(0, 40) && !x.into(3, 0, 1) && x.waste(0, 1) == -1
            && x.box(0, 1, 1) == -1, ThingEdgesTest::haul0, "40 0 0 [] 90");
    }

    private static void toldNoneSuch() {
        for (int what = 0; what <= 8; what++) {
            int each = what;
            for (int number : new int[] {-1, 5, 70, LEAST_INT, MOST_INT}) {
                SOME.gives("9: none such: " + number, x -> x.told(number, each), -1);
            }
            SEVENTY.gives("9: the 70th, " + what, x -> x.told(69, each), what == 0 ? 2 : 0);
            SEVENTY.gives("9: there is no 71st", x -> x.told(70, each), -1);
        }
        for (int what : new int[] {-1, 9, LEAST_INT, MOST_INT}) {
            for (int thing = 0; thing < 5; thing++) {
                int each = thing;
                SOME.gives("9: for others: " + what, x -> x.told(each, what), -1);
            }
        }
    }

    private static void toldOfEachKind() {
        long[][] due = {{1, 60, 1, 0, 0, 0, 5, 100, 3}, {1, 30, 1, 0, 0, 200, 9, 50, 4},
            {2, 25, 2, 0, 0, 200, 0, 0, 0}, {2, 0, 0, 0, 0, 0, 0, 0, 0}, {3, 34, 2, 1, 0, 200, 7, 0, 0}};
        for (int thing = 0; thing < 5; thing++) {
            for (int what = 0; what <= 8; what++) {
                int asked = thing;
                int each = what;
                SOME.leaves("9: of thing " + thing + ", " + what, x -> x.told(asked, each), due[thing][what]);
            }
        }
    }

    private static void layerNoneSuch() {
        SOME.leaves("10: its haul", x -> x.layer(2, 1, 0), 0);
        SOME.leaves("10: its grams", x -> x.layer(2, 1, 1), 10);
        for (int what = 0; what <= 1; what++) {
            int each = what;
            for (int k : new int[] {-1, 2, 3, 79, 80, 81, LEAST_INT, MOST_INT}) {
                SOME.gives("10: no such layer: " + k, x -> x.layer(2, k, each), -1);
            }
            SOME.gives("10: not one of an empty batch", x -> x.layer(3, 0, each), -1);
            SOME.gives("10: a haul has one", x -> x.layer(0, 1, each), -1);
            for (int number : new int[] {-1, 5, 70, LEAST_INT, MOST_INT}) {
                SOME.gives("10: no such thing: " + number, x -> x.layer(number, 0, each), -1);
            }
        }
        for (int what : new int[] {-1, 2, LEAST_INT, MOST_INT}) {
            SOME.gives("10: for others: " + what, x -> x.layer(2, 0, what), -1);
        }
        Edge has80 = new Edge(DUE, () -> Scenes.layered(80));
        has80.gives("10: the last one of 80", x -> x.layer(2, 79, 0), 1);
        has80.gives("10: there is no 81st", x -> x.layer(2, 80, 0), -1);
        has80.gives("10: there are no grams of it", x -> x.layer(2, 80, 1), -1);
        has80.gives("10: nor of the 80th when one is gone", x -> x.waste(2, 1) + x.layer(2, 79, 1), 0);
    }

    private static void allOthers() {
        long[] due = {150, 90, 25, 34, 1, 5, 3, 2};
        for (int what = 0; what <= 7; what++) {
            int each = what;
            SOME.leaves("25: all " + what, x -> x.all(each), due[what]);
        }
        for (int what : new int[] {-1, 8, LEAST_INT, MOST_INT}) {
            SOME.leaves("25: for others: " + what, x -> x.all(what), -1);
        }
        SOME.gives("25: as told anew", x -> x.correct(1, 20) ? x.all(0) : 0, 120);
        SEVENTY.gives("25: 70 things", x -> x.all(5), 70);
    }

    private static void allBeyondAnInt() {
        Edge many = new Edge(DUE, () -> {
            BatchLinks x = new BatchLinks();
            for (int i = 0; i < 3; i++) {
                x.haul(MOST, 1, 1);
            }
            x.batch();
            return x;
        });
        many.gives("25: told, beyond an int", x -> x.all(0), 3 * MOST);
        many.gives("25: in hauls, beyond an int", x -> x.all(1), 3 * MOST);
        Edge.Choice allInto = x -> x.into(3, 0, MOST) && x.into(3, 1, MOST) && x.into(3, 2, MOST);
        many.gives("25: in batches, beyond an int", x -> allInto.of(x) ? x.all(2) : 0, 3 * MOST);
        many.gives("9: grams in it, beyond an int", x -> allInto.of(x) ? x.told(3, 1) : 0, 3 * MOST);
        many.gives("6: lost, beyond an int", x -> allInto.of(x) ? x.waste(3, 3 * MOST) : 0, 3 * MOST);
        many.gives("25: lost, beyond an int", x -> allInto.of(x) ? x.waste(3, 3 * MOST) - x.all(4) : 1, 0);
        many.gives("25: in boxes, beyond an int", x -> allInto.of(x) ? x.box(3, 3 * MOST, 1) + x.all(3) : 0, 3 * MOST + 4);
        many.shows("4: all of it into another batch", x -> allInto.of(x) && x.batch() == 4 && x.into(4, 3, 3 * MOST),
            x -> x.told(4, 1) + " " + x.told(4, 2), "3000000000 3");
        many.shows("4: one gram less", x -> allInto.of(x) && x.batch() == 4 && x.into(4, 3, 3 * MOST - 1),
            x -> x.told(4, 1) + " " + x.told(3, 1), "2999999999 1");
        many.no("4: one gram more than there is", x -> x.into(3, 0, MOST + 1));
    }
}

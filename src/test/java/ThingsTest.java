/** Promises 1 to 10 and 25: a new object, things, their layers, and the sums over them. */
public final class ThingsTest {
    private static final Due DUE = new Due();
    private static final long MOST = 1000000000L;

    public static void main(String[] args) {
        newObject();
        haul();
        batch();
        into();
        intoJoins();
        intoRefuses();
        intoUpToEightyLayers();
        box();
        boxRefuses();
        boxOfEightyLayers();
        waste();
        hold();
        correct();
        told();
        layer();
        all();
        DUE.end();
    }

    private static void newObject() {
        BatchLinks x = new BatchLinks();
        DUE.is("1: all of a new object", Read.sums(x), "0 0 0 0 0 0 0 0");
        DUE.is("1: told", x.told(0, 0), -1);
        DUE.is("1: recall", x.recall(0), -1);
        DUE.is("1: doubled", x.doubled(0), -1);
        DUE.is("1: name", x.name(0, 0, 0), false);
        DUE.is("1: balance", x.balance(0, 0), -1);
        DUE.is("1: names of an empty tape", x.names(), 0);
        BatchLinks other = new BatchLinks();
        x.haul(1, 2, 3);
        x.certificate(1);
        DUE.is("1: objects share nothing", Read.sums(other), "0 0 0 0 0 0 0 0");
    }

    private static void haul() {
        BatchLinks x = new BatchLinks();
        DUE.is("2: least", x.haul(1, 0, 0), 0);
        DUE.is("2: most", x.haul(MOST, 999, 99999), 1);
        DUE.is("2: told", Read.things(x), "1000000001 1000000001 0 0 0 2 0 0"
                + " | 1 1 1 0 0 0 0 1 0 [0:1] | 1 1000000000 1 0 0 0 999 1000000000 99999 [1:1000000000]");
        String before = Read.things(x);
        DUE.is("2: no grams", x.haul(0, 0, 0), -1);
        DUE.is("2: grams below 0", x.haul(-1, 0, 0), -1);
        DUE.is("2: least long", x.haul(Long.MIN_VALUE, 0, 0), -1);
        DUE.is("2: too many grams", x.haul(MOST + 1, 0, 0), -1);
        DUE.is("2: greatest long", x.haul(Long.MAX_VALUE, 0, 0), -1);
        DUE.is("2: a long whose low bits are good", x.haul((1L << 32) + 5, 0, 0), -1);
        DUE.is("2: place below 0", x.haul(1, -1, 0), -1);
        DUE.is("2: place above", x.haul(1, 1000, 0), -1);
        DUE.is("2: day below 0", x.haul(1, 0, -1), -1);
        DUE.is("2: day above", x.haul(1, 0, 100000), -1);
        DUE.is("2: what is refused changes nothing", Read.things(x), before);
        for (int i = 2; i < 70; i++) {
            DUE.is("2: number " + i, x.haul(5, 1, 1), i);
        }
        DUE.is("2: the 71st", x.haul(5, 1, 1), -1);
        DUE.is("2: things", x.all(5), 70);
        DUE.is("2: the last number", x.told(69, 0), 1);
        DUE.is("2: there is none behind it", x.told(70, 0), -1);
    }

    private static void batch() {
        BatchLinks x = new BatchLinks();
        for (int i = 0; i < 70; i++) {
            DUE.is("3: number " + i, x.batch(), i);
        }
        DUE.is("3: the 71st", x.batch(), -1);
        DUE.is("3: without anything", x.told(69, 1), 0);
        DUE.is("3: without layers", x.told(69, 2), 0);
        DUE.is("3: the haul behind 70 batches", x.haul(1, 1, 1), -1);
    }

    private static void into() {
        BatchLinks x = new BatchLinks();
        x.haul(100, 1, 1);
        x.haul(50, 2, 1);
        x.batch();
        x.batch();
        DUE.is("4: a part", x.into(2, 0, 60), true);
        DUE.is("4: another haul", x.into(2, 1, 50), true);
        DUE.is("4: the first haul again", x.into(2, 0, 40), true);
        DUE.is("4: layers", Read.layers(x, 2), "0:60 1:50 0:40");
        DUE.is("4: the hauls are empty", Read.layers(x, 0) + Read.layers(x, 1), "");
        DUE.is("4: out of a batch, oldest first", x.into(3, 2, 70), true);
        DUE.is("4: layers taken", Read.layers(x, 3), "0:60 1:10");
        DUE.is("4: layers left", Read.layers(x, 2), "1:40 0:40");
        DUE.is("4: a layer wholly and no more", x.into(3, 2, 40), true);
        DUE.is("4: it joins", Read.layers(x, 3), "0:60 1:50");
        DUE.is("4: left", Read.layers(x, 2), "0:40");
        DUE.is("4: the rest", x.into(3, 2, 40), true);
        DUE.is("4: nothing left", Read.layers(x, 2), "");
        DUE.is("4: back into the empty one", x.into(2, 3, 150), true);
        DUE.is("4: all of it", Read.layers(x, 2), "0:60 1:50 0:40");
        DUE.is("4: sums", Read.sums(x), "150 0 150 0 0 4 0 0");
    }

    private static void intoJoins() {
        BatchLinks x = new BatchLinks();
        x.haul(10, 1, 1);
        x.haul(10, 1, 1);
        x.batch();
        x.batch();
        x.into(2, 0, 3);
        x.into(2, 0, 3);
        DUE.is("4: the same haul joins", Read.layers(x, 2), "0:6");
        x.into(2, 1, 1);
        x.into(2, 0, 1);
        x.into(3, 1, 2);
        x.into(3, 0, 2);
        x.into(3, 2, 8);
        DUE.is("4: only neighbours join", Read.layers(x, 3), "1:2 0:8 1:1 0:1");
    }

    private static void intoRefuses() {
        BatchLinks x = new BatchLinks();
        x.haul(100, 1, 1);
        x.haul(100, 1, 1);
        x.batch();
        x.batch();
        x.into(2, 0, 10);
        x.box(2, 5, 1);
        String before = Read.things(x);
        DUE.is("4: no such batch", x.into(5, 0, 1), false);
        DUE.is("4: batch below 0", x.into(-1, 0, 1), false);
        DUE.is("4: least int", x.into(Integer.MIN_VALUE, 0, 1), false);
        DUE.is("4: greatest int", x.into(2, Integer.MAX_VALUE, 1), false);
        DUE.is("4: no such source", x.into(2, 5, 1), false);
        DUE.is("4: source below 0", x.into(2, -1, 1), false);
        DUE.is("4: into a haul", x.into(1, 0, 1), false);
        DUE.is("4: a haul into itself", x.into(0, 0, 1), false);
        DUE.is("4: into a box", x.into(4, 0, 1), false);
        DUE.is("4: out of a box", x.into(2, 4, 1), false);
        DUE.is("4: a batch into itself", x.into(2, 2, 1), false);
        DUE.is("4: no grams", x.into(2, 0, 0), false);
        DUE.is("4: grams below 0", x.into(2, 0, -1), false);
        DUE.is("4: least long", x.into(2, 0, Long.MIN_VALUE), false);
        DUE.is("4: one too many", x.into(2, 0, 91), false);
        DUE.is("4: greatest long", x.into(2, 0, Long.MAX_VALUE), false);
        DUE.is("4: out of nothing", x.into(2, 3, 1), false);
        DUE.is("4: what is refused changes nothing", Read.things(x), before);
        x.hold(2, true);
        DUE.is("4: the batch is held", x.into(2, 0, 1), false);
        DUE.is("4: out of the held batch", x.into(3, 2, 1), false);
        x.hold(2, false);
        x.hold(0, true);
        DUE.is("4: the haul is held", x.into(2, 0, 1), false);
        x.hold(0, false);
        DUE.is("4: held things changed nothing", Read.things(x), before);
        DUE.is("4: all of the haul", x.into(2, 0, 90), true);
    }

    private static void intoUpToEightyLayers() {
        BatchLinks x = new BatchLinks();
        x.haul(1000, 1, 1);
        x.haul(1000, 1, 1);
        x.batch();
        x.batch();
        for (int i = 0; i < 79; i++) {
            DUE.is("4: layer " + i, x.into(2, i % 2, 1), true);
        }
        x.into(3, 1, 1);
        x.into(3, 0, 1);
        DUE.is("4: two layers more than 79", x.into(2, 3, 2), false);
        DUE.is("4: one more", x.into(2, 3, 1), true);
        DUE.is("4: eighty", x.told(2, 2), 80);
        DUE.is("4: the 81st", x.into(2, 0, 1), false);
        DUE.is("4: it joins the last one", x.into(2, 1, 5), true);
        DUE.is("4: still eighty", x.told(2, 2), 80);
        DUE.is("4: the last one", x.layer(2, 79, 1), 6);
        x.into(3, 1, 3);
        x.waste(3, 1);
        x.into(3, 0, 1);
        DUE.is("4: joins, but a second one comes behind", x.into(2, 3, 4), false);
        DUE.is("4: joins, and is all", x.into(2, 3, 3), true);
        DUE.is("4: the last one now", x.layer(2, 79, 1), 9);
        DUE.is("4: eighty at once", x.into(3, 2, 88), true);
        DUE.is("4: behind a layer of their first haul", x.told(3, 2), 80);
        DUE.is("4: the first one joined", x.layer(3, 0, 1), 2);
    }

    private static void box() {
        BatchLinks x = new BatchLinks();
        x.haul(10, 1, 1);
        x.haul(10, 1, 1);
        x.batch();
        x.into(2, 0, 4);
        x.into(2, 1, 4);
        DUE.is("5: out of a batch", x.box(2, 6, 99), 3);
        DUE.is("5: out of a haul", x.box(0, 6, 0), 4);
        DUE.is("5: layers", Read.layers(x, 3), "0:4 1:2");
        DUE.is("5: left", Read.layers(x, 2), "1:2");
        DUE.is("5: layers of the second", Read.layers(x, 4), "0:6");
        DUE.is("5: nothing left in the haul", Read.layers(x, 0), "");
        DUE.is("5: kind", x.told(3, 0), 3);
        DUE.is("5: customer", x.told(3, 6), 99);
        DUE.is("5: the other customer", x.told(4, 6), 0);
    }

    private static void boxRefuses() {
        BatchLinks x = new BatchLinks();
        x.haul(10, 1, 1);
        x.batch();
        x.box(0, 5, 1);
        String before = Read.things(x);
        DUE.is("5: no such thing", x.box(3, 1, 1), -1);
        DUE.is("5: thing below 0", x.box(-1, 1, 1), -1);
        DUE.is("5: greatest int", x.box(Integer.MAX_VALUE, 1, 1), -1);
        DUE.is("5: out of a box", x.box(2, 1, 1), -1);
        DUE.is("5: customer below 0", x.box(0, 1, -1), -1);
        DUE.is("5: customer above", x.box(0, 1, 100), -1);
        DUE.is("5: no grams", x.box(0, 0, 1), -1);
        DUE.is("5: grams below 0", x.box(0, -5, 1), -1);
        DUE.is("5: one too many", x.box(0, 6, 1), -1);
        DUE.is("5: greatest long", x.box(0, Long.MAX_VALUE, 1), -1);
        DUE.is("5: least long", x.box(0, Long.MIN_VALUE, 1), -1);
        DUE.is("5: out of nothing", x.box(1, 1, 1), -1);
        x.hold(0, true);
        DUE.is("5: held", x.box(0, 1, 1), -1);
        x.hold(0, false);
        DUE.is("5: what is refused changes nothing", Read.things(x), before);
        for (int i = 3; i < 70; i++) {
            x.batch();
        }
        DUE.is("5: the 71st", x.box(0, 1, 1), -1);
        DUE.is("5: its grams stay", x.told(0, 1), 5);
    }

    private static void boxOfEightyLayers() {
        BatchLinks x = new BatchLinks();
        x.haul(MOST, 1, 1);
        x.haul(MOST, 1, 1);
        x.batch();
        for (int i = 0; i < 80; i++) {
            x.into(2, i % 2, 1 + i);
        }
        DUE.is("5: eighty layers at once", x.box(2, 3240, 1), 3);
        DUE.is("5: its layers", x.told(3, 2), 80);
        DUE.is("5: the last layer", x.layer(3, 79, 1), 80);
        DUE.is("5: the batch is empty", x.told(2, 2), 0);
    }

    private static void waste() {
        BatchLinks x = new BatchLinks();
        x.haul(10, 1, 1);
        x.haul(10, 1, 1);
        x.batch();
        x.into(2, 0, 4);
        x.into(2, 1, 4);
        x.box(2, 6, 5);
        DUE.is("6: of a haul", x.waste(0, 2), 2);
        DUE.is("6: in all", x.waste(0, 3), 5);
        DUE.is("6: of a box", x.waste(3, 5), 5);
        DUE.is("6: the oldest first", Read.layers(x, 3), "1:1");
        DUE.is("6: of a batch", x.waste(2, 1), 1);
        String before = Read.things(x);
        DUE.is("6: no such thing", x.waste(4, 1), -1);
        DUE.is("6: thing below 0", x.waste(-1, 1), -1);
        DUE.is("6: no grams", x.waste(0, 0), -1);
        DUE.is("6: grams below 0", x.waste(0, -1), -1);
        DUE.is("6: least long", x.waste(0, Long.MIN_VALUE), -1);
        DUE.is("6: one too many", x.waste(0, 2), -1);
        DUE.is("6: greatest long", x.waste(0, Long.MAX_VALUE), -1);
        DUE.is("6: what is refused changes nothing", Read.things(x), before);
        x.hold(0, true);
        DUE.is("6: of a held thing, all of it", x.waste(0, 1), 6);
        DUE.is("6: lost", x.told(0, 3), 6);
        DUE.is("6: no layer", x.told(0, 2), 0);
        DUE.is("6: sums", Read.sums(x), "20 6 1 1 12 4 0 0");
    }

    private static void hold() {
        BatchLinks x = new BatchLinks();
        DUE.is("7: none such", x.hold(0, true), false);
        x.haul(10, 1, 1);
        x.batch();
        x.box(0, 1, 1);
        for (int thing = 0; thing < 3; thing++) {
            DUE.is("7: not held at first", x.told(thing, 4), 0);
            DUE.is("7: on", x.hold(thing, true), true);
            DUE.is("7: held", x.told(thing, 4), 1);
            DUE.is("7: on again", x.hold(thing, true), true);
            DUE.is("7: off", x.hold(thing, false), true);
            DUE.is("7: not held", x.told(thing, 4), 0);
            DUE.is("7: off again", x.hold(thing, false), true);
        }
        DUE.is("7: below 0", x.hold(-1, true), false);
        DUE.is("7: above", x.hold(3, true), false);
        DUE.is("7: greatest int", x.hold(Integer.MAX_VALUE, true), false);
        x.hold(2, true);
        DUE.is("7: only the one", x.told(0, 4) + x.told(1, 4), 0);
    }

    private static void correct() {
        BatchLinks x = new BatchLinks();
        x.haul(100, 1, 1);
        x.batch();
        x.into(1, 0, 60);
        x.waste(0, 10);
        DUE.is("8: more", x.correct(0, 150), true);
        DUE.is("8: lies in it", Read.layers(x, 0), "0:80");
        DUE.is("8: told", x.told(0, 7), 150);
        DUE.is("8: less", x.correct(0, 71), true);
        DUE.is("8: lies in it now", Read.layers(x, 0), "0:1");
        String before = Read.things(x);
        DUE.is("8: below 0", x.correct(0, 69), false);
        DUE.is("8: no grams", x.correct(0, 0), false);
        DUE.is("8: grams below 0", x.correct(0, -1), false);
        DUE.is("8: too many", x.correct(0, MOST + 1), false);
        DUE.is("8: least long", x.correct(0, Long.MIN_VALUE), false);
        DUE.is("8: greatest long", x.correct(0, Long.MAX_VALUE), false);
        DUE.is("8: a batch", x.correct(1, 5), false);
        DUE.is("8: no such haul", x.correct(2, 5), false);
        DUE.is("8: haul below 0", x.correct(-1, 5), false);
        DUE.is("8: what is refused changes nothing", Read.things(x), before);
        DUE.is("8: to 0", x.correct(0, 70), true);
        DUE.is("8: no layer", x.told(0, 2), 0);
        DUE.is("8: the same again", x.correct(0, 70), true);
        DUE.is("8: still no layer", x.told(0, 2), 0);
        x.hold(0, true);
        DUE.is("8: a held one, up to the most", x.correct(0, MOST), true);
        DUE.is("8: a layer again", Read.layers(x, 0), "0:999999930");
        DUE.is("8: what went out of it stays", Read.layers(x, 1), "0:60");
        DUE.is("8: sums", Read.sums(x), "1000000000 999999930 60 0 10 2 0 0");
        BatchLinks y = new BatchLinks();
        y.haul(5, 1, 1);
        y.haul(7, 1, 1);
        y.box(1, 2, 1);
        DUE.is("8: a box", y.correct(2, 5), false);
        DUE.is("8: the second haul", y.correct(1, 9), true);
        DUE.is("8: its layer", Read.layers(y, 1), "1:7");
        DUE.is("8: least", y.correct(0, 1), true);
        DUE.is("8: of the first", Read.layers(y, 0), "0:1");
    }

    private static void told() {
        BatchLinks x = new BatchLinks();
        x.haul(100, 7, 8);
        x.batch();
        x.into(1, 0, 30);
        x.box(1, 20, 9);
        x.waste(0, 1);
        x.waste(1, 2);
        x.waste(2, 3);
        x.warm(0, 11);
        x.warm(1, 12);
        x.hold(2, true);
        DUE.is("9: all", Read.things(x), "100 69 8 17 6 3 0 0 | 1 69 1 1 0 11 7 100 8 [0:69]"
                + " | 2 8 1 2 0 12 0 0 0 [0:8] | 3 17 1 3 1 0 9 0 0 [0:17]");
        for (int thing = 0; thing < 3; thing++) {
            DUE.is("9: what below 0", x.told(thing, -1), -1);
            DUE.is("9: what above", x.told(thing, 9), -1);
            DUE.is("9: least int", x.told(thing, Integer.MIN_VALUE), -1);
        }
        for (int what = 0; what <= 8; what++) {
            DUE.is("9: none such", x.told(3, what), -1);
            DUE.is("9: below 0", x.told(-1, what), -1);
            DUE.is("9: greatest int", x.told(Integer.MAX_VALUE, what), -1);
        }
    }

    private static void layer() {
        BatchLinks x = new BatchLinks();
        x.haul(10, 1, 1);
        x.haul(20, 1, 1);
        x.batch();
        x.into(2, 1, 15);
        x.into(2, 0, 5);
        DUE.is("10: haul of the first", x.layer(2, 0, 0), 1);
        DUE.is("10: grams of the first", x.layer(2, 0, 1), 15);
        DUE.is("10: haul of the second", x.layer(2, 1, 0), 0);
        DUE.is("10: grams of the second", x.layer(2, 1, 1), 5);
        DUE.is("10: of a haul", x.layer(1, 0, 0), 1);
        for (int what = 0; what < 2; what++) {
            DUE.is("10: k behind the last", x.layer(2, 2, what), -1);
            DUE.is("10: k below 0", x.layer(2, -1, what), -1);
            DUE.is("10: least k", x.layer(2, Integer.MIN_VALUE, what), -1);
            DUE.is("10: greatest k", x.layer(2, Integer.MAX_VALUE, what), -1);
            DUE.is("10: none such", x.layer(3, 0, what), -1);
            DUE.is("10: below 0", x.layer(-1, 0, what), -1);
        }
        DUE.is("10: what above", x.layer(2, 0, 2), -1);
        DUE.is("10: what below 0", x.layer(2, 0, -1), -1);
        x.waste(2, 15);
        DUE.is("10: there is no second one any more", x.layer(2, 1, 0), -1);
        DUE.is("10: the first one is another", x.layer(2, 0, 0), 0);
    }

    private static void all() {
        BatchLinks x = new BatchLinks();
        x.haul(1000, 1, 1);
        x.haul(500, 1, 1);
        x.batch();
        x.batch();
        x.into(2, 0, 300);
        x.into(3, 1, 200);
        x.box(2, 100, 1);
        x.box(3, 50, 2);
        x.waste(0, 1);
        x.waste(2, 10);
        x.waste(4, 100);
        x.certificate(5);
        x.certificate(6);
        Read.names(x, "1:2-3,4;5:6-7,8;9:1-1,1;");
        DUE.is("25: sums", Read.sums(x), "1500 999 340 50 111 6 3 2");
        x.correct(1, 400);
        DUE.is("25: corrected", Read.sums(x), "1400 899 340 50 111 6 3 2");
        DUE.is("25: below 0", x.all(-1), -1);
        DUE.is("25: above", x.all(8), -1);
        DUE.is("25: least int", x.all(Integer.MIN_VALUE), -1);
        BatchLinks y = new BatchLinks();
        for (int i = 0; i < 70; i++) {
            y.haul(MOST, 1, 1);
        }
        DUE.is("25: more than an int holds", y.all(0), 70 * MOST);
        DUE.is("25: in hauls, too", y.all(1), 70 * MOST);
    }
}

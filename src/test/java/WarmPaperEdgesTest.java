/** The edges of promises 23 and 24, and of what 'Terms' says of the WARMEST. */
public final class WarmPaperEdgesTest {
    private static final Due DUE = new Due();
    private static final long MOST = 1000000000L;
    private static final int LEAST_INT = Integer.MIN_VALUE;
    private static final int MOST_INT = Integer.MAX_VALUE;
    private static final Edge SOME = new Edge(DUE, Scenes::some);

    public static void main(String[] args) {
        warmNoneSuch();
        warmEighths();
        zeroAtFirst();
        theGreatestThatWasTold();
        asItWasThen();
        fromThingToThing();
        whatIsRefusedWarmsNothing();
        paperNoSuchBox();
        paperNoSuchCountry();
        paperNoSuchByte();
        paperOfNoLayers();
        paperDigits();
        paperOfEightyLayers();
        DUE.end();
    }

    private static void warmNoneSuch() {
        for (int number : new int[] {-1, 5, 70, LEAST_INT, MOST_INT}) {
            SOME.no("23: none such: " + number, x -> x.warm(number, 100));
        }
        Edge seventy = new Edge(DUE, Scenes::seventy);
        seventy.yes("23: the 70th", x -> x.warm(69, 100) && x.told(69, 5) == 100);
        seventy.no("23: there is no 71st", x -> x.warm(70, 100));
    }

    private static void warmEighths() {
        for (int thing : new int[] {0, 3}) {
            SOME.shows("23: eighths 1", x -> x.warm(thing, 1), x -> "" + x.told(thing, 5), "1");
            SOME.shows("23: eighths 4000", x -> x.warm(thing, 4000), x -> "" + x.told(thing, 5), "4000");
            for (int eighths : new int[] {0, -1, 4001, LEAST_INT, MOST_INT}) {
                SOME.no("23: eighths not 1 .. 4000: " + eighths, x -> x.warm(thing, eighths));
            }
        }
        SOME.shows("23: a batch", x -> x.warm(2, 300), x -> "" + x.told(2, 5), "300");
        SOME.shows("23: a box", x -> x.warm(4, 300), x -> "" + x.told(4, 5), "300");
    }

    private static void zeroAtFirst() {
        SOME.gives("Terms, 0 at first: a haul", x -> x.told(x.haul(1, 1, 1), 5), 0);
        SOME.gives("Terms, 0 at first: a batch", x -> x.told(x.batch(), 5), 0);
        SOME.gives("Terms, 0 at first: a box of what was never warm", x -> x.told(x.box(0, 1, 1), 5), 0);
    }

    private static void theGreatestThatWasTold() {
        SOME.shows("Terms, the greatest: one less", x -> x.warm(1, 199), x -> "" + x.told(1, 5), "200");
        SOME.shows("Terms, the greatest: the same", x -> x.warm(1, 200), x -> "" + x.told(1, 5), "200");
        SOME.shows("Terms, the greatest: one more", x -> x.warm(1, 201), x -> "" + x.told(1, 5), "201");
        SOME.shows("Terms, the greatest: and then less", x -> x.warm(1, 4000) && x.warm(1, 1), x -> "" + x.told(1, 5),
            "4000");
        Edge held = new Edge(DUE, () -> Scenes.someHeld(1));
        held.shows("23: nothing is said of held things", x -> x.warm(1, 201), x -> "" + x.told(1, 5), "201");
    }

    private static String warmest(BatchLinks x) {
        StringBuilder text = new StringBuilder();
        for (int thing = 0; thing < x.all(5); thing++) {
            text.append(thing == 0 ? "" : " ").append(x.told(thing, 5));
        }
        return text.toString();
    }

    private static void asItWasThen() {
        SOME.shows("Terms, as it was then: the haul is warmer later", x -> x.warm(1, 900), WarmPaperEdgesTest::warmest,
            "0 900 200 0 200");
        SOME.shows("Terms, as it was then: the batch is warmer later", x -> x.warm(2, 900), WarmPaperEdgesTest::warmest,
            "0 200 900 0 200");
        SOME.shows("Terms, as it was then: the box is", x -> x.warm(4, 900), WarmPaperEdgesTest::warmest,
            "0 200 200 0 900");
        SOME.shows("Terms, as it was then: before one gram is taken", x -> x.warm(1, 900) && x.into(3, 1, 1),
            WarmPaperEdgesTest::warmest, "0 900 200 900 200");
        SOME.shows("Terms, as it was then: and then warmer", x -> x.into(3, 1, 1) && x.warm(1, 900),
            WarmPaperEdgesTest::warmest, "0 900 200 200 200");
    }

    private static void fromThingToThing() {
        SOME.shows("Terms, of a thing: colder grams", x -> x.into(2, 0, 1), WarmPaperEdgesTest::warmest, "0 200 200 0 200");
        SOME.shows("Terms, of a thing: one eighth more", x -> x.warm(0, 201) && x.into(2, 0, 1),
            WarmPaperEdgesTest::warmest, "201 200 201 0 200");
        SOME.shows("Terms, of a thing: one eighth less", x -> x.warm(0, 199) && x.into(2, 0, 1),
            WarmPaperEdgesTest::warmest, "199 200 200 0 200");
        SOME.shows("Terms, of a thing: the warmest of the batch, not of the grams' haul", x -> x.waste(2, 15) == 15
            && x.into(3, 2, 10), WarmPaperEdgesTest::warmest, "0 200 200 200 200");
        SOME.shows("Terms, of a thing: a box of a batch", x -> x.box(2, 1, 1) == 5, WarmPaperEdgesTest::warmest,
            "0 200 200 0 200 200");
        SOME.shows("Terms, of a thing: a box of a haul", x -> x.warm(0, 7) && x.box(0, 1, 1) == 5,
            WarmPaperEdgesTest::warmest, "7 200 200 0 200 7");
        SOME.shows("Terms, of a thing: not the one that is taken out of", x -> x.warm(3, 4000) && x.into(3, 2, 25),
            WarmPaperEdgesTest::warmest, "0 200 200 4000 200");
        SOME.shows("Terms, of a thing: it stays when all is gone", x -> x.waste(2, 25) == 25 && x.waste(4, 34) == 35,
            WarmPaperEdgesTest::warmest, "0 200 200 0 200");
        SOME.shows("Terms, of a thing: and goes on when something comes again", x -> x.waste(2, 25) == 25
            && x.into(2, 0, 1) && x.into(3, 2, 1), WarmPaperEdgesTest::warmest, "0 200 200 200 200");
        SOME.shows("Terms, of a thing: a haul told anew", x -> x.correct(1, 20) && x.correct(1, 30),
            WarmPaperEdgesTest::warmest, "0 200 200 0 200");
    }

    private static void whatIsRefusedWarmsNothing() {
        Edge warmed = new Edge(DUE, () -> {
            BatchLinks x = Scenes.some();
            x.warm(0, 4000);
            return x;
        });
        warmed.no("4: refused, so nothing is warmer", x -> x.into(3, 0, 61));
        warmed.no("4: refused, no grams", x -> x.into(3, 0, 0));
        warmed.none("5: refused, so nothing is warmer", x -> x.box(0, 61, 1));
        warmed.shows("6: waste warms nothing", x -> x.waste(0, 1) == 1, WarmPaperEdgesTest::warmest, "4000 200 200 0 200");
    }

    private static void paperNoSuchBox() {
        for (int number : new int[] {-1, 0, 1, 2, 3, 5, 70, LEAST_INT, MOST_INT}) {
            for (int i = 0; i < 3; i++) {
                int each = i;
                SOME.gives("24: no such box: " + number, x -> x.paper(number, 7, each), -1);
            }
        }
        SOME.leaves("24: a box", x -> x.paper(4, 7, 0), '7');
    }

    private static void paperNoSuchCountry() {
        String rest = "/4 0:29 1:5";
        int[] good = {0, 1, 9, 10, 11, 90, 98, 99};
        for (int country : good) {
            DUE.is("24: country " + country, Read.paper(Scenes.some(), 4, country), country + rest);
        }
        for (int country : new int[] {-1, 100, LEAST_INT, MOST_INT}) {
            SOME.none("24: no such country: " + country, x -> x.paper(4, country, 0));
            SOME.none("24: no such country, another byte: " + country, x -> x.paper(4, country, 3));
        }
    }

    private static void paperNoSuchByte() {
        String due = "47/4 0:29 1:5";
        for (int i = 0; i < due.length(); i++) {
            int each = i;
            SOME.gives("24: byte " + i, x -> x.paper(4, 47, each), due.charAt(i));
        }
        for (int i : new int[] {-1, due.length(), due.length() + 1, 1129, 1130, 1131, LEAST_INT, MOST_INT}) {
            SOME.none("24: no such byte: " + i, x -> x.paper(4, 47, i));
        }
        SOME.gives("24: behind a longer one", x -> x.paper(4, 47, 12) + x.paper(4, 7, 12), '5' - 1);
    }

    private static void paperOfNoLayers() {
        SOME.shows("24: a box with nothing in it any more", x -> x.waste(4, 34) == 35, x -> Read.paper(x, 4, 7), "7/4");
        SOME.shows("24: one gram", x -> x.waste(4, 33) == 34, x -> Read.paper(x, 4, 7), "7/4 1:1");
        SOME.shows("24: the last layer", x -> x.waste(4, 29) == 30, x -> Read.paper(x, 4, 7), "7/4 1:5");
    }

    private static void paperDigits() {
        BatchLinks x = new BatchLinks();
        for (int i = 0; i < 11; i++) {
            x.haul(MOST, 1, 1);
        }
        x.batch();
        long[] grams = {1, 9, 10, 99, 100, 109, 999999999, MOST, 1000, 90909, 500000000};
        StringBuilder due = new StringBuilder("0/12");
        for (int i = 10; i >= 0; i--) {
            x.into(11, i, grams[i]);
            due.append(' ').append(i).append(':').append(grams[i]);
        }
        DUE.is("24: a box", x.box(11, x.told(11, 1), 0), 12);
        DUE.is("24: no 0 before, and all digits", Read.paper(x, 12, 0), due.toString());
        for (int box : new int[] {1, 9, 10, 69}) {
            BatchLinks y = new BatchLinks();
            y.haul(1000, 1, 1);
            for (int i = 1; i < box; i++) {
                y.batch();
            }
            DUE.is("24: box " + box, y.box(0, 100, 5), box);
            DUE.is("24: the digits of box " + box, Read.paper(y, box, 10), "10/" + box + " 0:100");
        }
    }

    /** The longest paper that can be comes to more bytes than an object has calls, so it is read in three parts. */
    private static void paperOfEightyLayers() {
        StringBuilder due = new StringBuilder("99/69");
        for (int i = 0; i < 80; i++) {
            due.append(' ').append(hauled(i)).append(':').append(gramsOf(i));
        }
        for (int part = 0; part < due.length(); part += 300) {
            BatchLinks x = longest();
            for (int i = part; i < Math.min(due.length(), part + 300); i++) {
                DUE.is("24: byte " + i + " of eighty layers", x.paper(69, 99, i), due.charAt(i));
            }
            DUE.is("24: behind eighty layers", x.paper(69, 99, due.length()), -1);
        }
    }

    private static int hauled(int layer) {
        return layer < 68 ? layer : layer - 12;
    }

    private static long gramsOf(int layer) {
        int haul = hauled(layer);
        return haul < 56 ? MOST : layer < 68 ? MOST / 2 : MOST / 2 - layer;
    }

    private static BatchLinks longest() {
        BatchLinks x = new BatchLinks();
        long all = 0;
        for (int i = 0; i < 68; i++) {
            x.haul(MOST, 1, 1);
        }
        x.batch();
        for (int i = 0; i < 80; i++) {
            x.into(68, hauled(i), gramsOf(i));
            all += gramsOf(i);
        }
        x.box(68, all, 1);
        return x;
    }
}

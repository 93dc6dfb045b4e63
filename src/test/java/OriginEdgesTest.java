/** The edges of promises 11 to 15: shares, the hauls of a thing, recalls, and hauls doubled at a customer. */
public final class OriginEdgesTest {
    private static final Due DUE = new Due();
    private static final long MOST = 1000000000L;
    private static final int LEAST_INT = Integer.MIN_VALUE;
    private static final int MOST_INT = Integer.MAX_VALUE;
    private static final Edge SOME = new Edge(DUE, Scenes::some);
    private static final Edge SOLD = new Edge(DUE, OriginEdgesTest::sold);

    public static void main(String[] args) {
        shareNoSuchThingOrHaul();
        shareOfNothing();
        shareOtherParts();
        shareLowestTerms();
        shareNoneAsZeroOverOne();
        shareBeyondAnInt();
        backNoneSuch();
        backByNumber();
        recallNoSuchHaul();
        recallSomethingInABox();
        recalledNoneSuch();
        recalledByNumber();
        doubledNoneSuch();
        doubledMoreThanOneBoxOfOneCustomer();
        doubledByNumber();
        DUE.end();
    }

    private static void shareNoSuchThingOrHaul() {
        for (int part = 0; part <= 1; part++) {
            int each = part;
            for (int number : new int[] {-1, 5, 70, LEAST_INT, MOST_INT}) {
                SOME.gives("11: no such thing: " + number, x -> x.share(number, 0, each), -1);
                SOME.gives("11: no such haul: " + number, x -> x.share(0, number, each), -1);
            }
            for (int number : new int[] {2, 3, 4}) {
                SOME.gives("11: no haul, but a thing: " + number, x -> x.share(number == 3 ? 2 : number, number, each), -1);
            }
        }
    }

    private static void shareOfNothing() {
        for (int part = 0; part <= 1; part++) {
            int each = part;
            SOME.gives("11: nothing is in a new batch", x -> x.share(3, 0, each), -1);
            SOME.gives("11: nothing is in it any more", x -> x.waste(4, 34) == 35 ? x.share(4, 0, each) : 0, -1);
            SOME.gives("11: nothing is in the haul itself", x -> x.correct(0, 40) ? x.share(0, 0, each) : 0, -1);
            SOME.gives("11: one gram is", x -> x.waste(4, 33) == 34 ? x.share(4, 1, each) : 0, 1);
        }
    }

    private static void shareOtherParts() {
        for (int part : new int[] {-1, 2, LEAST_INT, MOST_INT}) {
            SOME.gives("11: for other parts: " + part, x -> x.share(2, 0, part), -1);
            SOME.gives("11: for other parts of none: " + part, x -> x.share(1, 0, part), -1);
        }
    }

    private static void isShare(Edge edge, int thing, int haul, long above, long below) {
        edge.leaves("11: above, of haul " + haul + " in " + thing, x -> x.share(thing, haul, 0), above);
        edge.leaves("11: below, of haul " + haul + " in " + thing, x -> x.share(thing, haul, 1), below);
    }

    private static void shareLowestTerms() {
        isShare(SOME, 2, 1, 3, 5);
        isShare(SOME, 2, 0, 2, 5);
        isShare(SOME, 4, 0, 29, 34);
        isShare(SOME, 4, 1, 5, 34);
        isShare(SOME, 0, 0, 1, 1);
        isShare(new Edge(DUE, () -> Scenes.layered(80)), 2, 0, 1, 2);
        isShare(new Edge(DUE, () -> Scenes.layered(79)), 2, 0, 40, 79);
    }

    private static void shareNoneAsZeroOverOne() {
        isShare(SOME, 0, 1, 0, 1);
        isShare(SOME, 1, 0, 0, 1);
        SOME.gives("11: none of it any more, above", x -> x.waste(2, 15) == 15 ? x.share(2, 1, 0) : 9, 0);
        SOME.gives("11: none of it any more, below", x -> x.waste(2, 15) == 15 ? x.share(2, 1, 1) : 9, 1);
    }

    private static void shareBeyondAnInt() {
        Edge many = new Edge(DUE, () -> {
            BatchLinks x = new BatchLinks();
            for (int haul = 0; haul < 4; haul++) {
                x.haul(MOST - haul, 1, 1);
            }
            x.batch();
            for (int haul = 0; haul < 4; haul++) {
                x.into(4, haul, MOST - haul);
            }
            return x;
        });
        // 3999999994 = 2 x 1999999997
        isShare(many, 4, 0, 500000000L, 1999999997L);
        isShare(many, 4, 1, 999999999L, 3999999994L);
        isShare(many, 4, 2, 499999999L, 1999999997L);
        isShare(many, 4, 3, 999999997L, 3999999994L);
    }

    private static void backNoneSuch() {
        SOME.leaves("12: the first one", x -> x.back(2, 0), 0);
        SOME.leaves("12: the last one", x -> x.back(2, 1), 1);
        for (int k : new int[] {-1, 2, 69, 70, LEAST_INT, MOST_INT}) {
            SOME.gives("12: none such: " + k, x -> x.back(2, k), -1);
        }
        SOME.gives("12: nothing in it", x -> x.back(3, 0), -1);
        SOME.gives("12: nothing in it any more", x -> x.waste(4, 34) == 35 ? x.back(4, 0) : 9, -1);
        SOME.gives("12: nothing in the haul any more", x -> x.correct(0, 40) ? x.back(0, 0) : 9, -1);
        for (int number : new int[] {-1, 5, 70, LEAST_INT, MOST_INT}) {
            SOME.gives("12: no such thing: " + number, x -> x.back(number, 0), -1);
        }
    }

    private static void backByNumber() {
        Edge mixed = new Edge(DUE, () -> {
            BatchLinks x = new BatchLinks();
            for (int haul = 0; haul < 69; haul++) {
                x.haul(9, 1, 1);
            }
            x.batch();
            for (int haul = 68; haul >= 0; haul--) {
                x.into(69, haul, 1);
            }
            for (int haul = 0; haul < 11; haul++) {
                x.into(69, haul, haul == 0 ? 1 : 2);
            }
            return x;
        });
        for (int k = 0; k < 69; k++) {
            int each = k;
            mixed.gives("12: by its number, and each once: " + k, x -> x.back(69, each), k);
        }
        mixed.gives("12: 69 hauls and no more", x -> x.back(69, 69), -1);
        mixed.gives("12: what is taken away is there no more", x -> x.waste(69, 1) == 1 ? x.back(69, 67) : 9, 67);
        mixed.gives("12: and none behind it", x -> x.waste(69, 1) == 1 ? x.back(69, 68) : 9, -1);
    }

    /**
     * Hauls 0, 1, 3 and 4, batch 2 (1:2 0:2). Boxes: 5 (3:1) of 99, 6 (3:1) of 0, 7 (3:1) of 99, 8 (1:1) of 50, 9 (1:1
     * 0:1) of 50; of haul 4 nothing is in any box.
     */
    private static BatchLinks sold() {
        BatchLinks x = new BatchLinks();
        x.haul(10, 1, 1);
        x.haul(10, 1, 1);
        x.batch();
        x.haul(10, 1, 1);
        x.haul(10, 1, 1);
        x.box(3, 1, 99);
        x.box(3, 1, 0);
        x.box(3, 1, 99);
        x.into(2, 1, 2);
        x.into(2, 0, 2);
        x.box(2, 1, 50);
        x.box(2, 2, 50);
        return x;
    }

    private static void recallNoSuchHaul() {
        for (int number : new int[] {-1, 10, 70, LEAST_INT, MOST_INT}) {
            SOLD.gives("13: no such haul: " + number, x -> x.recall(number), -1);
            SOLD.gives("14: no such haul: " + number, x -> x.recalled(number, 0), -1);
        }
        SOLD.gives("13: a batch is no haul", x -> x.recall(2), -1);
        SOLD.gives("14: a batch is no haul", x -> x.recalled(2, 0), -1);
        SOLD.gives("13: a box is no haul", x -> x.recall(5), -1);
        SOLD.gives("14: a box is no haul", x -> x.recalled(5, 0), -1);
    }

    private static void recallSomethingInABox() {
        SOLD.leaves("13: nothing in any box", x -> x.recall(4), 0);
        SOLD.leaves("13: a customer once, though there are two boxes", x -> x.recall(3), 2);
        SOLD.leaves("13: one customer with two boxes", x -> x.recall(1), 1);
        SOLD.leaves("13: one customer with one box", x -> x.recall(0), 1);
        SOLD.gives("13: the one box is empty now", x -> x.waste(6, 1) == 1 ? x.recall(3) : 9, 1);
        SOLD.gives("13: one box of two is empty now", x -> x.waste(5, 1) == 1 ? x.recall(3) : 9, 2);
        SOLD.gives("13: all are", x -> x.waste(5, 1) + x.waste(6, 1) + x.waste(7, 1) == 3 ? x.recall(3) : 9, 0);
        SOLD.gives("13: of another haul in it nothing is lost", x -> x.waste(9, 1) == 1 ? x.recall(0) : 9, 1);
        SOLD.gives("13: a haul that is empty now", x -> x.waste(3, 7) == 7 ? x.recall(3) : 9, 2);
    }

    private static void recalledNoneSuch() {
        SOLD.leaves("14: the last one", x -> x.recalled(3, 1), 99);
        for (int k : new int[] {-1, 2, 98, 99, 100, LEAST_INT, MOST_INT}) {
            SOLD.gives("14: none such: " + k, x -> x.recalled(3, k), -1);
        }
        SOLD.gives("14: not one", x -> x.recalled(4, 0), -1);
        SOLD.gives("14: one box is empty now", x -> x.waste(6, 1) == 1 ? x.recalled(3, 1) : 9, -1);
    }

    private static void recalledByNumber() {
        SOLD.leaves("14: by the number, 0 before 99", x -> x.recalled(3, 0), 0);
        Edge many = new Edge(DUE, () -> {
            BatchLinks x = new BatchLinks();
            x.haul(100, 1, 1);
            for (int box = 1; box < 70; box++) {
                x.box(0, 1, 99 - box);
            }
            return x;
        });
        many.gives("13: 69 customers", x -> x.recall(0), 69);
        for (int k = 0; k < 69; k++) {
            int each = k;
            many.gives("14: by the number: " + k, x -> x.recalled(0, each), 30 + k);
        }
        many.gives("14: 69 customers and no more", x -> x.recalled(0, 69), -1);
        many.gives("15: none of them twice", x -> x.doubled(0), -1);
    }

    private static void doubledNoneSuch() {
        SOLD.leaves("15: the first one", x -> x.doubled(0), 1);
        SOLD.leaves("15: the last one", x -> x.doubled(1), 3);
        for (int k : new int[] {-1, 2, 69, 70, LEAST_INT, MOST_INT}) {
            SOLD.gives("15: none such: " + k, x -> x.doubled(k), -1);
        }
        SOME.gives("15: not one", x -> x.doubled(0), -1);
    }

    private static void doubledMoreThanOneBoxOfOneCustomer() {
        SOLD.gives("15: one of the two boxes is empty now", x -> x.waste(7, 1) == 1 ? x.doubled(1) : 9, -1);
        SOLD.gives("15: the box of another customer is", x -> x.waste(6, 1) == 1 ? x.doubled(1) : 9, 3);
        SOLD.gives("15: nothing of it in one of the two any more", x -> x.waste(9, 1) == 1 ? x.doubled(0) : 9, 3);
        SOLD.gives("15: a second box of another haul", x -> x.box(4, 1, 99) == 10 ? x.doubled(2) : 9, -1);
        SOLD.gives("15: a second box of it", x -> x.box(0, 1, 50) == 10 ? x.doubled(0) : 9, 0);
        SOLD.gives("15: a second box of it, but another's", x -> x.box(0, 1, 51) == 10 ? x.doubled(0) : 9, 1);
        SOLD.gives("15: three boxes count once", x -> x.box(3, 1, 99) == 10 ? x.doubled(2) : 9, -1);
        SOLD.gives("15: two customers twice count once", x -> x.box(3, 1, 0) == 10 ? x.doubled(2) : 9, -1);
        SOLD.gives("15: what is in the batch, too, does not count", x -> x.into(2, 4, 1) && x.box(4, 1, 7) == 10
            ? x.doubled(2) : 9, -1);
        Edge twoLayers = new Edge(DUE, () -> {
            BatchLinks x = new BatchLinks();
            x.haul(10, 1, 1);
            x.haul(10, 1, 1);
            x.batch();
            x.into(2, 0, 1);
            x.into(2, 1, 1);
            x.into(2, 0, 1);
            x.box(2, 3, 7);
            return x;
        });
        twoLayers.gives("15: two layers of one box are one box", x -> x.doubled(0), -1);
        twoLayers.gives("15: and one gram in a second box", x -> x.box(0, 1, 7) == 4 ? x.doubled(0) : 9, 0);
    }

    private static void doubledByNumber() {
        Edge many = new Edge(DUE, () -> {
            BatchLinks x = new BatchLinks();
            for (int haul = 0; haul < 23; haul++) {
                x.haul(10, 1, 1);
            }
            for (int haul = 22; haul >= 0; haul--) {
                x.box(haul, 1, haul % 2 == 0 ? 0 : 99);
                x.box(haul, 1, haul % 2 == 0 ? 0 : 99);
            }
            return x;
        });
        for (int k = 0; k < 23; k++) {
            int each = k;
            many.gives("15: by its number: " + k, x -> x.doubled(each), k);
        }
        many.gives("15: 23 hauls and no more", x -> x.doubled(23), -1);
    }
}

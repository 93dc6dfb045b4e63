/** Promises 11 to 15: shares, the hauls of a thing, recalls, and hauls doubled at a customer. */
public final class OriginTest {
    private static final Due DUE = new Due();

    public static void main(String[] args) {
        share();
        shareOfManyGrams();
        back();
        recall();
        doubled();
        DUE.end();
    }

    private static void share() {
        BatchLinks x = new BatchLinks();
        x.haul(100, 1, 1);
        x.haul(100, 1, 1);
        x.haul(100, 1, 1);
        x.batch();
        x.into(3, 0, 4);
        x.into(3, 1, 2);
        x.into(3, 0, 6);
        isShare(x, 3, 0, 5, 6);
        isShare(x, 3, 1, 1, 6);
        isShare(x, 3, 2, 0, 1);
        isShare(x, 0, 0, 1, 1);
        isShare(x, 0, 1, 0, 1);
        x.box(3, 5, 1);
        isShare(x, 4, 0, 4, 5);
        isShare(x, 3, 0, 6, 7);
        x.waste(3, 6);
        isShare(x, 3, 0, 1, 1);
        isShare(x, 3, 1, 0, 1);
        for (int part = 0; part < 2; part++) {
            DUE.is("11: no such thing", x.share(5, 0, part), -1);
            DUE.is("11: thing below 0", x.share(-1, 0, part), -1);
            DUE.is("11: no such haul", x.share(3, 9, part), -1);
            DUE.is("11: haul below 0", x.share(3, -1, part), -1);
            DUE.is("11: a batch is no haul", x.share(3, 3, part), -1);
            DUE.is("11: a box is no haul", x.share(3, 4, part), -1);
        }
        DUE.is("11: other part", x.share(3, 0, 2), -1);
        DUE.is("11: part below 0", x.share(3, 0, -1), -1);
        DUE.is("11: other part of 0", x.share(3, 2, 2), -1);
        x.waste(4, 5);
        DUE.is("11: nothing in it, above", x.share(4, 0, 0), -1);
        DUE.is("11: nothing in it, below", x.share(4, 0, 1), -1);
    }

    private static void isShare(BatchLinks x, int thing, int haul, long above, long below) {
        DUE.is("11: above of " + haul + " in " + thing, x.share(thing, haul, 0), above);
        DUE.is("11: below of " + haul + " in " + thing, x.share(thing, haul, 1), below);
    }

    private static void shareOfManyGrams() {
        BatchLinks x = new BatchLinks();
        for (int i = 0; i < 60; i++) {
            x.haul(1000000000L - (i == 0 ? 1 : 0), 1, 1);
        }
        x.batch();
        for (int i = 0; i < 60; i++) {
            x.into(60, i, i == 0 ? 999999999L : 1000000000L);
        }
        isShare(x, 60, 0, 999999999L, 59999999999L);
        isShare(x, 60, 59, 1000000000L, 59999999999L);
        x.correct(0, 1000000000L);
        x.into(60, 0, 1);
        isShare(x, 60, 0, 1, 60);
        isShare(x, 60, 1, 1, 60);
        BatchLinks y = new BatchLinks();
        y.haul(701408733L, 1, 1);
        y.haul(433494437L, 1, 1);
        y.batch();
        y.into(2, 0, 701408733L);
        y.into(2, 1, 433494437L);
        // Neighbours of Fibonacci's row take the most steps.
        isShare(y, 2, 0, 701408733L, 1134903170L);
    }

    private static void back() {
        BatchLinks x = new BatchLinks();
        x.haul(10, 1, 1);
        x.batch();
        x.haul(10, 1, 1);
        x.haul(10, 1, 1);
        x.into(1, 3, 1);
        x.into(1, 0, 1);
        x.into(1, 3, 1);
        x.into(1, 2, 1);
        DUE.is("12: first", x.back(1, 0), 0);
        DUE.is("12: second", x.back(1, 1), 2);
        DUE.is("12: third", x.back(1, 2), 3);
        DUE.is("12: no fourth", x.back(1, 3), -1);
        DUE.is("12: k below 0", x.back(1, -1), -1);
        DUE.is("12: least k", x.back(1, Integer.MIN_VALUE), -1);
        DUE.is("12: greatest k", x.back(1, Integer.MAX_VALUE), -1);
        DUE.is("12: no such thing", x.back(4, 0), -1);
        DUE.is("12: thing below 0", x.back(-1, 0), -1);
        DUE.is("12: of a haul", x.back(2, 0), 2);
        x.waste(1, 2);
        DUE.is("12: what is wasted is there no more", x.back(1, 0), 2);
        DUE.is("12: but this, from its second layer", x.back(1, 1), 3);
        x.waste(0, 9);
        DUE.is("12: an empty haul", x.back(0, 0), -1);
        BatchLinks y = new BatchLinks();
        for (int i = 0; i < 70; i++) {
            y.haul(10, 1, 1);
        }
        DUE.is("12: the last number", y.back(69, 0), 69);
    }

    private static void recall() {
        BatchLinks x = new BatchLinks();
        x.haul(100, 1, 1);
        x.haul(100, 1, 1);
        x.batch();
        x.into(2, 0, 10);
        x.into(2, 1, 10);
        DUE.is("13: what is in batches only", x.recall(0), 0);
        DUE.is("14: no first", x.recalled(0, 0), -1);
        x.box(2, 5, 99);
        x.box(2, 10, 7);
        x.box(1, 5, 0);
        x.box(0, 5, 7);
        DUE.is("13: customers", x.recall(0), 2);
        DUE.is("14: first", x.recalled(0, 0), 7);
        DUE.is("14: second", x.recalled(0, 1), 99);
        DUE.is("14: no third", x.recalled(0, 2), -1);
        DUE.is("13: customers of the other", x.recall(1), 2);
        DUE.is("14: first of the other", x.recalled(1, 0), 0);
        DUE.is("14: second of the other", x.recalled(1, 1), 7);
        DUE.is("14: k below 0", x.recalled(0, -1), -1);
        DUE.is("14: greatest k", x.recalled(0, Integer.MAX_VALUE), -1);
        for (int thing : new int[] {-1, 2, 3, 7, Integer.MIN_VALUE, Integer.MAX_VALUE}) {
            DUE.is("13: no such haul, " + thing, x.recall(thing), -1);
            DUE.is("14: no such haul, " + thing, x.recalled(thing, 0), -1);
        }
        x.waste(4, 5);
        DUE.is("13: still in another box", x.recall(0), 2);
        x.waste(6, 5);
        DUE.is("13: lost", x.recall(0), 1);
        DUE.is("14: who has it still", x.recalled(0, 0), 99);
        DUE.is("14: of the other, asked right behind", x.recalled(1, 0), 0);
        x.hold(3, true);
        DUE.is("13: a held box counts", x.recall(0), 1);
    }

    private static void doubled() {
        BatchLinks x = new BatchLinks();
        x.haul(100, 1, 1);
        x.haul(100, 1, 1);
        x.batch();
        x.haul(100, 1, 1);
        x.box(3, 1, 5);
        x.box(3, 1, 6);
        DUE.is("15: two customers, one box each", x.doubled(0), -1);
        x.box(3, 1, 5);
        DUE.is("15: two boxes of one", x.doubled(0), 3);
        DUE.is("15: no second", x.doubled(1), -1);
        x.into(2, 1, 4);
        x.into(2, 0, 4);
        x.box(2, 2, 9);
        x.box(2, 4, 9);
        DUE.is("15: now the first", x.doubled(0), 1);
        DUE.is("15: then", x.doubled(1), 3);
        DUE.is("15: no third", x.doubled(2), -1);
        x.box(2, 2, 9);
        DUE.is("15: the least number first", x.doubled(0), 0);
        DUE.is("15: then the next", x.doubled(1), 1);
        DUE.is("15: then the last", x.doubled(2), 3);
        DUE.is("15: k below 0", x.doubled(-1), -1);
        DUE.is("15: greatest k", x.doubled(Integer.MAX_VALUE), -1);
        x.waste(7, 2);
        DUE.is("15: one box is empty", x.doubled(1), 3);
        BatchLinks y = new BatchLinks();
        y.haul(9, 1, 1);
        y.haul(9, 1, 1);
        y.batch();
        y.into(2, 0, 1);
        y.into(2, 1, 1);
        y.into(2, 0, 1);
        y.box(2, 3, 4);
        DUE.is("15: two layers of one box", y.doubled(0), -1);
    }
}

/** Promises 23 and 24: the warmest it has been, and papers for boxes. */
public final class WarmPaperTest {
    private static final Due DUE = new Due();

    public static void main(String[] args) {
        warm();
        warmestGoesAlong();
        paper();
        longestPaper();
        DUE.end();
    }

    private static void warm() {
        BatchLinks x = new BatchLinks();
        DUE.is("23: none such yet", x.warm(0, 1), false);
        x.haul(10, 1, 1);
        DUE.is("23: 0 at first", x.told(0, 5), 0);
        DUE.is("23: no eighths", x.warm(0, 0), false);
        DUE.is("23: eighths below 0", x.warm(0, -1), false);
        DUE.is("23: too many", x.warm(0, 4001), false);
        DUE.is("23: greatest int", x.warm(0, Integer.MAX_VALUE), false);
        DUE.is("23: still 0", x.told(0, 5), 0);
        DUE.is("23: least", x.warm(0, 1), true);
        DUE.is("23: told", x.told(0, 5), 1);
        DUE.is("23: warmer", x.warm(0, 2000), true);
        DUE.is("23: colder is good, too", x.warm(0, 1999), true);
        DUE.is("23: the greatest", x.told(0, 5), 2000);
        DUE.is("23: most", x.warm(0, 4000), true);
        DUE.is("23: the greatest now", x.told(0, 5), 4000);
        DUE.is("23: no such thing", x.warm(1, 5), false);
        DUE.is("23: thing below 0", x.warm(-1, 5), false);
        x.batch();
        DUE.is("23: a batch", x.warm(1, 5), true);
        x.box(0, 1, 1);
        DUE.is("23: a box", x.warm(2, 3999), true);
        DUE.is("23: it has been warmer", x.told(2, 5), 4000);
    }

    private static void warmestGoesAlong() {
        BatchLinks x = new BatchLinks();
        x.haul(10, 1, 1);
        x.haul(10, 1, 1);
        x.batch();
        x.batch();
        x.warm(0, 100);
        x.warm(1, 50);
        x.into(2, 1, 1);
        DUE.is("23: of the one", x.told(2, 5), 50);
        x.into(2, 0, 1);
        DUE.is("23: of the warmer one", x.told(2, 5), 100);
        x.into(2, 1, 1);
        DUE.is("23: the colder one changes nothing", x.told(2, 5), 100);
        x.warm(0, 300);
        DUE.is("23: as it was then", x.told(2, 5), 100);
        x.warm(2, 200);
        DUE.is("23: the source stays as it was", x.told(1, 5), 50);
        x.into(3, 2, 1);
        DUE.is("23: from batch to batch", x.told(3, 5), 200);
        x.into(2, 3, 1);
        DUE.is("23: an emptied batch has been as warm", x.told(3, 5), 200);
        DUE.is("23: a box", x.told(x.box(3, 1, 1), 5), -1);
        DUE.is("23: a box of the haul", x.told(x.box(0, 1, 1), 5), 300);
        x.into(3, 2, 99);
        x.into(2, 0, 99);
        DUE.is("23: what is refused warms nothing", x.told(2, 5), 200);
        x.waste(0, 8);
        DUE.is("23: waste changes nothing", x.told(0, 5), 300);
    }

    private static void paper() {
        BatchLinks x = new BatchLinks();
        x.haul(1000000000L, 1, 1);
        for (int i = 1; i < 12; i++) {
            x.haul(100, 1, 1);
        }
        x.batch();
        x.into(12, 11, 100);
        x.into(12, 0, 1000000000L);
        x.into(12, 5, 10);
        x.into(12, 11, 1);
        DUE.is("24: a box", x.box(12, 1000000109L, 3), 13);
        DUE.is("24: its paper", Read.paper(x, 13, 7), "7/13 11:100 0:1000000000 5:9");
        DUE.is("24: country 0", Read.paper(x, 13, 0), "0/13 11:100 0:1000000000 5:9");
        DUE.is("24: country 10", Read.paper(x, 13, 10), "10/13 11:100 0:1000000000 5:9");
        DUE.is("24: country 99", Read.paper(x, 13, 99), "99/13 11:100 0:1000000000 5:9");
        DUE.is("24: country below 0", x.paper(13, -1, 0), -1);
        DUE.is("24: country above", x.paper(13, 100, 0), -1);
        DUE.is("24: i below 0", x.paper(13, 7, -1), -1);
        DUE.is("24: least i", x.paper(13, 7, Integer.MIN_VALUE), -1);
        DUE.is("24: greatest i", x.paper(13, 7, Integer.MAX_VALUE), -1);
        DUE.is("24: a haul", x.paper(0, 7, 0), -1);
        DUE.is("24: a batch", x.paper(12, 7, 0), -1);
        DUE.is("24: no such box", x.paper(14, 7, 0), -1);
        DUE.is("24: box below 0", x.paper(-1, 7, 0), -1);
        x.waste(13, 150);
        DUE.is("24: as it is now", Read.paper(x, 13, 7), "7/13 0:999999950 5:9");
        x.waste(13, 999999959L);
        DUE.is("24: an empty box", Read.paper(x, 13, 7), "7/13");
        DUE.is("24: behind its end", x.paper(13, 7, 4), -1);
    }

    private static void longestPaper() {
        BatchLinks x = new BatchLinks();
        for (int i = 0; i < 68; i++) {
            x.haul(1000000000L, 1, 1);
        }
        x.batch();
        StringBuilder due = new StringBuilder("99/69");
        for (int i = 0; i < 80; i++) {
            // Twelve hauls come twice, in halves: so there are 80 layers with as many digits as can be.
            int haul = i < 68 ? i : i - 68;
            long grams = haul < 12 ? 500000000L : 1000000000L;
            x.into(68, haul, grams);
            due.append(' ').append(haul).append(':').append(grams);
        }
        x.box(68, x.told(68, 1), 1);
        DUE.is("24: eighty layers", x.told(69, 2), 80);
        // Not every byte, since an object is good for 512 calls.
        for (int i = 0; i < due.length(); i += 5) {
            DUE.is("24: byte " + i + " of eighty layers", x.paper(69, 99, i), due.charAt(i));
        }
        DUE.is("24: its last byte", x.paper(69, 99, due.length() - 1), '0');
        DUE.is("24: its end", x.paper(69, 99, due.length()), -1);
    }
}

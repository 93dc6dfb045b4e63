/** Promises 19 to 22: certificates, credits, claims and balances. */
public final class CertificatesTest {
    private static final Due DUE = new Due();
    private static final long MOST = 1000000000L;

    public static void main(String[] args) {
        certificate();
        credit();
        claim();
        claimLooksAhead();
        claimRefuses();
        aHundredInAll();
        balance();
        DUE.end();
    }

    private static void certificate() {
        BatchLinks x = new BatchLinks();
        DUE.is("19: day below 0", x.certificate(-1), -1);
        DUE.is("19: day above", x.certificate(100000), -1);
        DUE.is("19: least day", x.certificate(Integer.MIN_VALUE), -1);
        DUE.is("19: greatest day", x.certificate(Integer.MAX_VALUE), -1);
        DUE.is("19: none yet", x.all(7), 0);
        DUE.is("19: day 0", x.certificate(0), 0);
        DUE.is("19: the last day", x.certificate(99999), 1);
        for (int i = 2; i < 10; i++) {
            DUE.is("19: number " + i, x.certificate(i), i);
        }
        DUE.is("19: the 11th", x.certificate(5), -1);
        DUE.is("19: ten", x.all(7), 10);
    }

    private static void credit() {
        BatchLinks x = new BatchLinks();
        DUE.is("20: none such yet", x.credit(0, 1, 0), false);
        x.certificate(5);
        DUE.is("20: least", x.credit(0, 1, 0), true);
        DUE.is("20: most, behind the last good day", x.credit(0, MOST, 99999), true);
        DUE.is("20: no such certificate", x.credit(1, 1, 0), false);
        DUE.is("20: certificate below 0", x.credit(-1, 1, 0), false);
        DUE.is("20: greatest int", x.credit(Integer.MAX_VALUE, 1, 0), false);
        DUE.is("20: no grams", x.credit(0, 0, 0), false);
        DUE.is("20: grams below 0", x.credit(0, -1, 0), false);
        DUE.is("20: least long", x.credit(0, Long.MIN_VALUE, 0), false);
        DUE.is("20: too many grams", x.credit(0, MOST + 1, 0), false);
        DUE.is("20: greatest long", x.credit(0, Long.MAX_VALUE, 0), false);
        DUE.is("20: day below 0", x.credit(0, 1, -1), false);
        DUE.is("20: day above", x.credit(0, 1, 100000), false);
        DUE.is("20: the balance", x.balance(0, 99999), MOST + 1);
        DUE.is("20: the balance before", x.balance(0, 99998), 1);
    }

    private static void claim() {
        BatchLinks x = new BatchLinks();
        x.certificate(20);
        x.certificate(20);
        x.credit(0, 10, 5);
        x.credit(1, 100, 0);
        DUE.is("21: before the credit", x.claim(0, 1, 4), 2);
        DUE.is("21: more than there is", x.claim(0, 11, 5), 2);
        DUE.is("21: a part", x.claim(0, 4, 5), 0);
        DUE.is("21: more than is left", x.claim(0, 7, 20), 2);
        DUE.is("21: what is left, on the last good day", x.claim(0, 6, 20), 0);
        DUE.is("21: nothing left", x.claim(0, 1, 20), 2);
        DUE.is("21: nothing left before, either", x.claim(0, 1, 6), 2);
        DUE.is("21: behind the last good day", x.claim(1, 1, 21), 1);
        DUE.is("21: 1 before 2", x.claim(1, 101, 99999), 1);
        DUE.is("21: what is refused changes nothing", x.balance(1, 99999), 100);
        DUE.is("21: nor here", x.balance(0, 99999), 0);
        DUE.is("21: all at once", x.claim(1, 100, 0), 0);
    }

    private static void claimLooksAhead() {
        BatchLinks x = new BatchLinks();
        x.certificate(1000);
        x.credit(0, 10, 10);
        x.claim(0, 8, 20);
        x.credit(0, 50, 30);
        DUE.is("21: a later day would be below 0", x.claim(0, 3, 10), 2);
        DUE.is("21: between them, too", x.claim(0, 3, 15), 2);
        DUE.is("21: the last day would not", x.claim(0, 52, 30), 0);
        DUE.is("21: the low of day 20 is not the last day's", x.claim(0, 1, 12), 2);
        x.credit(0, 1, 40);
        DUE.is("21: days from the claim's on only", x.claim(0, 1, 40), 0);
        BatchLinks y = new BatchLinks();
        y.certificate(1000);
        y.credit(0, 10, 10);
        y.claim(0, 8, 20);
        DUE.is("21: just so many", y.claim(0, 2, 10), 0);
        DUE.is("21: none is left on day 20", y.balance(0, 20), 0);
        y.credit(0, 5, 25);
        y.credit(0, 5, 15);
        DUE.is("21: credits told in any order", y.claim(0, 5, 16), 0);
        DUE.is("21: balance on day 16", y.balance(0, 16), 3 + 5);
    }

    private static void claimRefuses() {
        BatchLinks x = new BatchLinks();
        DUE.is("21: none such yet", x.claim(0, 1, 0), -1);
        x.certificate(10);
        x.credit(0, MOST, 0);
        x.credit(0, MOST, 0);
        DUE.is("21: no such certificate", x.claim(1, 1, 0), -1);
        DUE.is("21: certificate below 0", x.claim(-1, 1, 0), -1);
        DUE.is("21: no grams", x.claim(0, 0, 0), -1);
        DUE.is("21: grams below 0", x.claim(0, -1, 0), -1);
        DUE.is("21: least long", x.claim(0, Long.MIN_VALUE, 0), -1);
        DUE.is("21: too many grams", x.claim(0, MOST + 1, 0), -1);
        DUE.is("21: greatest long", x.claim(0, Long.MAX_VALUE, 0), -1);
        DUE.is("21: day below 0", x.claim(0, 1, -1), -1);
        DUE.is("21: day above", x.claim(0, 1, 100000), -1);
        DUE.is("21: no grams on a day too late", x.claim(0, 0, 11), -1);
        DUE.is("21: the balance", x.balance(0, 99999), 2 * MOST);
        DUE.is("21: most", x.claim(0, MOST, 10), 0);
    }

    private static void aHundredInAll() {
        BatchLinks x = new BatchLinks();
        x.certificate(10);
        x.certificate(10);
        for (int i = 0; i < 50; i++) {
            DUE.is("20: credit " + i, x.credit(i % 2, 2, 0), true);
        }
        for (int i = 0; i < 10; i++) {
            DUE.is("21: what is refused is no claim", x.claim(0, 1000, 0) + x.claim(0, 1, 11), 3);
            DUE.is("20: what is refused is no credit", x.credit(0, 0, 0), false);
        }
        for (int i = 0; i < 50; i++) {
            DUE.is("21: claim " + i, x.claim(i % 2, 1, 0), 0);
        }
        DUE.is("20: the 101st", x.credit(0, 1, 0), false);
        DUE.is("21: the 101st", x.claim(0, 1, 0), -1);
        DUE.is("22: balance of the first", x.balance(0, 0), 25);
        DUE.is("22: balance of the second", x.balance(1, 0), 25);
        DUE.is("19: a certificate more", x.certificate(1), 2);
    }

    private static void balance() {
        BatchLinks x = new BatchLinks();
        DUE.is("22: none such yet", x.balance(0, 0), -1);
        x.certificate(50);
        x.certificate(50);
        x.credit(0, 10, 10);
        x.credit(0, 5, 30);
        x.credit(1, 1000, 0);
        x.claim(0, 3, 20);
        int[] days = {Integer.MIN_VALUE, -1, 0, 9, 10, 19, 20, 29, 30, 51, Integer.MAX_VALUE};
        long[] due = {0, 0, 0, 0, 10, 10, 7, 7, 12, 12, 12};
        for (int i = 0; i < days.length; i++) {
            DUE.is("22: on day " + days[i], x.balance(0, days[i]), due[i]);
        }
        DUE.is("22: no such certificate", x.balance(2, 0), -1);
        DUE.is("22: certificate below 0", x.balance(-1, 0), -1);
        DUE.is("22: least int", x.balance(Integer.MIN_VALUE, 0), -1);
        for (int i = 0; i < 90; i++) {
            x.credit(1, MOST, 0);
        }
        DUE.is("22: more than an int holds", x.balance(1, 0), 90 * MOST + 1000);
    }
}

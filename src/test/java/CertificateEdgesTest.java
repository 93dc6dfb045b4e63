/** The edges of promises 19 to 22, and of what 'Terms' says of certificates and balances. */
public final class CertificateEdgesTest {
    private static final Due DUE = new Due();
    private static final long MOST = 1000000000L;
    private static final int LEAST_INT = Integer.MIN_VALUE;
    private static final int MOST_INT = Integer.MAX_VALUE;
    private static final Edge SOME = new Edge(DUE, Scenes::some);

    public static void main(String[] args) {
        certificateDay();
        tenCertificates();
        creditNoneSuch();
        creditGrams();
        creditDay();
        creditsAndClaimsInAll();
        claimNoneAsForCredit();
        claimBehindTheLastGoodDay();
        claimOneBeforeTwo();
        claimBelowNoneOnThatDay();
        claimBelowNoneLater();
        claimRefusedIsNoEntry();
        balanceOnADay();
        balanceOfAnyDay();
        balanceNoSuchCertificate();
        balanceBeyondAnInt();
        neverBelowNone();
        DUE.end();
    }

    /** How far a certificate is good: the days on which a claim is good that was refused only for its day. */
    private static String goodDays(BatchLinks x, int number, int day) {
        x.credit(number, 10, 0);
        return x.claim(number, 1, day) + " " + (day < 99999 ? x.claim(number, 1, day + 1) : 1);
    }

    private static void certificateDay() {
        SOME.shows("19: day 0", x -> x.certificate(0) == 2, x -> goodDays(x, 2, 0), "0 1");
        SOME.shows("19: day 7", x -> x.certificate(7) == 2, x -> goodDays(x, 2, 7), "0 1");
        SOME.shows("19: day 99998", x -> x.certificate(99998) == 2, x -> goodDays(x, 2, 99998), "0 1");
        SOME.shows("19: day 99999", x -> x.certificate(99999) == 2, x -> goodDays(x, 2, 99999), "0 1");
        for (int day : new int[] {-1, 100000, LEAST_INT, MOST_INT}) {
            SOME.none("19: day not 0 .. 99999: " + day, x -> x.certificate(day));
        }
        Edge fresh = new Edge(DUE, BatchLinks::new);
        fresh.gives("19: numbers from 0", x -> x.certificate(5), 0);
        fresh.gives("19: a refused one takes no number", x -> x.certificate(-1) + x.certificate(5) * 10
            + x.certificate(6) * 100, 99);
    }

    private static BatchLinks certificates(int count) {
        BatchLinks x = new BatchLinks();
        for (int i = 0; i < count; i++) {
            x.certificate(i);
        }
        return x;
    }

    private static void tenCertificates() {
        Edge nine = new Edge(DUE, () -> certificates(9));
        nine.gives("19: the tenth", x -> x.certificate(50), 9);
        nine.shows("19: the tenth is one", x -> x.certificate(50) == 9, x -> goodDays(x, 9, 50), "0 1");
        Edge ten = new Edge(DUE, () -> certificates(10));
        ten.none("19: there are 10", x -> x.certificate(50));
        ten.none("19: there are 10, and the day is not good", x -> x.certificate(-1));
        ten.gives("25: ten certificates", x -> x.all(7), 10);
        ten.yes("20: to the tenth", x -> x.credit(9, 5, 5));
        ten.no("20: there is no 11th", x -> x.credit(10, 5, 5));
        ten.none("21: there is no 11th", x -> x.claim(10, 5, 5));
        ten.none("22: there is no 11th", x -> x.balance(10, 5));
    }

    private static void creditNoneSuch() {
        for (int number : new int[] {-1, 2, 10, LEAST_INT, MOST_INT}) {
            SOME.no("20: none such: " + number, x -> x.credit(number, 1, 1));
        }
        SOME.shows("20: the last one, and no other", x -> x.credit(1, 3, 1), x -> x.balance(0, 99) + " " + x.balance(1, 99),
            "6 3");
    }

    private static void creditGrams() {
        SOME.shows("20: grams 1", x -> x.credit(0, 1, 5), x -> "" + x.balance(0, 5), "11");
        SOME.shows("20: grams 1000000000", x -> x.credit(0, MOST, 5), x -> "" + x.balance(0, 5), "1000000010");
        for (long grams : new long[] {0, -1, MOST + 1, Long.MIN_VALUE, Long.MAX_VALUE, (1L << 32) + 1}) {
            SOME.no("20: grams not 1 .. 1000000000: " + grams, x -> x.credit(0, grams, 5));
        }
    }

    private static void creditDay() {
        SOME.shows("20: day 0", x -> x.credit(0, 1, 0), x -> x.balance(0, -1) + " " + x.balance(0, 0), "0 1");
        SOME.shows("20: day 99999", x -> x.credit(0, 1, 99999), x -> x.balance(0, 99998) + " " + x.balance(0, 99999),
            "6 7");
        SOME.shows("20: a day behind the last good one", x -> x.credit(0, 1, 21), x -> "" + x.balance(0, 21), "7");
        for (int day : new int[] {-1, 100000, LEAST_INT, MOST_INT}) {
            SOME.no("20: day not 0 .. 99999: " + day, x -> x.credit(0, 1, day));
        }
    }

    /** So many entries, credits of 2 on day 5 and claims of 1 on day 6, of two certificates in turn. */
    private static BatchLinks entries(int count) {
        BatchLinks x = new BatchLinks();
        x.certificate(20);
        x.certificate(20);
        for (int i = 0; i < count; i++) {
            if (i % 4 < 2) {
                x.credit(i % 2, 2, 5);
            } else {
                x.claim(i % 2, 1, 6);
            }
        }
        return x;
    }

    private static void creditsAndClaimsInAll() {
        Edge has99 = new Edge(DUE, () -> entries(99));
        has99.shows("20: the 100th of all", x -> x.credit(0, 7, 5), x -> x.balance(0, 5) + " " + x.balance(0, 6), "57 32");
        has99.shows("21: the 100th of all", x -> x.claim(0, 7, 5) == 0, x -> x.balance(0, 5) + " " + x.balance(0, 6),
            "43 18");
        Edge has100 = new Edge(DUE, () -> entries(100));
        has100.no("20: there are 100 credits and claims", x -> x.credit(0, 1, 5));
        has100.no("20: there are 100, of another certificate", x -> x.credit(1, 1, 5));
        has100.none("21: there are 100 credits and claims", x -> x.claim(0, 1, 5));
        has100.none("21: there are 100, of another certificate", x -> x.claim(1, 1, 5));
        has100.gives("22: the balance of the first", x -> x.balance(0, 6), 25);
        has100.gives("22: the balance of the second", x -> x.balance(1, 6), 25);
        has100.gives("19: a certificate is no entry", x -> x.certificate(5), 2);
        Edge other = new Edge(DUE, () -> {
            BatchLinks x = entries(100);
            x.certificate(20);
            return x;
        });
        other.no("20: not one for a new certificate", x -> x.credit(2, 1, 5));
    }

    private static void claimNoneAsForCredit() {
        for (int number : new int[] {-1, 2, 10, LEAST_INT, MOST_INT}) {
            SOME.none("21: none such: " + number, x -> x.claim(number, 1, 5));
            SOME.none("21: none such, behind any day: " + number, x -> x.claim(number, 1, 99999));
        }
        for (long grams : new long[] {0, -1, MOST + 1, Long.MIN_VALUE, Long.MAX_VALUE, (1L << 32) + 1}) {
            SOME.none("21: grams not 1 .. 1000000000: " + grams, x -> x.claim(0, grams, 10));
        }
        for (int day : new int[] {-1, 100000, LEAST_INT, MOST_INT}) {
            SOME.none("21: day not 0 .. 99999: " + day, x -> x.claim(0, 1, day));
        }
        SOME.gives("21: grams 1", x -> x.claim(0, 1, 10), 0);
        Edge rich = new Edge(DUE, () -> {
            BatchLinks x = new BatchLinks();
            x.certificate(99999);
            x.credit(0, MOST, 0);
            x.credit(0, MOST, 0);
            return x;
        });
        rich.gives("21: grams 1000000000", x -> x.claim(0, MOST, 0), 0);
        rich.none("21: grams 1000000001, though there are as many", x -> x.claim(0, MOST + 1, 0));
        rich.gives("21: day 0", x -> x.claim(0, 1, 0), 0);
        rich.gives("21: day 99999", x -> x.claim(0, 1, 99999), 0);
        rich.none("21: day 100000, though all days are good", x -> x.claim(0, 1, 100000));
        rich.none("21: day -1, though all days are good", x -> x.claim(0, 1, -1));
    }

    private static void claimBehindTheLastGoodDay() {
        SOME.gives("21: up to the last good day", x -> x.claim(0, 1, 20), 0);
        SOME.leaves("21: behind the last good day", x -> x.claim(0, 1, 21), 1);
        SOME.leaves("21: far behind it", x -> x.claim(0, 1, 99999), 1);
        SOME.leaves("21: behind day 0", x -> x.claim(1, 1, 1), 1);
        SOME.leaves("21: on day 0, but there is nothing", x -> x.claim(1, 1, 0), 2);
        SOME.gives("21: on day 0", x -> x.credit(1, 1, 0) ? x.claim(1, 1, 0) : 9, 0);
        SOME.gives("21: what is credited behind it cannot be claimed", x -> x.credit(0, 50, 21) ? x.claim(0, 50, 21) : 9, 1);
    }

    private static void claimOneBeforeTwo() {
        SOME.leaves("21: behind the last good day, and too much", x -> x.claim(0, 7, 21), 1);
        SOME.leaves("21: too much on the last good day", x -> x.claim(0, 7, 20), 2);
        SOME.leaves("21: the most, behind the last good day", x -> x.claim(0, MOST, 21), 1);
    }

    private static void claimBelowNoneOnThatDay() {
        SOME.leaves("21: the day before the credit", x -> x.claim(0, 1, 4), 2);
        SOME.shows("21: all that is there", x -> x.claim(0, 6, 10) == 0, x -> "" + x.balance(0, 10), "0");
        SOME.leaves("21: one gram more", x -> x.claim(0, 7, 10), 2);
        SOME.leaves("21: the most", x -> x.claim(0, MOST, 10), 2);
        SOME.gives("21: nothing is left", x -> x.claim(0, 6, 10) * 10 + x.claim(0, 1, 10), 2);
        SOME.gives("21: on the credit's own day", x -> x.credit(0, 3, 15) ? x.claim(0, 9, 15) : 9, 0);
        SOME.gives("21: one more on that day", x -> x.credit(0, 3, 15) ? x.claim(0, 10, 15) : 9, 2);
        SOME.gives("21: not of another's", x -> x.credit(1, 100, 0) ? x.claim(0, 7, 10) : 9, 2);
    }

    private static void claimBelowNoneLater() {
        // 10 on day 5, of which 4 are claimed on day 10.
        SOME.shows("21: as many as day 10 leaves", x -> x.claim(0, 6, 5) == 0, x -> x.balance(0, 5) + " "
            + x.balance(0, 9) + " " + x.balance(0, 10), "4 4 0");
        SOME.leaves("21: the balance of a later day would be below 0", x -> x.claim(0, 7, 5), 2);
        SOME.leaves("21: the day before the later one", x -> x.claim(0, 7, 9), 2);
        SOME.leaves("21: all of this day, but not of the later one", x -> x.claim(0, 10, 5), 2);
        Edge dip = new Edge(DUE, () -> {
            BatchLinks x = new BatchLinks();
            x.certificate(50);
            x.credit(0, 10, 10);
            x.claim(0, 8, 20);
            x.credit(0, 50, 30);
            x.claim(0, 1, 40);
            x.credit(0, 9, 99999);
            return x;
        });
        dip.leaves("21: the least of the later days is in between", x -> x.claim(0, 3, 10), 2);
        dip.gives("21: just that", x -> x.claim(0, 2, 10), 0);
        dip.leaves("21: on the day of the least", x -> x.claim(0, 3, 20), 2);
        dip.leaves("21: the last day of the least", x -> x.claim(0, 3, 29), 2);
        dip.gives("21: the next day, all that is there on day 40", x -> x.claim(0, 51, 30), 0);
        dip.leaves("21: all of day 30, less than day 40 needs", x -> x.claim(0, 52, 30), 2);
        dip.gives("21: earlier days do not matter", x -> x.claim(0, 51, 40), 0);
        dip.leaves("21: a credit behind the last good day comes too late", x -> x.claim(0, 52, 50), 2);
        Edge late = new Edge(DUE, () -> {
            BatchLinks x = new BatchLinks();
            x.certificate(99999);
            x.credit(0, 5, 0);
            x.claim(0, 4, 99999);
            return x;
        });
        late.leaves("21: the last of all days", x -> x.claim(0, 2, 0), 2);
        late.gives("21: the last of all days leaves one", x -> x.claim(0, 1, 0), 0);
        late.gives("21: on the last of all days", x -> x.claim(0, 1, 99999), 0);
    }

    private static void claimRefusedIsNoEntry() {
        BatchLinks x = entries(99);
        for (int i = 0; i < 20; i++) {
            DUE.is("21: refused", x.claim(0, 1, 21) * 10 + x.claim(0, 1000, 5), 12);
            DUE.is("21: refused, NONE", x.claim(0, 0, 5), -1);
            DUE.is("20: refused", x.credit(0, 0, 5), false);
        }
        DUE.is("20: the 100th all the same", x.credit(0, 1, 5), true);
        DUE.is("20: the 101st", x.credit(0, 1, 5), false);
    }

    private static void balanceOnADay() {
        int[] days = {4, 5, 9, 10, 11};
        long[] due = {0, 10, 10, 6, 6};
        for (int i = 0; i < days.length; i++) {
            int day = days[i];
            SOME.leaves("22: that day's, too: " + day, x -> x.balance(0, day), due[i]);
        }
        SOME.leaves("22: without credits", x -> x.balance(1, 99999), 0);
        SOME.gives("22: two of one day", x -> x.credit(0, 3, 10) && x.credit(0, 5, 10) ? x.balance(0, 10) : 0, 14);
    }

    private static void balanceOfAnyDay() {
        SOME.gives("22: the least day", x -> x.balance(0, LEAST_INT), 0);
        SOME.gives("22: day -1", x -> x.balance(0, -1), 0);
        SOME.gives("22: day 99999", x -> x.balance(0, 99999), 6);
        SOME.gives("22: day 100000", x -> x.balance(0, 100000), 6);
        SOME.gives("22: the greatest day", x -> x.balance(0, MOST_INT), 6);
        SOME.gives("22: behind the last good day", x -> x.balance(0, 21), 6);
        SOME.gives("22: day 0", x -> x.credit(0, 3, 0) ? x.balance(0, 0) : 0, 3);
        SOME.gives("22: before day 0", x -> x.credit(0, 3, 0) ? x.balance(0, -1) : 9, 0);
    }

    private static void balanceNoSuchCertificate() {
        for (int number : new int[] {-1, 2, 10, LEAST_INT, MOST_INT}) {
            SOME.none("22: no such certificate: " + number, x -> x.balance(number, 5));
            SOME.none("22: no such certificate, before all days: " + number, x -> x.balance(number, -5));
        }
    }

    private static void balanceBeyondAnInt() {
        Edge many = new Edge(DUE, () -> {
            BatchLinks x = new BatchLinks();
            x.certificate(99999);
            for (int i = 0; i < 99; i++) {
                x.credit(0, MOST, i);
            }
            return x;
        });
        many.gives("22: beyond an int", x -> x.balance(0, 98), 99 * MOST);
        many.gives("22: a day before", x -> x.balance(0, 97), 98 * MOST);
        many.gives("22: 3000000000", x -> x.balance(0, 2), 3 * MOST);
        many.gives("21: a claim with more than an int there", x -> x.claim(0, MOST, 98) + x.balance(0, 98), 98 * MOST);
    }

    private static void neverBelowNone() {
        for (int day = 0; day <= 12; day++) {
            BatchLinks x = Scenes.some();
            x.credit(0, 2, 8);
            for (long grams = 12; grams >= 1; grams--) {
                x.claim(0, grams, day);
            }
            for (int each = 0; each <= 21; each++) {
                DUE.is("Terms, never below none: claimed on " + day + ", on " + each, x.balance(0, each) >= 0, true);
            }
            DUE.is("Terms, all of it was claimed: " + day, x.balance(0, 20), day < 5 ? 8 : 0);
        }
    }
}

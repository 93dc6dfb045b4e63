/** Rule 7 of LANGUAGE.md: no call throws, for any arguments in an empty, a small and a full object. */
public final class AnyArgumentsTest {
    private static final Due DUE = new Due();
    private static final int[] INTS = {Integer.MIN_VALUE, Integer.MIN_VALUE + 1, -100, -2, -1, 0, 1, 2, 3, 9, 10, 11,
        39, 40, 41, 68, 69, 70, 71, 79, 80, 81, 99, 100, 101, 399, 400, 401, 999, 1000, 99999, 100000,
        Integer.MAX_VALUE - 1, Integer.MAX_VALUE};
    private static final long[] LONGS = {Long.MIN_VALUE, Long.MIN_VALUE + 1, -1000000001L, -1, 0, 1, 2, 999999999L,
        1000000000L, 1000000001L, 1L << 32, Long.MAX_VALUE - 1, Long.MAX_VALUE};

    public static void main(String[] args) {
        asks(new BatchLinks());
        asks(small());
        asks(full());
        changes(new BatchLinks());
        changes(small());
        changes(full());
        DUE.end();
    }

    private static BatchLinks small() {
        BatchLinks x = new BatchLinks();
        x.haul(1000000000L, 999, 99999);
        x.haul(1, 0, 0);
        x.batch();
        x.into(2, 0, 500);
        x.into(2, 1, 1);
        x.box(2, 501, 99);
        x.certificate(99999);
        x.credit(0, 1000000000L, 0);
        Read.names(x, "0:0-999,0;99:0-999,999999;");
        return x;
    }

    /** As many things, layers, rules, certificates and entries as there may be, and a full tape. */
    private static BatchLinks full() {
        BatchLinks x = new BatchLinks();
        Read.names(x, "1:0-999,0;".repeat(40));
        for (int i = 0; i < 67; i++) {
            x.haul(1000000000L, i, i);
        }
        x.batch();
        x.batch();
        for (int i = 0; i < 160; i++) {
            x.into(i < 80 ? 67 : 68, i % 67, 1 + i);
        }
        x.box(67, x.told(67, 1), 99);
        for (int i = 0; i < 10; i++) {
            x.certificate(99999);
        }
        for (int i = 0; i < 100; i++) {
            x.credit(i % 10, 1000000000L, i);
        }
        while (x.unit(255)) {
            continue;
        }
        DUE.is("full", x.all(5) + x.all(6) + x.all(7) + x.told(68, 2) + x.told(69, 2), 70 + 40 + 10 + 80 + 80);
        return x;
    }

    private static void asks(BatchLinks x) {
        String before = Read.things(x);
        for (int a : INTS) {
            x.all(a);
            x.doubled(a);
            x.recall(a);
            for (int b : INTS) {
                x.told(a, b);
                x.back(a, b);
                x.recalled(a, b);
                x.balance(a, b);
                for (int c : INTS) {
                    x.layer(a, b, c);
                    x.share(a, b, c);
                    x.name(a, b, c);
                    x.paper(a, b, c);
                }
            }
        }
        DUE.is("asking changes nothing", Read.things(x), before);
    }

    private static void changes(BatchLinks x) {
        for (int a : INTS) {
            x.certificate(a);
            x.unit(a);
            x.hold(a, false);
            for (long grams : LONGS) {
                x.correct(a, grams);
                for (int b : INTS) {
                    x.haul(grams, a, b);
                    x.into(a, b, grams);
                    x.box(a, grams, b);
                    x.credit(a, grams, b);
                    x.claim(a, grams, b);
                    x.warm(a, b);
                }
                x.waste(a, grams);
            }
        }
        x.batch();
        x.names();
        asks(x);
        DUE.is("each gram", x.all(1) + x.all(2) + x.all(3) + x.all(4), x.all(0));
        for (int i = 0; i < x.all(7); i++) {
            for (int day : INTS) {
                DUE.is("never below none", x.balance(i, day) >= 0, true);
            }
        }
    }
}

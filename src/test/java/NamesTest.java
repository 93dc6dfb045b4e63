/** Promises 16 to 18: the tape, texts of names, and names. */
public final class NamesTest {
    private static final Due DUE = new Due();
    private static final String RULE = "1:1-1,1;";

    public static void main(String[] args) {
        unit();
        goodTexts();
        bytesThatCannotStandThere();
        ends();
        numbersTooGreat();
        theFortyFirstCode();
        rulesStayOrGo();
        name();
        ruleInForce();
        DUE.end();
    }

    private static void unit() {
        BatchLinks x = new BatchLinks();
        for (int i = 0; i < 400; i++) {
            DUE.is("16: byte " + i, x.unit(32), true);
        }
        DUE.is("16: the 401st", x.unit(32), false);
        DUE.is("16: the 402nd", x.unit('x'), false);
        DUE.is("17: 400 blanks", x.names(), 0);
        DUE.is("16: empty again", x.unit(32), true);
        x.names();
        int[] far = {256 + '1', -256 + ':', 1024 + '2', Integer.MIN_VALUE + '-', 0x7fffff00 + '3', -256 + ',', '4',
            ';'};
        for (int value : far) {
            DUE.is("16: any int", x.unit(value), true);
        }
        DUE.is("16: the lowest eight bits", x.names(), 1);
        x.unit(-1);
        DUE.is("17: byte 255", x.names(), -1);
        DUE.is("17: the end of a full tape", Read.names(new BatchLinks(), " ".repeat(399) + "5"), -401);
    }

    private static void isFault(String text, int place) {
        BatchLinks x = new BatchLinks();
        DUE.is("17: \"" + text + "\"", Read.names(x, text), -1 - place);
        DUE.is("17: no rules of \"" + text + "\"", x.all(6), 0);
        DUE.is("17: the tape is empty behind \"" + text + "\"", Read.names(x, RULE), 1);
    }

    private static void isGood(String text, int rules) {
        BatchLinks x = new BatchLinks();
        DUE.is("17: \"" + text + "\"", Read.names(x, text), rules);
        DUE.is("17: rules of \"" + text + "\"", x.all(6), rules);
        DUE.is("17: the tape is empty behind \"" + text + "\"", x.names(), 0);
        DUE.is("17: an empty text has none", x.all(6), 0);
    }

    private static void goodTexts() {
        isGood("", 0);
        isGood(" ", 0);
        isGood("\t\n\r ", 0);
        isGood(RULE, 1);
        isGood("0:0-0,0;", 1);
        isGood("99:999-999,999999;", 1);
        isGood("000099:000000-000999,000000;", 1);
        isGood(" 1\t:\n1\r-  1 \t, 1 ; \r\n", 1);
        isGood("1:1-1,1;2:2-2,2;3:3-3,3;", 3);
        isGood("1:1-1,1; 1:1-1,1;\n", 2);
        isGood(RULE.repeat(40), 40);
        isGood(RULE.repeat(40) + " ".repeat(80), 40);
    }

    private static void bytesThatCannotStandThere() {
        String good = "12:34-56,78;";
        for (int place : new int[] {0, 2, 3, 5, 6, 8, 9, 11}) {
            isFault(good.substring(0, place) + "x" + good.substring(place), place);
            isFault(good.substring(0, place) + "  x" + good.substring(place), place + 2);
            isFault(good + good.substring(0, place) + "\u00b0" + good.substring(place), 12 + place);
        }
        isFault(":", 0);
        isFault(";", 0);
        isFault("-1:1-1,1;", 0);
        isFault("1::1-1,1;", 2);
        isFault("1:1--1,1;", 4);
        isFault("1;", 1);
        isFault("1-1", 1);
        isFault("1:1,", 3);
        isFault("1:1:1", 3);
        isFault("1:1-1;", 5);
        isFault("1:1-1,1,", 7);
        isFault("1 2:1-1,1;", 2);
        isFault("1:1 1-1,1;", 4);
        isFault("1:1-1,1 1;", 8);
        isFault("1:1-1,1;;", 8);
        isFault("1:1-1,1;x", 8);
        isFault("/", 0);
        isFault("1:1-1,1\u000b;", 7);
        isFault("1:1-1,1\u000c;", 7);
        isFault("1:1-1,1\u0000;", 7);
        isFault("1:1-1,1\u00a0;", 7);
        isFault("1:1-1,1\u00b1;", 7);
        isFault("1234567:1-1,1;", 6);
        isFault("0000001:1-1,1;", 6);
        isFault("1:0000000-1,1;", 8);
        isFault("1:1-0000001,1;", 10);
        isFault("1:1-1,1000000;", 12);
        isFault("1:1-1,12345678;", 12);
    }

    private static void ends() {
        String good = "12:34-56,78;";
        for (int length = 1; length < good.length(); length++) {
            // "12:34-5" ends with a second place below the first one.
            isFault(good.substring(0, length), length == 7 ? 6 : length);
            if (length != 7) {
                isFault(good.substring(0, length) + "  ", length + 2);
            }
            isFault(good + good.substring(0, length), 12 + (length == 7 ? 6 : length));
        }
        isFault(RULE.repeat(40) + " 1", 321);
    }

    private static void numbersTooGreat() {
        isFault("100:1-1,1;", 0);
        isFault("  100:1-1,1;", 2);
        isFault("999999:1-1,1;", 0);
        isFault("000100:1-1,1;", 0);
        isFault("100", 0);
        isFault("100x", 0);
        isFault("100 x", 0);
        isFault("1000000", 6);
        isFault("1:1000-1,1;", 2);
        isFault("1: 1000", 3);
        isFault("1:1000x", 2);
        isFault("1:1000000", 8);
        isFault("1:1-1000,1;", 4);
        isFault("1:1-1000x", 4);
        isFault("1:1-1000000,1;", 10);
        isFault("1:2-1,1;", 4);
        isFault("1:2- 01x", 5);
        isFault("1:999-998", 6);
        isFault("1:10-9,1;", 5);
        isFault("1:10-9999999,1;", 11);
        isFault(RULE + "100:1-1,1;", 8);
    }

    private static void theFortyFirstCode() {
        String forty = RULE.repeat(40);
        isFault(forty + RULE, 320);
        isFault(forty + "   7", 323);
        isFault(forty + "7x", 320);
        isFault(forty + "100:", 320);
        isFault(forty + "1234567", 326);
        isFault(forty + "x", 320);
        isFault(forty + ":", 320);
    }

    private static void rulesStayOrGo() {
        BatchLinks x = new BatchLinks();
        x.haul(10, 5, 0);
        DUE.is("17: two rules", Read.names(x, "1:5-5,0;2:5-5,0;"), 2);
        DUE.is("17: a fault behind a good rule", Read.names(x, "3:5-5,0;4:"), -11);
        DUE.is("17: the rules stay", x.all(6), 2);
        DUE.is("17: the first one", x.name(0, 1, 0), true);
        DUE.is("17: the second one", x.name(0, 2, 0), true);
        DUE.is("17: not the good one of a text with a fault", x.name(0, 3, 0), false);
        DUE.is("17: others take their place", Read.names(x, "3:5-5,0;"), 1);
        DUE.is("17: of all", x.name(0, 1, 0), false);
        DUE.is("17: the other one", x.name(0, 3, 0), true);
        DUE.is("17: the same again", Read.names(x, "3:5-5,0;"), 1);
        DUE.is("17: none of an older text", x.name(0, 2, 0), false);
        DUE.is("17: none", x.names(), 0);
        DUE.is("17: they are gone", x.name(0, 3, 0), false);
    }

    private static void name() {
        BatchLinks x = new BatchLinks();
        x.haul(10, 5, 90000);
        x.haul(10, 6, 0);
        x.haul(10, 7, 0);
        x.batch();
        DUE.is("18: without a rule", x.name(0, 7, 5), false);
        Read.names(x, "7:5-6,3;99:0-999,0;0:7-7,999999;");
        DUE.is("18: the first place", x.name(0, 7, 3), true);
        DUE.is("18: the second place", x.name(1, 7, 3), true);
        DUE.is("18: behind it", x.name(2, 7, 3), false);
        DUE.is("18: a day before the rule", x.name(0, 7, 2), false);
        DUE.is("18: any day behind it", x.name(0, 7, Integer.MAX_VALUE), true);
        DUE.is("18: day below 0", x.name(0, 99, -1), false);
        DUE.is("18: least day", x.name(0, 99, Integer.MIN_VALUE), false);
        DUE.is("18: any place", x.name(2, 99, 0), true);
        DUE.is("18: a rule of a far day, before it", x.name(2, 0, 999998), false);
        DUE.is("18: on it", x.name(2, 0, 999999), true);
        DUE.is("18: its places", x.name(1, 0, 999999), false);
        DUE.is("18: no such code", x.name(0, 8, 5), false);
        DUE.is("18: code below 0", x.name(0, -1, 5), false);
        DUE.is("18: greatest code", x.name(0, Integer.MAX_VALUE, 5), false);
        DUE.is("18: nothing in it", x.name(3, 99, 5), false);
        DUE.is("18: no such thing", x.name(4, 99, 5), false);
        DUE.is("18: thing below 0", x.name(-1, 99, 5), false);
        x.into(3, 0, 2);
        x.into(3, 1, 2);
        DUE.is("18: all its hauls", x.name(3, 7, 5), true);
        x.into(3, 2, 2);
        DUE.is("18: all but one", x.name(3, 7, 5), false);
        x.box(3, 4, 1);
        DUE.is("18: a box of the good ones", x.name(4, 7, 5), true);
        DUE.is("18: the bad one is left", x.name(3, 7, 5), false);
        Read.names(x, "7:6-7,0;");
        DUE.is("18: before the first place", x.name(0, 7, 0), false);
        DUE.is("18: the first layer is not", x.name(4, 7, 0), false);
        x.waste(4, 2);
        DUE.is("18: but for what is lost", x.name(4, 7, 0), true);
        x.waste(4, 2);
        DUE.is("18: nothing left in it", x.name(4, 7, 0), false);
    }

    private static void ruleInForce() {
        BatchLinks x = new BatchLinks();
        x.haul(10, 5, 0);
        Read.names(x, "1:5-5,3;1:6-6,10;1:0-9,20;1:7-7,15;2:0-9,10;");
        int[] days = {2, 3, 9, 10, 14, 15, 19, 20, 21};
        boolean[] may = {false, true, true, false, false, false, false, true, true};
        for (int i = 0; i < days.length; i++) {
            DUE.is("18: on day " + days[i], x.name(0, 1, days[i]), may[i]);
        }
        Read.names(x, "1:5-5,3;1:6-6,3;");
        DUE.is("18: the last one of a day forbids", x.name(0, 1, 3), false);
        Read.names(x, "1:6-6,3;1:5-5,3;");
        DUE.is("18: the last one of a day allows", x.name(0, 1, 3), true);
        Read.names(x, "1:5-5,3;1:6-6,2;");
        DUE.is("18: the greatest day before the last one of the text", x.name(0, 1, 3), true);
        Read.names(x, "1:6-6,3;2:5-5,3;");
        DUE.is("18: not of another code", x.name(0, 1, 3), false);
        BatchLinks y = new BatchLinks();
        y.haul(10, 5, 0);
        Read.names(y, RULE.repeat(39) + "2:5-5,0;");
        DUE.is("18: the 40th rule", y.name(0, 2, 0), true);
        DUE.is("18: none of forty", y.name(0, 3, 0), false);
    }
}

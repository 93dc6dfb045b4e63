/** The edges of promises 16 to 18, and of what 'Terms' says of the tape, texts of names and rules. */
public final class NameEdgesTest {
    private static final Due DUE = new Due();
    private static final int LEAST_INT = Integer.MIN_VALUE;
    private static final int MOST_INT = Integer.MAX_VALUE;
    private static final String BLANKS = "\t\n\r ";
    private static final String DIGITS = "0123456789";
    private static final String RULE = "1:1-1,1;";
    private static final String FORTY = RULE.repeat(40);

    public static void main(String[] args) {
        fourHundredBytes();
        theLowestEightBits();
        noneOrMore();
        everyByteAtEveryPlace();
        theEnd();
        atMostSixDigits();
        blanksBetween();
        codeAboveNinetyNine();
        firstPlaceAbove999();
        secondPlaceAbove999();
        secondPlaceBelowTheFirst();
        theFortyFirstCode();
        asTheNumberEnds();
        theFirstFault();
        theTapeIsEmptyThen();
        theRulesStay();
        takeThePlaceOfAll();
        dayNotBehind();
        ofSeveralTheGreatestDay();
        ofTheseTheLastOne();
        somethingIsInIt();
        aRuleIsInForce();
        allItsHauls();
        whatIsNotThere();
        DUE.end();
    }

    private static BatchLinks withTape(String text) {
        BatchLinks x = new BatchLinks();
        for (int i = 0; i < text.length(); i++) {
            x.unit(text.charAt(i));
        }
        return x;
    }

    private static String shown(String text) {
        StringBuilder told = new StringBuilder("17: the text '");
        for (int i = 0; i < text.length(); i++) {
            char c = text.charAt(i);
            told.append(c >= ' ' && c < 127 ? "" + c : "\\" + (int) c);
        }
        return told.append('\'').toString();
    }

    private static void isFault(String text, int place) {
        BatchLinks x = withTape(text);
        DUE.is(shown(text), x.names(), -1 - place);
        DUE.is(shown(text) + ": no rules", x.all(6), 0);
    }

    private static void isGood(String text, int rules) {
        BatchLinks x = withTape(text);
        DUE.is(shown(text), x.names(), rules);
        DUE.is(shown(text) + ": its rules", x.all(6), rules);
    }

    private static void fourHundredBytes() {
        Edge has399 = new Edge(DUE, () -> withTape(FORTY + " ".repeat(79)));
        has399.yes("16: the 400th byte", x -> x.unit(' '));
        has399.gives("16: the 400th byte counts", x -> x.unit('x') ? x.names() : 0, -400);
        Edge has400 = new Edge(DUE, () -> withTape(FORTY + " ".repeat(80)));
        has400.no("16: it has 400", x -> x.unit(' '));
        has400.no("16: it has 400, any byte", x -> x.unit('x'));
        has400.no("16: it has 400, any int", x -> x.unit(LEAST_INT));
        has400.gives("17: 400 bytes", x -> x.names(), 40);
        has400.yes("16: it is empty behind names()", x -> x.names() == 40 && x.unit('1') && x.names() == -2);
        Edge fault400 = new Edge(DUE, () -> withTape(" ".repeat(399) + "1"));
        fault400.gives("17: the end of 400 bytes", x -> x.names(), -401);
        fault400.yes("16: it is empty behind a fault, too", x -> x.names() == -401 && x.unit('x') && x.names() == -1);
    }

    private static void theLowestEightBits() {
        int[] shifts = {0, 256, -256, 512, 0x7fffff00, LEAST_INT, 0x12345600};
        for (int shift : shifts) {
            BatchLinks x = new BatchLinks();
            for (int i = 0; i < RULE.length(); i++) {
                DUE.is("16: the lowest eight bits", x.unit(RULE.charAt(i) + shift), true);
            }
            DUE.is("16: the lowest eight bits, of more " + shift, x.names(), 1);
        }
        for (int u : new int[] {-1, 255, 256, 128, -128, MOST_INT, LEAST_INT}) {
            BatchLinks x = new BatchLinks();
            DUE.is("16: any byte is taken", x.unit(u), true);
            DUE.is("16: " + u + " is no digit and no blank", x.names(), -1);
        }
        BatchLinks x = new BatchLinks();
        DUE.is("16: 256 + a blank", x.unit(256 + 32) && x.unit(-256 + 9), true);
        DUE.is("16: they are blanks", x.names(), 0);
    }

    private static void noneOrMore() {
        isGood("", 0);
        isGood(RULE, 1);
        isGood(RULE + RULE, 2);
        isGood(RULE.repeat(39), 39);
        isGood(FORTY, 40);
    }

    /** A beginning of a text, the bytes but blanks that can stand behind it, and those that make it a whole text. */
    private static void everyByteAtEveryPlace() {
        String[][] beginnings = {{"", DIGITS, BLANKS}, {" ", DIGITS, BLANKS}, {"7", DIGITS + ":", ""}, {"7 ", ":", ""},
            {"7:", DIGITS, ""}, {"7: ", DIGITS, ""}, {"7:0", DIGITS + "-", ""}, {"7:0\t", "-", ""},
            {"7:0-", DIGITS, ""}, {"7:0-\n", DIGITS, ""}, {"7:0-5", DIGITS + ",", ""}, {"7:0-5\r", ",", ""},
            {"7:0-5,", DIGITS, ""}, {"7:0-5, ", DIGITS, ""}, {"7:0-5,3", DIGITS + ";", ";"}, {"7:0-5,3 ", ";", ";"},
            {"7:0-5,3;", DIGITS, BLANKS}, {"7:0-5,3; ", DIGITS, BLANKS}, {RULE + RULE + "9", DIGITS + ":", ""},
            {RULE + "9:1", DIGITS + "-", ""}, {"000007", ":", ""}, {"7:000000", "-", ""}, {"7:0-000005", ",", ""},
            {"7:0-5,000003", ";", ";"}};
        for (String[] each : beginnings) {
            for (int value = 0; value < 256; value++) {
                String text = each[0] + (char) value;
                boolean stands = (each[1] + BLANKS).indexOf(value) >= 0;
                if (each[2].indexOf(value) >= 0) {
                    isGood(text, text.indexOf(';') < 0 ? 0 : 1);
                } else {
                    isFault(text, stands ? text.length() : text.length() - 1);
                }
            }
        }
    }

    private static void theEnd() {
        String text = " 12 : 34 - 56 , 78 ; 90 : 1 - 2 , 3 ;";
        for (int length = 0; length <= text.length(); length++) {
            String part = text.substring(0, length);
            if (length < 2 || length == 20 || length == 21) {
                isGood(part, length < 2 ? 0 : 1);
            } else if (part.endsWith("- 5")) {
                isFault(part, length - 1); // a second place below the first one comes first
            } else if (length < text.length()) {
                isFault(part, length);
            } else {
                isGood(part, 2);
            }
        }
    }

    private static void atMostSixDigits() {
        isGood("000099:000999-000999,999999;", 1);
        isGood("000000:000000-000000,000000;", 1);
        isFault("0000099:1-1,1;", 6);
        isFault("1:0000001-1,1;", 8);
        isFault("1:1-0000001,1;", 10);
        isFault("1:1-1,0000001;", 12);
        isFault("1:1-1,1000000;", 12);
        isFault("1:1-1,99999999999999999999;", 12);
        isFault("4294967297:1-1,1;", 6);
        isGood("1:1-1,99999;1:1-1,100000;", 2);
    }

    private static void blanksBetween() {
        String[] parts = {"", "1", ":", "22", "-", "333", ",", "44", ";", ""};
        for (int i = 0; i + 1 < parts.length; i++) {
            StringBuilder before = new StringBuilder();
            StringBuilder behind = new StringBuilder();
            for (int k = 0; k < parts.length; k++) {
                (k <= i ? before : behind).append(parts[k]);
            }
            for (char blank : BLANKS.toCharArray()) {
                isGood(before.toString() + blank + behind, 1);
                isGood(before.toString() + blank + blank + behind, 1);
            }
            isGood(before + BLANKS + BLANKS + behind, 1);
            isGood(RULE + before + BLANKS + behind + RULE, 3);
        }
        isGood(BLANKS, 0);
        isGood(BLANKS.repeat(100), 0);
        isGood(" ".repeat(392) + RULE, 1);
        isGood(RULE + "\t".repeat(392), 1);
        // A blank within a number ends it.
        isFault("1 1:1-1,1;", 2);
        isFault("1:1 1-1,1;", 4);
        isFault("1:1-1 1,1;", 6);
        isFault("1:1-1,1 1;", 8);
    }

    private static void codeAboveNinetyNine() {
        isGood("99:1-1,1;", 1);
        isGood("0:1-1,1;", 1);
        isFault("100:1-1,1;", 0);
        isFault("  100:1-1,1;", 2);
        isFault(RULE + " 100:1-1,1;", 9);
        isFault("000100:1-1,1;", 0);
        isFault("999999:1-1,1;", 0);
    }

    private static void firstPlaceAbove999() {
        isGood("1:999-999,1;", 1);
        isFault("1:1000-1000,1;", 2);
        isFault("1: 1000-999,1;", 3);
        isFault("1:001000-1000,1;", 2);
        isFault("1:999999-999999,1;", 2);
    }

    private static void secondPlaceAbove999() {
        isGood("1:0-999,1;", 1);
        isFault("1:0-1000,1;", 4);
        isFault("1:999-1000,1;", 6);
        isFault("1:0- \n1000,1;", 6);
        isFault("1:0-001000,1;", 4);
        isFault("1:0-999999,1;", 4);
    }

    private static void secondPlaceBelowTheFirst() {
        isGood("1:5-5,1;", 1);
        isGood("1:5-6,1;", 1);
        isFault("1:5-4,1;", 4);
        isFault("1:999-998,1;", 6);
        isFault("1:1-0,1;", 4);
        isFault("1:10- 9,1;", 6);
        isGood("1:10-010,1;", 1);
        isFault("1:10-009,1;", 5);
        // The digits so far are below the first one, but the number has not ended.
        isGood("1:50-51,1;", 1);
        isGood("5:1-1,1;1:5-5,1;5:1-1,1;", 3);
    }

    private static void theFortyFirstCode() {
        isGood(FORTY + BLANKS, 40);
        isFault(FORTY + "1", 320);
        isFault(FORTY + "  1", 322);
        isFault(FORTY + RULE, 320);
        isFault(FORTY + "0:", 320);
        isFault(FORTY + "000001:", 320);
        isFault(FORTY + "100:", 320);
        isFault(FORTY + RULE + RULE, 320);
        isFault(FORTY + "x", 320);
        isFault(FORTY + ":", 320);
        isFault(RULE.repeat(39) + "1:1-1,1", 319);
        isFault(RULE.repeat(39) + "1:2-1,1;1", 316);
    }

    private static void asTheNumberEnds() {
        String[] starts = {"100", "1:1000", "1:0-1000", "1:9-8", FORTY + "7"};
        int[] first = {0, 2, 4, 4, 320};
        for (int i = 0; i < starts.length; i++) {
            // At the end of the tape, before a blank, before a sign, before what cannot stand there.
            isFault(starts[i], first[i]);
            isFault(starts[i] + " ", first[i]);
            isFault(starts[i] + ":", first[i]);
            isFault(starts[i] + "-", first[i]);
            isFault(starts[i] + ",", first[i]);
            isFault(starts[i] + ";", first[i]);
            isFault(starts[i] + "x", first[i]);
            isFault(starts[i] + " x", first[i]);
            isFault(starts[i] + " 1", first[i]);
            isFault(starts[i] + "\u00ff", first[i]);
        }
        // A seventh digit is a fault before the number ends.
        isFault("1000000", 6);
        isFault("1:1000000", 8);
        isFault("1:0-1000000", 10);
        isFault("1:9-0000008", 10);
        isFault(FORTY + "0000007", 326);
        isFault(FORTY + "000007", 320);
    }

    private static void theFirstFault() {
        isFault("1:1-1,1;x100:1-1,1;", 8);
        isFault("100:1000-999,1", 0);
        isFault("1:1000-1,1;100", 2);
        isFault("1:5-4,1234567;", 4);
        isFault("1:1-1,1234567;100:", 12);
        isFault("xx", 0);
    }

    private static void theTapeIsEmptyThen() {
        BatchLinks x = withTape("1:1-1,1;");
        DUE.is("17: good", x.names(), 1);
        DUE.is("17: empty then", x.names(), 0);
        BatchLinks y = withTape("1:1-1,");
        DUE.is("17: a fault", y.names(), -7);
        y.unit('1');
        y.unit(';');
        DUE.is("17: empty then, too, so the text begins anew", y.names(), -2);
        DUE.is("17: and again", y.names(), 0);
    }

    private static BatchLinks withRules(String text) {
        BatchLinks x = new BatchLinks();
        x.haul(10, 5, 0);
        x.haul(10, 6, 0);
        x.haul(10, 7, 0);
        x.batch();
        x.into(3, 0, 1);
        x.into(3, 1, 1);
        x.batch();
        Read.names(x, text);
        return x;
    }

    private static void theRulesStay() {
        for (String text : new String[] {"x", "1", "3:0-9,0;4", "3:0-9,0;100:0-9,0;", "1:0-9,0;3:5-4,0;"}) {
            BatchLinks x = withRules("1:5-5,0;2:6-6,0;");
            DUE.is("17: a fault", Read.names(x, text) < 0, true);
            DUE.is("17: the rules stay", x.all(6), 2);
            DUE.is("17: the first rule stays", x.name(0, 1, 0) && !x.name(1, 1, 0), true);
            DUE.is("17: the second rule stays", x.name(1, 2, 0) && !x.name(0, 2, 0), true);
            DUE.is("17: those of the text do not come", x.name(0, 3, 0), false);
        }
        BatchLinks full = withRules("1:5-5,0;".repeat(40));
        DUE.is("17: a fault, and forty rules stay", Read.names(full, "2:") == -3 && full.all(6) == 40, true);
    }

    private static void takeThePlaceOfAll() {
        BatchLinks x = withRules("1:5-5,0;2:6-6,0;");
        DUE.is("17: one rule", Read.names(x, "3:0-9,0;"), 1);
        DUE.is("17: one in all", x.all(6), 1);
        DUE.is("17: the old ones are gone", x.name(0, 1, 0) || x.name(1, 2, 0), false);
        DUE.is("17: the new one is there", x.name(0, 3, 0), true);
        DUE.is("17: a text of none", x.names(), 0);
        DUE.is("17: it takes the place of all, too", x.all(6), 0);
        DUE.is("17: none is there", x.name(0, 3, 0), false);
        BatchLinks y = withRules("1:5-5,0;".repeat(39));
        DUE.is("17: behind 39 rules two", Read.names(y, "2:5-5,0;3:5-5,0;"), 2);
        DUE.is("17: two in all", y.all(6), 2);
    }

    private static void dayNotBehind() {
        Edge edge = new Edge(DUE, () -> withRules("1:0-999,10;2:0-999,0;3:0-999,999999;"));
        edge.leaves("Terms, in force: the day before", x -> x.name(0, 1, 9) ? 1 : 0, 0);
        edge.leaves("Terms, in force: that day", x -> x.name(0, 1, 10) ? 1 : 0, 1);
        edge.yes("Terms, in force: the day behind", x -> x.name(0, 1, 11));
        edge.yes("Terms, in force: any day behind", x -> x.name(0, 1, MOST_INT));
        edge.yes("Terms, in force: day 0", x -> x.name(0, 2, 0));
        edge.no("Terms, in force: day -1", x -> x.name(0, 2, -1));
        edge.no("Terms, in force: the least day", x -> x.name(0, 2, LEAST_INT));
        edge.no("Terms, in force: day 999998", x -> x.name(0, 3, 999998));
        edge.yes("Terms, in force: day 999999", x -> x.name(0, 3, 999999));
    }

    private static void ofSeveralTheGreatestDay() {
        // The day tells which rule is in force, wherever it stands in the text.
        for (String text : new String[] {"1:5-5,10;1:6-6,20;1:7-7,30;", "1:7-7,30;1:6-6,20;1:5-5,10;",
            "1:6-6,20;1:7-7,30;1:5-5,10;", "1:6-6,20;2:0-9,25;1:5-5,10;2:0-9,5;1:7-7,30;"}) {
            Edge edge = new Edge(DUE, () -> withRules(text));
            int[] days = {9, 10, 19, 20, 29, 30, 31};
            int[] haul = {-1, 0, 0, 1, 1, 2, 2};
            for (int i = 0; i < days.length; i++) {
                int day = days[i];
                for (int each = 0; each < 3; each++) {
                    int thing = each;
                    edge.gives("Terms, of several the greatest day: " + text + " on " + day,
                        x -> x.name(thing, 1, day) ? 1 : 0, haul[i] == each ? 1 : 0);
                }
            }
        }
    }

    private static void ofTheseTheLastOne() {
        for (String text : new String[] {"1:6-6,10;1:5-5,10;", "1:6-6,10;1:7-7,10;1:5-5,10;1:6-6,9;1:7-7,8;",
            "1:6-6,10;1:5-5,10;1:7-7,11;2:7-7,10;"}) {
            Edge edge = new Edge(DUE, () -> withRules(text));
            edge.yes("Terms, of these the last one of the text: " + text, x -> x.name(0, 1, 10));
            edge.no("Terms, not the one before: " + text, x -> x.name(1, 1, 10));
            edge.no("Terms, nor another: " + text, x -> x.name(2, 1, 10));
        }
        Edge forty = new Edge(DUE, () -> withRules("1:6-6,1;".repeat(39) + "1:5-5,1;"));
        forty.yes("Terms, the last one of forty", x -> x.name(0, 1, 1));
        forty.no("Terms, not the 39th", x -> x.name(1, 1, 1));
    }

    private static void somethingIsInIt() {
        Edge edge = new Edge(DUE, () -> withRules("1:0-999,0;"));
        edge.no("18: nothing is in a new batch", x -> x.name(4, 1, 0));
        edge.yes("18: one gram is", x -> x.waste(0, 8) == 8 && x.name(0, 1, 0));
        edge.yes("18: nothing is in it any more", x -> x.waste(0, 9) == 9 && !x.name(0, 1, 0));
        edge.yes("18: again something", x -> x.waste(0, 9) == 9 && x.correct(0, 11) && x.name(0, 1, 0));
        edge.yes("18: a box with something", x -> x.box(3, 2, 1) == 5 && x.name(5, 1, 0) && !x.name(3, 1, 0));
    }

    private static void aRuleIsInForce() {
        Edge none = new Edge(DUE, () -> withRules(""));
        none.no("18: no rules", x -> x.name(0, 0, 0));
        none.no("18: no rules, any day", x -> x.name(0, 1, MOST_INT));
        Edge edge = new Edge(DUE, () -> withRules("0:0-999,0;99:0-999,0;"));
        edge.yes("18: code 0", x -> x.name(0, 0, 0));
        edge.yes("18: code 99", x -> x.name(0, 99, 0));
        for (int code : new int[] {-1, 1, 98, 100, LEAST_INT, MOST_INT}) {
            edge.no("18: no rule of a code: " + code, x -> x.name(0, code, 99999));
        }
    }

    private static void allItsHauls() {
        Edge edge = new Edge(DUE, () -> withRules("1:5-6,0;2:6-7,0;3:5-5,0;0:0-4,0;"));
        edge.yes("18: the first place", x -> x.name(0, 1, 0));
        edge.yes("18: the second place", x -> x.name(1, 1, 0));
        edge.no("18: behind the second place", x -> x.name(2, 1, 0));
        edge.no("18: before the first place", x -> x.name(0, 2, 0));
        edge.no("18: before it, by far", x -> x.name(2, 3, 0));
        edge.no("18: behind all of them", x -> x.name(0, 0, 0));
        edge.yes("18: all its hauls", x -> x.name(3, 1, 0));
        edge.no("18: all but the first", x -> x.name(3, 2, 0));
        edge.no("18: all but the last", x -> x.name(3, 3, 0));
        edge.yes("18: the one that was not is gone", x -> x.waste(3, 1) == 1 && x.name(3, 2, 0));
        edge.yes("18: one in the middle is not", x -> x.into(3, 2, 1) && x.into(3, 1, 1) && !x.name(3, 1, 0));
        Edge wide = new Edge(DUE, () -> {
            BatchLinks x = new BatchLinks();
            x.haul(1, 0, 0);
            x.haul(1, 999, 0);
            x.haul(1, 1, 0);
            Read.names(x, "1:0-999,0;2:0-0,0;3:999-999,0;");
            return x;
        });
        wide.yes("18: places 0 and 999", x -> x.name(0, 1, 0) && x.name(1, 1, 0));
        wide.yes("18: place 0 alone", x -> x.name(0, 2, 0) && !x.name(1, 2, 0) && !x.name(2, 2, 0));
        wide.yes("18: place 999 alone", x -> x.name(1, 3, 0) && !x.name(0, 3, 0) && !x.name(2, 3, 0));
    }

    private static void whatIsNotThere() {
        Edge edge = new Edge(DUE, () -> withRules("1:0-999,0;"));
        for (int number : new int[] {-1, 5, 70, LEAST_INT, MOST_INT}) {
            edge.no("18: no such thing: " + number, x -> x.name(number, 1, 0));
        }
    }
}

import java.util.ArrayList;
import java.util.List;
import java.util.TreeMap;
import java.util.TreeSet;
import java.util.regex.Matcher;
import java.util.regex.Pattern;

/** The document once more, gram by gram and day by day: slow, and written another way than the class. */
final class Model {
    static final int LAST_DAY = 40;

    private static final Pattern TEXT = Pattern.compile("(?:B*N B*: B*N B*- B*N B*, B*N B*;)* B*"
            .replace(" ", "").replace("B", "[\t\n\r ]").replace("N", "[0-9]{1,6}"));
    private static final Pattern DIGITS = Pattern.compile("[0-9]+");

    private static final class Item {
        int kind;
        int mark;
        int day;
        long told;
        long lost;
        boolean held;
        int warmest;
        List<Integer> grams = new ArrayList<>();
    }

    private final List<Item> items = new ArrayList<>();
    private final StringBuilder tape = new StringBuilder();
    private List<int[]> rules = new ArrayList<>();
    private final List<Integer> untils = new ArrayList<>();
    private final List<long[]> balances = new ArrayList<>();
    private int entries = 0;

    private Item item(int number) {
        return number >= 0 && number < items.size() ? items.get(number) : null;
    }

    private Item item(int number, int kind) {
        Item found = item(number);
        return found == null || found.kind != kind ? null : found;
    }

    private int added(Item made) {
        items.add(made);
        return items.size() - 1;
    }

    int haul(long grams, int place, int day) {
        boolean good = grams > 0 && grams <= 1000000000L && place >= 0 && place < 1000 && day >= 0 && day < 100000;
        if (!good || items.size() == 70) {
            return -1;
        }
        Item made = new Item();
        made.kind = 1;
        made.mark = place;
        made.day = day;
        made.told = grams;
        for (long i = 0; i < grams; i++) {
            made.grams.add(items.size());
        }
        return added(made);
    }

    int batch() {
        if (items.size() == 70) {
            return -1;
        }
        Item made = new Item();
        made.kind = 2;
        return added(made);
    }

    private static List<int[]> layers(List<Integer> grams) {
        List<int[]> found = new ArrayList<>();
        for (int haul : grams) {
            if (found.isEmpty() || found.get(found.size() - 1)[0] != haul) {
                found.add(new int[] {haul, 0});
            }
            found.get(found.size() - 1)[1]++;
        }
        return found;
    }

    private static boolean canGive(Item source, long grams) {
        return source != null && source.kind != 3 && !source.held && grams > 0 && grams <= source.grams.size();
    }

    private static void move(Item target, Item source, long grams) {
        List<Integer> front = source.grams.subList(0, (int) grams);
        target.grams.addAll(front);
        front.clear();
        target.warmest = Math.max(target.warmest, source.warmest);
    }

    boolean into(int batch, int from, long grams) {
        Item target = item(batch, 2);
        Item source = item(from);
        if (target == null || target == source || target.held || !canGive(source, grams)) {
            return false;
        }
        List<Integer> both = new ArrayList<>(target.grams);
        both.addAll(source.grams.subList(0, (int) grams));
        if (layers(both).size() > 80) {
            return false;
        }
        move(target, source, grams);
        return true;
    }

    int box(int from, long grams, int customer) {
        Item source = item(from);
        if (!canGive(source, grams) || customer < 0 || customer > 99 || items.size() == 70) {
            return -1;
        }
        Item made = new Item();
        made.kind = 3;
        made.mark = customer;
        move(made, source, grams);
        return added(made);
    }

    long waste(int thing, long grams) {
        Item found = item(thing);
        if (found == null || grams < 1 || grams > found.grams.size()) {
            return -1;
        }
        found.grams.subList(0, (int) grams).clear();
        found.lost += grams;
        return found.lost;
    }

    boolean hold(int thing, boolean on) {
        if (item(thing) != null) {
            item(thing).held = on;
        }
        return item(thing) != null;
    }

    boolean correct(int haul, long grams) {
        Item found = item(haul, 1);
        if (found == null || grams < 1 || grams > 1000000000L) {
            return false;
        }
        long inside = found.grams.size() + grams - found.told;
        if (inside < 0) {
            return false;
        }
        found.grams.clear();
        for (long i = 0; i < inside; i++) {
            found.grams.add(haul);
        }
        found.told = grams;
        return true;
    }

    long told(int thing, int what) {
        Item found = item(thing);
        if (found == null || what < 0 || what > 8) {
            return -1;
        }
        return new long[] {found.kind, found.grams.size(), layers(found.grams).size(), found.lost,
            found.held ? 1 : 0, found.warmest, found.mark, found.told, found.day}[what];
    }

    long layer(int thing, int k, int what) {
        Item found = item(thing);
        if (found == null || what < 0 || what > 1 || k < 0) {
            return -1;
        }
        List<int[]> rows = layers(found.grams);
        return k < rows.size() ? rows.get(k)[what] : -1;
    }

    long share(int thing, int haul, int part) {
        Item found = item(thing);
        if (found == null || item(haul, 1) == null || found.grams.isEmpty() || part < 0 || part > 1) {
            return -1;
        }
        int of = 0;
        for (int gram : found.grams) {
            of += gram == haul ? 1 : 0;
        }
        int whole = found.grams.size();
        for (int divisor = whole; divisor > 1; divisor--) {
            if (whole % divisor == 0 && of % divisor == 0) {
                whole /= divisor;
                of /= divisor;
            }
        }
        return part == 0 ? of : whole;
    }

    private static int nth(TreeSet<Integer> row, int k) {
        return k >= 0 && k < row.size() ? new ArrayList<>(row).get(k) : -1;
    }

    int back(int thing, int k) {
        Item found = item(thing);
        return found == null ? -1 : nth(new TreeSet<>(found.grams), k);
    }

    /** Of each customer how many boxes have something of the haul. */
    private TreeMap<Integer, Integer> boxes(int haul) {
        TreeMap<Integer, Integer> found = new TreeMap<>();
        for (Item each : items) {
            if (each.kind == 3 && each.grams.contains(haul)) {
                found.merge(each.mark, 1, Integer::sum);
            }
        }
        return found;
    }

    int recall(int haul) {
        return item(haul, 1) == null ? -1 : boxes(haul).size();
    }

    int recalled(int haul, int k) {
        return item(haul, 1) == null ? -1 : nth(new TreeSet<>(boxes(haul).keySet()), k);
    }

    int doubled(int k) {
        TreeSet<Integer> found = new TreeSet<>();
        for (int haul = 0; haul < items.size(); haul++) {
            for (int count : boxes(haul).values()) {
                if (count > 1) {
                    found.add(haul);
                }
            }
        }
        return nth(found, k);
    }

    boolean unit(int u) {
        if (tape.length() == 400) {
            return false;
        }
        tape.append((char) (u & 0xff));
        return true;
    }

    int names() {
        String text = tape.toString();
        tape.setLength(0);
        int bad = firstThatCannotStand(text);
        List<int[]> found = new ArrayList<>();
        Matcher digits = DIGITS.matcher(bad < 0 ? text : text.substring(0, bad));
        int first = 0;
        for (int n = 0; digits.find(); n++) {
            boolean seventh = digits.end() == bad && bad < text.length() && Character.isDigit(text.charAt(bad));
            if (seventh) {
                break;
            }
            int number = Integer.parseInt(digits.group());
            if (n % 4 == 0) {
                found.add(new int[4]);
            }
            found.get(n / 4)[n % 4] = number;
            boolean wrong = n % 4 == 0 && (number > 99 || n / 4 == 40) || n % 4 == 1 && number > 999
                    || n % 4 == 2 && (number > 999 || number < first);
            if (wrong) {
                return -1 - digits.start();
            }
            first = n % 4 == 1 ? number : first;
        }
        if (bad >= 0) {
            return -1 - bad;
        }
        rules = found;
        return rules.size();
    }

    /** The place of the byte behind the longest beginning that some good text has; -1 for a good text. */
    private static int firstThatCannotStand(String text) {
        for (int end = 1; end <= text.length(); end++) {
            Matcher beginning = TEXT.matcher(text.substring(0, end));
            if (!beginning.matches() && !beginning.hitEnd()) {
                return end - 1;
            }
        }
        return TEXT.matcher(text).matches() ? -1 : text.length();
    }

    boolean name(int thing, int code, int day) {
        Item found = item(thing);
        if (found == null || found.grams.isEmpty()) {
            return false;
        }
        for (int late = Math.min(day, 999999); late >= 0; late--) {
            for (int i = rules.size() - 1; i >= 0; i--) {
                int[] rule = rules.get(i);
                if (rule[0] == code && rule[3] == late) {
                    for (int haul : found.grams) {
                        if (items.get(haul).mark < rule[1] || items.get(haul).mark > rule[2]) {
                            return false;
                        }
                    }
                    return true;
                }
            }
        }
        return false;
    }

    int certificate(int until) {
        if (until < 0 || until > 99999 || untils.size() == 10) {
            return -1;
        }
        untils.add(until);
        balances.add(new long[LAST_DAY + 1]);
        return untils.size() - 1;
    }

    private boolean canEnter(int certificate, long grams, int day) {
        return certificate >= 0 && certificate < untils.size() && grams > 0 && grams <= 1000000000L
                && day >= 0 && day <= 99999 && entries < 100;
    }

    private void enter(int certificate, long grams, int day) {
        for (int each = day; each <= LAST_DAY; each++) {
            balances.get(certificate)[each] += grams;
        }
        entries++;
    }

    boolean credit(int certificate, long grams, int day) {
        boolean good = canEnter(certificate, grams, day);
        if (good) {
            enter(certificate, grams, day);
        }
        return good;
    }

    int claim(int certificate, long grams, int day) {
        if (!canEnter(certificate, grams, day)) {
            return -1;
        }
        if (day > untils.get(certificate)) {
            return 1;
        }
        for (int each = day; each <= LAST_DAY; each++) {
            if (balances.get(certificate)[each] - grams < 0) {
                return 2;
            }
        }
        enter(certificate, -grams, day);
        return 0;
    }

    long balance(int certificate, int day) {
        if (certificate < 0 || certificate >= untils.size()) {
            return -1;
        }
        return day < 0 ? 0 : balances.get(certificate)[Math.min(day, LAST_DAY)];
    }

    boolean warm(int thing, int eighths) {
        Item found = item(thing);
        boolean good = found != null && eighths >= 1 && eighths <= 4000;
        if (good && eighths > found.warmest) {
            found.warmest = eighths;
        }
        return good;
    }

    int paper(int box, int country, int i) {
        Item found = item(box, 3);
        if (found == null || country < 0 || country > 99) {
            return -1;
        }
        StringBuilder text = new StringBuilder(country + "/" + box);
        for (int[] each : layers(found.grams)) {
            text.append(" " + each[0] + ":" + each[1]);
        }
        return i >= 0 && i < text.length() ? text.charAt(i) : -1;
    }

    long all(int what) {
        if (what < 0 || what > 7) {
            return -1;
        }
        long[] sums = new long[8];
        for (Item each : items) {
            sums[0] += each.told;
            sums[each.kind] += each.grams.size();
            sums[4] += each.lost;
        }
        sums[5] = items.size();
        sums[6] = rules.size();
        sums[7] = untils.size();
        return sums[what];
    }
}

/**
 * Fish from hauls through batches into boxes: every gram keeps its haul.
 *
 * All rows are made with the object or with a thing and used again, since what a run makes is counted.
 */
public final class BatchLinks {
    public static final int NONE = -1;

    // The numbers that told(thing, 0) answers.
    private static final int HAUL = 1;
    private static final int BATCH = 2;
    private static final int BOX = 3;

    // Two of the facts that told(thing, what) answers, since they are summed over all things, too.
    private static final int LOST = 3;
    private static final int GRAMS_TOLD = 7;

    private static final int MAX_THINGS = 70;
    private static final int MAX_LAYERS = 80;
    private static final long MAX_GRAMS = 1000000000L;
    private static final int MAX_PLACE = 999;
    private static final int MAX_DAY = 99999;
    private static final int MAX_CUSTOMER = 99;
    private static final int MAX_COUNTRY = 99;
    private static final int MAX_EIGHTHS = 4000;
    // Ten bytes of heading and fourteen a layer: a blank, two digits, a colon, ten digits.
    private static final int MAX_PAPER = 10 + 14 * MAX_LAYERS;

    private final Thing[] things;
    private int thingCount;
    private final Tally hauls;
    private final Tally boxesOfCustomers;
    private final Tape tape;
    private Rules rules;
    private Rules spareRules;
    private final Ledger ledger;
    private final Bytes page;

    public BatchLinks() {
        things = new Thing[MAX_THINGS];
        thingCount = 0;
        hauls = new Tally();
        boxesOfCustomers = new Tally();
        tape = new Tape();
        rules = new Rules();
        spareRules = new Rules();
        ledger = new Ledger();
        page = new Bytes(MAX_PAPER);
    }

    public int haul(long grams, int place, int day) {
        if (!isWeight(grams) || !isWithin(place, MAX_PLACE) || !isWithin(day, MAX_DAY)) {
            return NONE;
        }
        if (isFull()) {
            return NONE;
        }
        Thing made = new Thing(HAUL, place, day);
        made.grams = grams;
        made.layers.append(thingCount, grams);
        return keep(made);
    }

    public int batch() {
        if (isFull()) {
            return NONE;
        }
        return keep(new Thing(BATCH, 0, 0));
    }

    public boolean into(int batch, int from, long grams) {
        Thing target = find(batch);
        Thing source = find(from);
        if (target == null || source == null || target == source) {
            return false;
        }
        if (target.kind != BATCH || source.kind == BOX) {
            return false;
        }
        if (target.held || source.held || !source.layers.have(grams)) {
            return false;
        }
        if (target.layers.sizeWith(source.layers, grams) > MAX_LAYERS) {
            return false;
        }
        target.takeFrom(source, grams);
        return true;
    }

    public int box(int from, long grams, int customer) {
        Thing source = find(from);
        if (source == null || source.kind == BOX || !isWithin(customer, MAX_CUSTOMER)) {
            return NONE;
        }
        if (source.held || !source.layers.have(grams)) {
            return NONE;
        }
        if (source.layers.sizeOf(grams) > MAX_LAYERS || isFull()) {
            return NONE;
        }
        Thing made = new Thing(BOX, customer, 0);
        made.takeFrom(source, grams);
        return keep(made);
    }

    public long waste(int thing, long grams) {
        Thing found = find(thing);
        if (found == null || !found.layers.have(grams)) {
            return NONE;
        }
        found.layers.dropFront(grams);
        found.lost += grams;
        return found.lost;
    }

    public boolean hold(int thing, boolean on) {
        Thing found = find(thing);
        if (found == null) {
            return false;
        }
        found.held = on;
        return true;
    }

    public boolean correct(int haul, long grams) {
        Thing found = findHaul(haul);
        if (found == null || !isWeight(grams)) {
            return false;
        }
        long inside = found.layers.total() + grams - found.grams;
        if (inside < 0) {
            return false;
        }
        found.grams = grams;
        // A haul has at most one layer, its own: so it can be laid anew.
        found.layers.clear();
        if (inside > 0) {
            found.layers.append(haul, inside);
        }
        return true;
    }

    public long told(int thing, int what) {
        Thing found = find(thing);
        return found == null ? NONE : found.fact(what);
    }

    public long layer(int thing, int k, int what) {
        Thing found = find(thing);
        if (found == null) {
            return NONE;
        }
        switch (what) {
            case 0:
                return found.layers.haulAt(k);
            case 1:
                return found.layers.gramsAt(k);
            default:
                return NONE;
        }
    }

    public long share(int thing, int haul, int part) {
        Thing found = find(thing);
        if (found == null || findHaul(haul) == null) {
            return NONE;
        }
        long whole = found.layers.total();
        if (whole < 1 || part < 0 || part > 1) {
            return NONE;
        }
        long ofHaul = found.layers.gramsOf(haul);
        long divisor = greatestDivisor(whole, ofHaul);
        if (divisor < 1) {
            return NONE;
        }
        return (part == 0 ? ofHaul : whole) / divisor;
    }

    public int back(int thing, int k) {
        Thing found = find(thing);
        if (found == null) {
            return NONE;
        }
        hauls.clear();
        for (int at = 0; at < found.layers.size(); at++) {
            hauls.count(found.layers.haulAt(at));
        }
        return hauls.pick(k);
    }

    public int recall(int haul) {
        if (findHaul(haul) == null) {
            return NONE;
        }
        countBoxesWith(haul);
        return boxesOfCustomers.countedAtLeast(1);
    }

    public int recalled(int haul, int k) {
        if (findHaul(haul) == null) {
            return NONE;
        }
        countBoxesWith(haul);
        return boxesOfCustomers.pick(k);
    }

    public int doubled(int k) {
        hauls.clear();
        for (int number = 0; number < thingCount; number++) {
            if (findHaul(number) != null) {
                countBoxesWith(number);
                if (boxesOfCustomers.countedAtLeast(2) > 0) {
                    hauls.count(number);
                }
            }
        }
        return hauls.pick(k);
    }

    public boolean unit(int u) {
        return tape.put(u & 255);
    }

    public int names() {
        int fault = tape.read(spareRules);
        tape.clear();
        if (fault != NONE) {
            return -1 - fault;
        }
        Rules old = rules;
        rules = spareRules;
        spareRules = old;
        return rules.size();
    }

    public boolean name(int thing, int code, int day) {
        Thing found = find(thing);
        if (found == null || found.layers.size() == 0) {
            return false;
        }
        int rule = rules.inForce(code, day);
        if (rule == NONE) {
            return false;
        }
        for (int k = 0; k < found.layers.size(); k++) {
            Thing from = findHaul(found.layers.haulAt(k));
            if (from == null || !rules.allows(rule, from.mark)) {
                return false;
            }
        }
        return true;
    }

    public int certificate(int until) {
        return isWithin(until, MAX_DAY) ? ledger.open(until) : NONE;
    }

    public boolean credit(int certificate, long grams, int day) {
        if (!canEnter(certificate, grams, day)) {
            return false;
        }
        ledger.enter(certificate, grams, day);
        return true;
    }

    public int claim(int certificate, long grams, int day) {
        if (!canEnter(certificate, grams, day)) {
            return NONE;
        }
        if (ledger.isOver(certificate, day)) {
            return 1;
        }
        if (!ledger.covers(certificate, grams, day)) {
            return 2;
        }
        ledger.enter(certificate, -grams, day);
        return 0;
    }

    public long balance(int certificate, int day) {
        return ledger.has(certificate) ? ledger.sumUpTo(certificate, day) : NONE;
    }

    public boolean warm(int thing, int eighths) {
        Thing found = find(thing);
        if (found == null || eighths < 1 || eighths > MAX_EIGHTHS) {
            return false;
        }
        found.warmest = Math.max(found.warmest, eighths);
        return true;
    }

    public int paper(int box, int country, int i) {
        Thing found = find(box);
        if (found == null || found.kind != BOX || !isWithin(country, MAX_COUNTRY)) {
            return NONE;
        }
        page.clear();
        page.putNumber(country);
        page.put('/');
        page.putNumber(box);
        for (int k = 0; k < found.layers.size(); k++) {
            page.put(' ');
            page.putNumber(found.layers.haulAt(k));
            page.put(':');
            page.putNumber(found.layers.gramsAt(k));
        }
        return page.byteAt(i);
    }

    public long all(int what) {
        switch (what) {
            case 0:
                return sumOfFact(GRAMS_TOLD);
            case 1:
                return sumInside(HAUL);
            case 2:
                return sumInside(BATCH);
            case 3:
                return sumInside(BOX);
            case 4:
                return sumOfFact(LOST);
            case 5:
                return thingCount;
            case 6:
                return rules.size();
            case 7:
                return ledger.size();
            default:
                return NONE;
        }
    }

    private static boolean isWeight(long grams) {
        return grams >= 1 && grams <= MAX_GRAMS;
    }

    private static boolean isWithin(int value, int most) {
        return value >= 0 && value <= most;
    }

    private static long greatestDivisor(long a, long b) {
        long left = a;
        long right = b;
        // Two longs need fewer than 100 steps of Euclid's; the bound only makes the end visible.
        for (int step = 0; step < 100 && right != 0; step++) {
            long rest = left % right;
            left = right;
            right = rest;
        }
        return left;
    }

    private boolean isFull() {
        return thingCount >= things.length;
    }

    private int keep(Thing made) {
        if (isFull()) {
            return NONE;
        }
        things[thingCount] = made;
        thingCount++;
        return thingCount - 1;
    }

    private Thing find(int number) {
        return number >= 0 && number < thingCount ? things[number] : null;
    }

    private Thing findHaul(int number) {
        Thing found = find(number);
        return found != null && found.kind == HAUL ? found : null;
    }

    private void countBoxesWith(int haul) {
        boxesOfCustomers.clear();
        for (int number = 0; number < thingCount; number++) {
            Thing found = find(number);
            if (found != null && found.kind == BOX && found.layers.gramsOf(haul) > 0) {
                boxesOfCustomers.count(found.mark);
            }
        }
    }

    private boolean canEnter(int certificate, long grams, int day) {
        return ledger.has(certificate) && isWeight(grams) && isWithin(day, MAX_DAY) && !ledger.isFull();
    }

    private long sumOfFact(int what) {
        long sum = 0;
        for (int number = 0; number < thingCount; number++) {
            Thing found = find(number);
            if (found != null) {
                sum += found.fact(what);
            }
        }
        return sum;
    }

    private long sumInside(int kind) {
        long sum = 0;
        for (int number = 0; number < thingCount; number++) {
            Thing found = find(number);
            if (found != null && found.kind == kind) {
                sum += found.layers.total();
            }
        }
        return sum;
    }

    /** A haul, a batch or a box. */
    private static final class Thing {
        final int kind;
        final int mark; // the place of a haul, the customer of a box
        final int day;
        final Layers layers;
        long grams; // as told of a haul
        long lost;
        boolean held;
        int warmest;

        Thing(int kind, int mark, int day) {
            this.kind = kind;
            this.mark = mark;
            this.day = day;
            layers = new Layers();
        }

        void takeFrom(Thing source, long amount) {
            layers.appendFront(source.layers, amount);
            source.layers.dropFront(amount);
            warmest = Math.max(warmest, source.warmest);
        }

        long fact(int what) {
            switch (what) {
                case 0:
                    return kind;
                case 1:
                    return layers.total();
                case 2:
                    return layers.size();
                case LOST:
                    return lost;
                case 4:
                    return held ? 1 : 0;
                case 5:
                    return warmest;
                case 6:
                    return mark;
                case GRAMS_TOLD:
                    return grams;
                case 8:
                    return day;
                default:
                    return NONE;
            }
        }
    }

    /** Grams by their hauls, the oldest first; no two neighbours are of the same haul. */
    private static final class Layers {
        private final int[] hauls = new int[MAX_LAYERS];
        private final long[] grams = new long[MAX_LAYERS];
        private int count;

        int size() {
            return count;
        }

        int haulAt(int k) {
            return k >= 0 && k < count ? hauls[k] : NONE;
        }

        long gramsAt(int k) {
            return k >= 0 && k < count ? grams[k] : NONE;
        }

        long total() {
            long sum = 0;
            for (int k = 0; k < count; k++) {
                sum += grams[k];
            }
            return sum;
        }

        long gramsOf(int haul) {
            long sum = 0;
            for (int k = 0; k < count; k++) {
                if (hauls[k] == haul) {
                    sum += grams[k];
                }
            }
            return sum;
        }

        boolean have(long amount) {
            return amount >= 1 && amount <= total();
        }

        /** In how many layers the first grams lie. */
        int sizeOf(long amount) {
            long left = amount;
            int touched = 0;
            for (int k = 0; k < count && left > 0; k++) {
                left -= grams[k];
                touched++;
            }
            return touched;
        }

        /** How many layers there would be with another row's first grams behind these. */
        int sizeWith(Layers source, long amount) {
            int sum = count + source.sizeOf(amount);
            return count > 0 && haulAt(count - 1) == source.haulAt(0) ? sum - 1 : sum;
        }

        void clear() {
            count = 0;
        }

        void append(int haul, long amount) {
            if (count > 0 && hauls[count - 1] == haul) {
                grams[count - 1] += amount;
            } else if (count < hauls.length) {
                hauls[count] = haul;
                grams[count] = amount;
                count++;
            }
        }

        void appendFront(Layers source, long amount) {
            long left = amount;
            for (int k = 0; k < source.count && left > 0; k++) {
                long part = Math.min(left, source.grams[k]);
                append(source.hauls[k], part);
                left -= part;
            }
        }

        void dropFront(long amount) {
            long left = amount;
            int emptied = 0;
            for (int k = 0; k < count && left > 0; k++) {
                long part = Math.min(left, grams[k]);
                grams[k] -= part;
                left -= part;
                if (grams[k] == 0) {
                    emptied++;
                }
            }
            dropLayers(emptied);
        }

        private void dropLayers(int emptied) {
            for (int k = emptied; k < count; k++) {
                hauls[k - emptied] = hauls[k];
                grams[k - emptied] = grams[k];
            }
            count -= emptied;
        }
    }

    /** How often each number came: of a haul, or of a customer. */
    private static final class Tally {
        private static final int NUMBERS = 100; // customers, of which there are more than things

        private final int[] counts = new int[NUMBERS];

        void clear() {
            for (int number = 0; number < counts.length; number++) {
                counts[number] = 0;
            }
        }

        void count(int number) {
            if (number >= 0 && number < counts.length) {
                counts[number]++;
            }
        }

        int countedAtLeast(int times) {
            int found = 0;
            for (int number = 0; number < counts.length; number++) {
                if (counts[number] >= times) {
                    found++;
                }
            }
            return found;
        }

        /** The k-th of the numbers that came, the least first. */
        int pick(int k) {
            int before = 0;
            for (int number = 0; number < counts.length; number++) {
                if (counts[number] > 0) {
                    if (before == k) {
                        return number;
                    }
                    before++;
                }
            }
            return NONE;
        }
    }

    /** A row of bytes, each 0 to 255: the tape, or a paper. */
    private static final class Bytes {
        private static final int MAX_DIGITS = 19; // of any long

        private final int[] row;
        private int count;

        Bytes(int room) {
            row = new int[Math.max(room, 0)];
        }

        int size() {
            return count;
        }

        void clear() {
            count = 0;
        }

        int byteAt(int place) {
            return place >= 0 && place < count ? row[place] : NONE;
        }

        boolean put(int value) {
            if (count >= row.length) {
                return false;
            }
            row[count] = value;
            count++;
            return true;
        }

        void putNumber(long number) {
            int end = count + digitsOf(number);
            if (number < 0 || end > row.length) {
                return;
            }
            long left = number;
            for (int place = end - 1; place >= count; place--) {
                row[place] = '0' + (int) (left % 10);
                left /= 10;
            }
            count = end;
        }

        private static int digitsOf(long number) {
            int digits = 1;
            long left = number / 10;
            while (left > 0 && digits < MAX_DIGITS) {
                left /= 10;
                digits++;
            }
            return digits;
        }
    }

    /** Which places a code's name may come from, and from which day on. */
    private static final class Rules {
        private static final int MAX_RULES = 40;

        private final int[] codes = new int[MAX_RULES];
        private final int[] firsts = new int[MAX_RULES];
        private final int[] seconds = new int[MAX_RULES];
        private final int[] days = new int[MAX_RULES];
        private int count;

        int size() {
            return count;
        }

        boolean isFull() {
            return count >= codes.length;
        }

        void clear() {
            count = 0;
        }

        void add(int code, int first, int second, int day) {
            if (!isFull()) {
                codes[count] = code;
                firsts[count] = first;
                seconds[count] = second;
                days[count] = day;
                count++;
            }
        }

        int inForce(int code, int day) {
            int best = NONE;
            for (int rule = 0; rule < count; rule++) {
                boolean stands = codes[rule] == code && days[rule] <= day;
                // As late as the best so far wins too: of these the last one of the text is in force.
                if (stands && (best == NONE || days[rule] >= days[best])) {
                    best = rule;
                }
            }
            return best;
        }

        boolean allows(int rule, int place) {
            return rule >= 0 && rule < count && place >= firsts[rule] && place <= seconds[rule];
        }
    }

    /** The tape, read as a text of names. The first fault stays: all that is read behind it counts for nothing. */
    private static final class Tape {
        private static final int MAX_BYTES = 400;
        private static final int MAX_DIGITS = 6;
        private static final int MAX_NUMBER = 999999;
        private static final int MAX_CODE = 99;

        private final Bytes bytes = new Bytes(MAX_BYTES);
        private int at;
        private int fault;

        boolean put(int value) {
            return bytes.put(value);
        }

        void clear() {
            bytes.clear();
        }

        /** The place of the fault, or NONE when the rules found are the text's. */
        int read(Rules found) {
            at = 0;
            fault = NONE;
            found.clear();
            skipBlanks();
            // One round more than there may be rules: the code too many is a fault itself.
            for (int round = 0; round <= Rules.MAX_RULES && fault == NONE && at < bytes.size(); round++) {
                readRule(found);
                skipBlanks();
            }
            return fault;
        }

        private void readRule(Rules found) {
            // No number is low enough for a code too many, so it fails as a code too great does.
            int code = readNumber(0, found.isFull() ? NONE : MAX_CODE);
            readSign(':');
            int first = readNumber(0, MAX_PLACE);
            readSign('-');
            int second = readNumber(first, MAX_PLACE);
            readSign(',');
            int day = readNumber(0, MAX_NUMBER);
            readSign(';');
            if (fault == NONE) {
                found.add(code, first, second, day);
            }
        }

        private int readNumber(int least, int most) {
            skipBlanks();
            int start = at;
            int number = 0;
            for (int digit = 0; digit < MAX_DIGITS && isDigit(); digit++) {
                number = number * 10 + bytes.byteAt(at) - '0';
                at++;
            }
            if (at == start || isDigit()) {
                fail(at);
            } else if (number < least || number > most) {
                fail(start);
            }
            return number;
        }

        private void readSign(char sign) {
            skipBlanks();
            if (bytes.byteAt(at) == sign) {
                at++;
            } else {
                fail(at);
            }
        }

        private void fail(int place) {
            if (fault == NONE) {
                fault = place;
            }
        }

        private boolean isDigit() {
            int value = bytes.byteAt(at);
            return value >= '0' && value <= '9';
        }

        private boolean isBlank() {
            int value = bytes.byteAt(at);
            return value == 9 || value == 10 || value == 13 || value == 32;
        }

        private void skipBlanks() {
            for (int step = 0; step < MAX_BYTES && isBlank(); step++) {
                at++;
            }
        }
    }

    /** Certificates with their credits and claims; a claim is an entry below 0. */
    private static final class Ledger {
        private static final int MAX_CERTIFICATES = 10;
        private static final int MAX_ENTRIES = 100;

        private final int[] untils = new int[MAX_CERTIFICATES];
        private int certificates;
        private final int[] owners = new int[MAX_ENTRIES];
        private final int[] days = new int[MAX_ENTRIES];
        private final long[] amounts = new long[MAX_ENTRIES];
        private int entries;

        int size() {
            return certificates;
        }

        boolean has(int number) {
            return number >= 0 && number < certificates;
        }

        boolean isFull() {
            return entries >= owners.length;
        }

        int open(int until) {
            if (certificates >= untils.length) {
                return NONE;
            }
            untils[certificates] = until;
            certificates++;
            return certificates - 1;
        }

        boolean isOver(int number, int day) {
            return has(number) && day > untils[number];
        }

        void enter(int number, long amount, int day) {
            if (!isFull()) {
                owners[entries] = number;
                amounts[entries] = amount;
                days[entries] = day;
                entries++;
            }
        }

        long sumUpTo(int number, int day) {
            long sum = 0;
            for (int entry = 0; entry < entries; entry++) {
                if (owners[entry] == number && days[entry] <= day) {
                    sum += amounts[entry];
                }
            }
            return sum;
        }

        /** Whether no balance from the day on is below the amount; it changes only on days of entries. */
        boolean covers(int number, long amount, int day) {
            if (sumUpTo(number, day) < amount) {
                return false;
            }
            for (int entry = 0; entry < entries; entry++) {
                boolean later = owners[entry] == number && days[entry] > day;
                if (later && sumUpTo(number, days[entry]) < amount) {
                    return false;
                }
            }
            return true;
        }
    }
}

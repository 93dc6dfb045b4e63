/** Objects that tests of edges begin with. */
final class Scenes {
    private Scenes() {
    }

    /**
     * Something of everything.
     *
     * Hauls 0 (60 grams of 100, place 5) and 1 (30 of 50, place 9); batches 2 (1:15 0:10) and 3 (empty); box 4 (0:29
     * 1:5, one gram lost) for customer 7; certificates 0 (up to day 20) and 1 (up to day 0); three rules; half a text.
     */
    static BatchLinks some() {
        BatchLinks x = new BatchLinks();
        Read.names(x, "1:0-999,0;2:5-6,5;2:6-9,10;");
        x.haul(100, 5, 3);
        x.haul(50, 9, 4);
        x.batch();
        x.batch();
        x.warm(1, 200);
        x.into(2, 0, 30);
        x.into(2, 1, 20);
        x.into(2, 0, 10);
        x.box(2, 35, 7);
        x.waste(4, 1);
        x.certificate(20);
        x.certificate(0);
        x.credit(0, 10, 5);
        x.claim(0, 4, 10);
        x.unit('3');
        x.unit(':');
        return x;
    }

    /** Some, but one of its things is held. */
    static BatchLinks someHeld(int thing) {
        BatchLinks x = some();
        x.hold(thing, true);
        return x;
    }

    /** Some, and so many empty batches behind it that there are 69 things. */
    static BatchLinks sixtyNine() {
        BatchLinks x = some();
        for (int i = 5; i < 69; i++) {
            x.batch();
        }
        return x;
    }

    static BatchLinks seventy() {
        BatchLinks x = sixtyNine();
        x.batch();
        return x;
    }

    /**
     * Batch 2 has so many layers of a gram, of hauls 0 and 1 in turn; batches 3 (0:2 1:2) and 4 (1:2 0:2) have two. They
     * are differently warm, so that what is taken, though it should not be, shows.
     */
    static BatchLinks layered(int layers) {
        BatchLinks x = new BatchLinks();
        x.haul(1000, 1, 1);
        x.haul(1000, 2, 2);
        x.batch();
        x.batch();
        x.batch();
        for (int i = 0; i < layers; i++) {
            x.into(2, i % 2, 1);
        }
        x.into(3, 0, 2);
        x.into(3, 1, 2);
        x.into(4, 1, 2);
        x.into(4, 0, 2);
        for (int thing = 0; thing < 5; thing++) {
            x.warm(thing, 100 + thing);
        }
        return x;
    }
}

/** Reads what an object shows, as texts that a test can compare. Every loop ends, whatever the object answers. */
final class Read {
    private static final int MOST_LAYERS = 81;
    private static final int MOST_BYTES = 1200;

    private Read() {
    }

    static String layers(BatchLinks x, int thing) {
        StringBuilder text = new StringBuilder();
        long haul = x.layer(thing, 0, 0);
        for (int k = 0; k < MOST_LAYERS && haul != BatchLinks.NONE; k++) {
            text.append(k == 0 ? "" : " ").append(haul).append(':').append(x.layer(thing, k, 1));
            haul = x.layer(thing, k + 1, 0);
        }
        return text.toString();
    }

    static String paper(BatchLinks x, int box, int country) {
        return beginning(x, box, country, MOST_BYTES);
    }

    static String beginning(BatchLinks x, int box, int country, int most) {
        StringBuilder text = new StringBuilder();
        for (int i = 0; i < most; i++) {
            int next = x.paper(box, country, i);
            if (next == BatchLinks.NONE) {
                break;
            }
            text.append((char) next);
        }
        return text.toString();
    }

    static String sums(BatchLinks x) {
        StringBuilder text = new StringBuilder();
        for (int what = 0; what <= 7; what++) {
            text.append(what == 0 ? "" : " ").append(x.all(what));
        }
        return text.toString();
    }

    /** All that is told of every thing, and the sums: two equal texts mean that nothing changed. */
    static String things(BatchLinks x) {
        StringBuilder text = new StringBuilder(sums(x));
        for (int thing = 0; thing < 70 && x.told(thing, 0) != BatchLinks.NONE; thing++) {
            text.append(" |");
            for (int what = 0; what <= 8; what++) {
                text.append(' ').append(x.told(thing, what));
            }
            text.append(" [").append(layers(x, thing)).append(']');
        }
        return text.toString();
    }

    static int names(BatchLinks x, String text) {
        for (int i = 0; i < text.length(); i++) {
            x.unit(text.charAt(i));
        }
        return x.names();
    }
}

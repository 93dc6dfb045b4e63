/** Reads what an object shows, as texts that a test can compare. */
final class Read {
    private Read() {
    }

    static String layers(BatchLinks x, int thing) {
        StringBuilder text = new StringBuilder();
        for (int k = 0; x.layer(thing, k, 0) != BatchLinks.NONE; k++) {
            text.append(k == 0 ? "" : " ").append(x.layer(thing, k, 0)).append(':').append(x.layer(thing, k, 1));
        }
        return text.toString();
    }

    static String paper(BatchLinks x, int box, int country) {
        StringBuilder text = new StringBuilder();
        int next = x.paper(box, country, 0);
        for (int i = 1; next != BatchLinks.NONE; i++) {
            text.append((char) next);
            next = x.paper(box, country, i);
        }
        return text.toString();
    }

    static String sums(BatchLinks x) {
        StringBuilder text = new StringBuilder();
        for (int what = 0; what <= 7; what++) {
            text.append(what == 0 ? "" : " ").append(x.all(what));
        }
        return text.toString();
    }

    /** All that is told of every thing, and the sums: two equal texts mean that nothing changed. */
    static String things(BatchLinks x) {
        StringBuilder text = new StringBuilder(sums(x));
        for (int thing = 0; thing < x.all(5); thing++) {
            text.append(" |");
            for (int what = 0; what <= 8; what++) {
                text.append(' ').append(x.told(thing, what));
            }
            text.append(" [").append(layers(x, thing)).append(']');
        }
        return text.toString();
    }

    static int names(BatchLinks x, String text) {
        for (int i = 0; i < text.length(); i++) {
            x.unit(text.charAt(i));
        }
        return x.names();
    }
}

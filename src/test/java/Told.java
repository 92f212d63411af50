/** Texts of towns, by their parts. */
final class Told {
    static final String HEAD = "town dawn 6 dusk 18 door 80";
    /** One house a of sill 20. */
    static final String ONE = HEAD + ";house a sill 20";
    /** Houses a and b without a lane. */
    static final String TWO = ONE + ";house b sill 20";
    /** Houses a and b, seven minutes apart. */
    static final String LANE = TWO + ";lane a b minutes 7";

    private Told() {
    }

    /** A line as often as this, each # of it a name of its own: ahead of it a letter, then a, b, c ... */
    static String lines(String line, int count) {
        StringBuilder s = new StringBuilder();
        for (int i = 0; i < count; i++) {
            s.append(';').append(line.replace('#', (char) ('a' + i)));
        }
        return s.toString();
    }

    static String adult(String name, int height) {
        return ";person " + name + " adult of a tall " + height + " upper abc lower ab";
    }

    static String child(String name, String house, int height) {
        return ";person " + name + " child of " + house + " tall " + height + " upper abc lower ab";
    }

    static String good(String name, int bulk, String from, String to) {
        return ";good " + name + " size " + bulk + " at " + from + " to " + to;
    }

    static String visit(String who, String house, int hour) {
        return ";visit " + who + " " + house + " hour " + hour;
    }

    static String print(String house, String look, int night) {
        return ";print " + house + " " + look + " night " + night;
    }
}

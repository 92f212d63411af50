/** Promises 1 to 5: a new object, the tape, the text and its faults. */
public final class TextTest {
    private static final String HEAD = "town dawn 6 dusk 18 door 80";
    private static final String BASE = HEAD + ";house a sill 20;house b sill 20;"
            + "person p adult of a tall 50 upper abc lower ab";

    public static void main(String[] args) {
        newObject();
        tape();
        townCall();
        tokens();
        form();
        names();
        again();
        bounds();
        many();
        lacks();
        looks();
        firstFromTheLeft();
        Check.end("TextTest");
    }

    private static void newObject() {
        HalfDoors x = new HalfDoors();
        Check.due("trouble()", x.trouble(), 0);
        Check.due("fault()", x.fault(), 0);
        Check.due("where()", x.where(), -1);
        for (int what = 0; what <= 13; what++) {
            Check.due("size(" + what + ")", x.size(what), 0);
        }
        Check.refused(x, "house(0, 0)", x.house(0, 0), 1);
        Check.refused(x, "person(0, 0)", x.person(0, 0), 1);
        Check.refused(x, "mark(0, 0)", x.mark(0, 0), 1);
        Check.refused(x, "good(0, 0)", x.good(0, 0), 1);
        Check.refused(x, "light(9)", x.light(9), 1);
        Check.refused(x, "light(24)", x.light(24), 1);
        Check.refused(x, "seen(0, 0, 9)", x.seen(0, 0, 9), 1);
        Check.refused(x, "taken(0, 0, 24)", x.taken(0, 0, 24), 1);
        Check.refused(x, "pairs(0, 9)", x.pairs(0, 9), 1);
        Check.refused(x, "knownAt(0)", x.knownAt(0), 1);
        Check.refused(x, "fine(0, 0, 9)", x.fine(0, 0, 9), 1);
        Check.refused(x, "visit(0, 0)", x.visit(0, 0), 1);
        Check.refused(x, "fines(0)", x.fines(0), 1);
        Check.refused(x, "bares(0)", x.bares(0), 1);
        Check.refused(x, "met(0)", x.met(0), 1);
        Check.refused(x, "busiest()", x.busiest(), 1);
        Check.refused(x, "apart(0, 1)", x.apart(0, 1), 1);
        Check.refused(x, "tells()", x.tells(), 1);
        Check.refused(x, "another(9)", x.another(9), 1);
        Check.refused(x, "leastSill()", x.leastSill(), 1);
        Check.refused(x, "way(0, 0)", x.way(0, 0), 1);
        Check.refused(x, "wayAt(0, 0, 0)", x.wayAt(0, 0, 0), 1);
        Check.refused(x, "carried()", x.carried(), 1);
        Check.refused(x, "carrier(0)", x.carrier(0), 1);
        Check.refused(x, "alone(0)", x.alone(0), 1);
        Check.refused(x, "stuck()", x.stuck(), 1);
        Check.refused(x, "hands(0)", x.hands(0), 1);
        Check.refused(x, "round(0)", x.round(0), 1);
        Check.refused(x, "pieces()", x.pieces(), 1);
        Check.refused(x, "fits()", x.fits(), 1);
        Check.refused(x, "could(0)", x.could(0), 1);
        Check.refused(x, "surely(0)", x.surely(0), 1);
        Check.refused(x, "ask()", x.ask(), 1);
        Check.due("shop(0, 9, true)", x.shop(0, 9, true), -100);
        Check.due("trouble()", x.trouble(), 1);
        Check.refused(x, "rests()", x.rests(), 1);
        Check.refused(x, "rest()", x.rest(), 1);
        Check.refused(x, "day(-1)", x.day(-1), 1);
        Check.refused(x, "dayOf(0, 0, 0)", x.dayOf(0, 0, 0), 1);
        Check.refused(x, "go(0, 0)", x.go(0, 0), 1);
        Check.refused(x, "hand(0, 0)", x.hand(0, 0), 1);
        Check.refused(x, "hours(0)", x.hours(0), 1);
        Check.refused(x, "undo()", x.undo(), 6);
        Check.refused(x, "image()", x.image(), 1);
        Check.refused(x, "back(0)", x.back(0), 1);
        Check.throwsNoSuch(x, 0);
    }

    private static void tape() {
        HalfDoors x = new HalfDoors();
        x.undo();
        for (int i = 1; i <= 55; i++) {
            Check.due("feed " + i, x.feed(i, -1, 0x20202020, 7, Integer.MIN_VALUE), 20 * i);
        }
        Check.due("feed above 1,100", x.feed(0, 0, 0, 0, 0), -1);
        Check.due("size(13)", x.size(13), 1100);
        Check.due("trouble() isn't feed's", x.trouble(), 6);
        Check.refused(x, "town(1101)", x.town(1101), 2);
        Check.refused(x, "town(-1)", x.town(-1), 2);
        Check.due("size(13) stays", x.size(13), 1100);
        Check.refused(x, "town(1100)", x.town(1100), 4);
        Check.due("size(13) empty", x.size(13), 0);
        Check.due("feed again", x.feed(1, 2, 3, 4, 5), 20);
        Check.due("trouble() isn't feed's", x.trouble(), 4);
        // The bytes come the highest first, the numbers in their order.
        HalfDoors y = new HalfDoors();
        y.feed(0x746f776e, 0x20646177, 0x6e203120, 0x20202020, 0x20202020);
        Check.refused(y, "town dawn 1", y.town(11), 4);
        Check.due("fault()", y.fault(), 4);
        Check.due("where()", y.where(), 10);
    }

    private static void townCall() {
        HalfDoors x = new HalfDoors();
        Check.answers(x, "town", Check.tell(x, BASE), 1);
        Check.due("size(13)", x.size(13), 0);
        Check.due("fault()", x.fault(), 0);
        Check.due("where()", x.where(), -1);
        x.hours(15);
        x.image();
        Check.refused(x, "a fault", Check.tell(x, HEAD), 4);
        Check.due("fault()", x.fault(), 6);
        Check.due("where()", x.where(), HEAD.length());
        Check.due("the town stays", x.size(5), 1);
        Check.due("its hour stays", x.size(9), 3);
        Check.due("its acts stay", x.size(11), 1);
        Check.due("its images stay", x.size(12), 1);
        Check.refused(x, "town(1)", x.town(1), 2);
        Check.due("fault() of the one ahead", x.fault(), 6);
        Check.due("where() no more", x.where(), -1);
        Check.refused(x, "town(0)", x.town(0), 4);
        Check.due("fault()", x.fault(), 1);
        Check.due("where()", x.where(), 0);
        x.fault();
        x.size(3);
        x.feed(0, 0, 0, 0, 0);
        Check.due("where() behind calls that can't be refused", x.where(), 0);
        x.light(0);
        Check.due("where() behind another call", x.where(), -1);
        Check.due("fault() stays", x.fault(), 1);
        x.town(20);
        String two = HEAD + ";house z sill 30;person q child of z tall 30 upper aaa lower aa;"
                + "person r child of z tall 30 upper aaa lower aa";
        Check.answers(x, "another town", Check.tell(x, two), 2);
        Check.due("fault()", x.fault(), 0);
        Check.due("houses", x.size(3), 1);
        Check.due("hour", x.size(9), 12);
        Check.due("day", x.size(10), 0);
        Check.due("nothing to undo", x.size(11), 0);
        Check.due("no images", x.size(12), 0);
        // Bytes behind the first n are gone unread.
        HalfDoors y = new HalfDoors();
        Check.feed(y, BASE + ";%%%");
        Check.answers(y, "town(n) of more", y.town(BASE.length()), 1);
        Check.due("size(13)", y.size(13), 0);
    }

    private static void faulty(String text, int fault, int place) {
        HalfDoors x = new HalfDoors();
        Check.refused(x, text, Check.tell(x, text), 4);
        Check.due("fault of " + text, x.fault(), fault);
        Check.due("where of " + text, x.where(), place);
    }

    /** A fault where the second part of a text begins. */
    private static void faultyAt(String ahead, String at, int fault) {
        faulty(ahead + at, fault, ahead.length());
    }

    private static void fine(String text) {
        HalfDoors x = new HalfDoors();
        Check.answers(x, text, Check.tell(x, text) > 0, true);
    }

    private static void tokens() {
        fine("  " + BASE.replace(";", "  ;  ").replace(" ", "   ") + "   ");
        fine(BASE.replace("sill 20", "sill020").replace("tall 50", "tall50upper").replace("upper upper", "upper"));
        faultyAt("", "Town dawn 6", 1);
        faultyAt(HEAD, ",house a sill 20", 1);
        faultyAt(HEAD + ";", "\nhouse a", 1);
        faultyAt(HEAD + ";house a", "1 sill 20", 1);
        faultyAt(HEAD + ";house ", "\u00e9", 1);
        fine(BASE.replace("house b", "house abcdefgh"));
        faultyAt(HEAD + ";house ", "abcdefghi sill 20", 1);
        faultyAt(HEAD + ";house a sill ", "0020", 1);
        fine(BASE.replace("sill 20", "sill 020"));
        // The run of letters that the end cuts off is only as long as it stands there.
        HalfDoors x = new HalfDoors();
        Check.feed(x, HEAD + ";house abcdefghi");
        x.town(HEAD.length() + 15);
        Check.due("fault()", x.fault(), 1);
        Check.due("where()", x.where(), HEAD.length() + 15);
        // So is a run of digits.
        Check.feed(x, BASE + ";print a ab night 209");
        Check.answers(x, "night 20, cut off", x.town(BASE.length() + 20), 1);
        Check.feed(x, BASE + ";visit p a hour 3333");
        Check.answers(x, "hour 3, cut off", x.town(BASE.length() + 17), 1);
        Check.answers(x, "visit(0, 2)", x.visit(0, 2), 3);
    }

    private static void form() {
        faultyAt("", "", 1);
        faultyAt("   ", "", 1);
        faultyAt("", ";" + BASE, 1);
        faultyAt("", "6", 1);
        faultyAt("", "dawn 6", 1);
        String[] parts = BASE.split(" ");
        StringBuilder ahead = new StringBuilder();
        // Wherever the text of a line breaks off, the end is a fault of form there.
        for (int i = 0; i + 1 < 6; i++) {
            ahead.append(i > 0 ? " " : "").append(parts[i]);
            faultyAt(ahead.toString(), "", 1);
        }
        faultyAt("town ", "dusk 6", 1);
        faultyAt("town dawn ", "dusk", 1);
        faultyAt("town dawn 6 ", "18", 1);
        faultyAt("town dawn 6 dusk 18 ", ";", 1);
        faultyAt(HEAD + " ", "house a sill 20", 1);
        faultyAt(HEAD + ";", ";house a sill 20", 1);
        faultyAt(BASE + ";", "", 1);
        faultyAt(BASE + ";", "barn c sill 20", 1);
        faultyAt(BASE + ";house ", "20", 1);
        faultyAt(BASE + ";house c ", "door 20", 1);
        faultyAt(BASE + ";house c sill ", "x", 1);
        faultyAt(BASE + ";house c sill 20 ", "30", 1);
        faultyAt(BASE + ";lane a ", "; b", 1);
        faultyAt(BASE + ";lane a b ", "minute 3", 1);
        faultyAt(BASE + ";person q ", "odd", 1);
        faultyAt(BASE + ";person q adult ", "at a", 1);
        faultyAt(BASE + ";person q adult of a tall 50 upper ", "12", 1);
        faultyAt(BASE + ";person q adult of a tall 50 ", "lower ab", 1);
        faultyAt(BASE + ";good g size 3 at a ", "b", 1);
        faultyAt(BASE + ";visit p a ", "9", 1);
        faultyAt(BASE + ";print a ", "3", 1);
        faultyAt(BASE + ";print a ab ", "hour 3", 1);
        for (String word : new String[] {"town", "house", "lane", "person", "good", "visit", "print"}) {
            faultyAt(BASE + ";house ", word + " sill 20", 1);
            faultyAt(BASE + ";person ", word, 1);
            faultyAt(BASE + ";good ", word, 1);
            faultyAt(BASE + ";lane ", word, 1);
            faultyAt(BASE + ";lane a ", word, 1);
            faultyAt(BASE + ";visit ", word, 1);
            faultyAt(BASE + ";good g size 1 at a to ", word, 1);
        }
        fine(HEAD + ";house dawn sill 20;house sill sill 30;person tall adult of sill tall 50 upper abc lower ab;"
                + "person child child of dawn tall 50 upper abc lower ab;good to size 3 at dawn to sill;"
                + "lane sill dawn minutes 3;visit child dawn hour 3;print sill ab night 3");
    }

    private static void names() {
        faultyAt(BASE + ";lane ", "c b", 2);
        faultyAt(BASE + ";lane a ", "c", 2);
        faultyAt(BASE + ";lane a ", "p", 2);
        faultyAt(BASE + ";person q adult of ", "q", 2);
        faultyAt(BASE + ";person q adult of ", "p", 2);
        faultyAt(BASE + ";good g size 3 at ", "g", 2);
        faultyAt(BASE + ";good g size 3 at a to ", "p", 2);
        faultyAt(BASE + ";good g size 3 at a to b;visit ", "g a", 2);
        faultyAt(BASE + ";visit ", "a", 2);
        faultyAt(BASE + ";visit p ", "p", 2);
        faultyAt(BASE + ";print ", "c", 2);
        faultyAt(BASE + ";print ", "p", 2);
        faultyAt(HEAD + ";person p adult of ", "a tall 50", 2);
    }

    private static void again() {
        faultyAt(BASE + ";house ", "a", 3);
        faultyAt(BASE + ";house ", "p sill 9", 3);
        faultyAt(BASE + ";person ", "a", 3);
        faultyAt(BASE + ";person ", "p", 3);
        faultyAt(BASE + ";good ", "a", 3);
        faultyAt(BASE + ";good g size 3 at a to b;good ", "g", 3);
        faultyAt(BASE + ";good g size 3 at a to b;house ", "g", 3);
        faultyAt(BASE + ";lane a ", "a", 3);
        faultyAt(BASE + ";lane a b minutes 1;lane a ", "b minutes 2", 3);
        faultyAt(BASE + ";lane a b minutes 1;lane b ", "a minutes 2", 3);
        faultyAt(BASE + ";good g size 3 at b to ", "b", 3);
        faultyAt(BASE + ";", "town dawn 6 dusk 18 door 80", 3);
        faultyAt(HEAD + ";", "town", 3);
        fine(BASE + ";visit p a hour 3;visit p a hour 3;print a ab night 3;print a ab night 3;visit p b hour 3");
    }

    private static void bound(String ahead, String behind, int least, int most) {
        fine(ahead + least + behind);
        fine(ahead + most + behind);
        faultyAt(ahead, (least - 1) + behind, 4);
        faultyAt(ahead, (most + 1) + behind, 4);
        faultyAt(ahead, "999" + behind, 4);
    }

    private static void bounds() {
        String rest = BASE.substring(HEAD.length());
        bound("town dawn ", " dusk 18 door 80" + rest, 4, 11);
        bound("town dawn 6 dusk ", " door 80" + rest, 12, 22);
        bound("town dawn 6 dusk 18 door ", rest, 60, 120);
        bound(BASE + ";house c sill ", ";visit p c hour 1", 10, 59);
        bound(BASE + ";lane a b minutes ", ";visit p a hour 1", 1, 60);
        bound(BASE + ";person q child of a tall ", " upper abc lower ab", 20, 99);
        bound(BASE + ";good g size ", " at a to b", 1, 150);
        fine(BASE + ";visit p a hour 0");
        fine(BASE + ";visit p a hour 23");
        faultyAt(BASE + ";visit p a hour ", "24", 4);
        fine(BASE + ";print a ab night 0");
        fine(BASE + ";print a ab night 20");
        faultyAt(BASE + ";print a ab night ", "21", 4);
    }

    private static String lines(String line, int count) {
        StringBuilder s = new StringBuilder();
        for (int i = 0; i < count; i++) {
            s.append(";").append(line.replace("#", "n" + (char) ('a' + i)));
        }
        return s.toString();
    }

    private static void many() {
        String houses = HEAD + lines("house # sill 20", 6);
        String person = ";person p adult of na tall 50 upper abc lower ab";
        fine(houses + person);
        faultyAt(houses + person + ";", "house h sill 20", 5);
        faultyAt(houses + ";", "house", 5);
        String[] lanes = {"na nb", "na nc", "na nd", "na ne", "na nf", "nb nc", "nb nd", "nb ne", "nb nf"};
        String told = houses + person;
        for (String lane : lanes) {
            told += ";lane " + lane + " minutes 5";
        }
        fine(told);
        faultyAt(told + ";", "lane nc nd minutes 5", 5);
        String people = HEAD + ";house a sill 20" + lines("person # adult of a tall 50 upper abc lower ab", 6);
        fine(people);
        faultyAt(people + ";", "person x", 5);
        String goods = BASE + lines("good # size 3 at a to b", 5);
        fine(goods);
        faultyAt(goods + ";", "good x", 5);
        String visits = BASE + lines("visit p a hour 3", 8);
        fine(visits);
        faultyAt(visits + ";", "visit p a hour 3", 5);
        String prints = BASE + lines("print a ab night 3", 5);
        fine(prints);
        faultyAt(prints + ";", "print a ab night 3", 5);
    }

    private static void lacks() {
        for (String word : new String[] {"house", "lane", "person", "good", "visit", "print"}) {
            faultyAt("  ", word + " ?", 6);
        }
        faultyAt(HEAD, "", 6);
        faultyAt(HEAD + "  ", "", 6);
        faultyAt(HEAD + ";house a sill 20", "", 6);
        fine(HEAD + ";house a sill 20;person p mermaid of a tall 20 upper ddd lower dd");
    }

    private static void looks() {
        String upper = BASE + ";person q adult of a tall 50 upper ";
        for (String look : new String[] {"ab", "abcd", "abe", "eab", "town", "a", "abcdabcd"}) {
            faultyAt(upper, look + " lower ab", 7);
        }
        for (String look : new String[] {"a", "abc", "ae", "zz", "town", "lower"}) {
            faultyAt(upper + "abc lower ", look, 7);
            faultyAt(BASE + ";print a ", look, 7);
        }
        fine(upper + "dad lower da");
        fine(BASE + ";print b dd night 3");
    }

    private static void firstFromTheLeft() {
        faultyAt(BASE + ";house ", "a sill 5", 3);
        faultyAt(BASE + ";house c sill ", "5;house a", 4);
        faultyAt(BASE + ";person q adult of ", "zz tall 5 upper xyz", 2);
        faultyAt(BASE + ";person q adult of a tall ", "5 upper xyz", 4);
        faultyAt(BASE + ";person q adult of a tall 55 upper ", "xyz?", 7);
        faultyAt(BASE + ";good g size ", "151 at a to a", 4);
        faultyAt("", "lane a a minutes 99", 6);
        faultyAt("town dawn ", "3 ?", 4);
    }
}

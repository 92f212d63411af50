/** Promises 6 to 51 on small towns, the answers worked out by hand. */
public final class PromisesTest {
    private static final String TOWN = "town dawn 6 dusk 18 door 80;"
            + "house a sill 20;house b sill 40;house c sill 55;house d sill 59;"
            + "lane a b minutes 10;lane b c minutes 5;lane a c minutes 15;"
            + "person m adult of a tall 66 upper abc lower ab;"
            + "person n adult of b tall 60 upper abd lower ab;"
            + "person k child of a tall 45 upper abc lower cd;"
            + "person q mermaid of c tall 50 upper aaa lower ab;"
            + "person w mermaid of d tall 50 upper aaa lower dd;"
            + "person l child of b tall 99 upper bbb lower cd;"
            + "good f size 12 at a to c;good g size 30 at b to a;good h size 15 at c to b;"
            + "visit m b hour 9;visit n b hour 9;visit k c hour 20;visit m a hour 12;visit q a hour 17;visit w a hour 18;"
            + "print c ab night 1;print b ab night 1;print c cd night 2";
    private static final String HEAD = "town dawn 6 dusk 18 door 80;";

    private static HalfDoors x;

    public static void main(String[] args) {
        x = Check.town(TOWN);
        house();
        person();
        mark();
        good();
        light();
        seen();
        taken();
        pairs();
        knownAt();
        fine();
        visit();
        fines();
        bares();
        met();
        busiest();
        apart();
        tells();
        another();
        leastSill();
        way();
        wayAt();
        carried();
        carrier();
        alone();
        stuck();
        hands();
        round();
        pieces();
        prints();
        shops();
        rests();
        day();
        dayOf();
        x = Check.town(TOWN);
        go();
        hand();
        hours();
        undo();
        images();
        led();
        size();
        trouble();
        townsInTurn();
        Check.end("PromisesTest");
    }

    private static void is(String call, long got, long want) {
        Check.answers(x, call, got, want);
    }

    private static void not(String call, long got, int number) {
        Check.refused(x, call, got, number);
    }

    private static void house() {
        int[][] dues = {{20, 60, 5, 1}, {40, 40, 34, 2}, {55, 25, 8, 4}, {59, 21, 16, 0}};
        for (int h = 0; h < 4; h++) {
            for (int what = 0; what < 4; what++) {
                is("house(" + h + ", " + what + ")", x.house(h, what), dues[h][what]);
            }
        }
        not("house(4, 0)", x.house(4, 0), 1);
        not("house(-1, 0)", x.house(-1, 0), 1);
        not("house(0, 4)", x.house(0, 4), 1);
        not("house(0, -1)", x.house(0, -1), 1);
    }

    private static void person() {
        int[][] dues = {{0, 0, 66, 0, 0}, {0, 1, 60, 1, 0}, {1, 0, 45, 0, 15}, {2, 2, 50, 2, 0}, {2, 3, 50, 3, 0},
            {1, 1, 99, 1, 33}};
        for (int p = 0; p < 6; p++) {
            for (int what = 0; what < 5; what++) {
                is("person(" + p + ", " + what + ")", x.person(p, what), dues[p][what]);
            }
        }
        not("person(6, 0)", x.person(6, 0), 1);
        not("person(-1, 0)", x.person(-1, 0), 1);
        not("person(0, 5)", x.person(0, 5), 1);
        not("person(0, -1)", x.person(0, -1), 1);
        HalfDoors y = Check.town(HEAD + "house a sill 20;person k child of a tall 20 upper abc lower ab");
        Check.answers(y, "a third, downwards", y.person(0, 4), 6);
    }

    private static void mark() {
        int[] dues = {0, 1, 3, 0, 1};
        for (int i = 0; i < 5; i++) {
            is("mark(1, " + i + ")", x.mark(1, i), dues[i]);
        }
        is("mark(2, 3)", x.mark(2, 3), 2);
        is("mark(2, 4)", x.mark(2, 4), 3);
        not("mark(0, 5)", x.mark(0, 5), 1);
        not("mark(0, -1)", x.mark(0, -1), 1);
        not("mark(6, 0)", x.mark(6, 0), 1);
    }

    private static void good() {
        int[][] dues = {{12, 2, 0, 1}, {30, 0, 1, 1}, {15, 1, 2, 1}};
        for (int g = 0; g < 3; g++) {
            for (int what = 0; what < 4; what++) {
                is("good(" + g + ", " + what + ")", x.good(g, what), dues[g][what]);
            }
        }
        not("good(3, 0)", x.good(3, 0), 1);
        not("good(-1, 0)", x.good(-1, 0), 1);
        not("good(0, 4)", x.good(0, 4), 1);
        not("good(0, -1)", x.good(0, -1), 1);
    }

    private static void light() {
        is("light(0)", x.light(0), 0);
        is("light(5)", x.light(5), 0);
        is("light(6)", x.light(6), 1);
        is("light(17)", x.light(17), 1);
        is("light(18)", x.light(18), 0);
        is("light(23)", x.light(23), 0);
        not("light(-1)", x.light(-1), 2);
        not("light(24)", x.light(24), 2);
    }

    private static void seen() {
        is("all three", x.seen(0, 1, 6), 7);
        is("two", x.seen(0, 2, 17), 3);
        is("one", x.seen(0, 3, 9), 1);
        is("as high as the sill is not higher", x.seen(1, 1, 9), 3);
        is("none", x.seen(2, 2, 9), 0);
        is("by night", x.seen(2, 2, 18), 31);
        is("by night, a mermaid", x.seen(3, 2, 5), 7);
        not("seen(6, 0, 9)", x.seen(6, 0, 9), 1);
        not("seen(-1, 0, 9)", x.seen(-1, 0, 9), 1);
        not("seen(0, 4, 9)", x.seen(0, 4, 9), 1);
        not("seen(0, -1, 24)", x.seen(0, -1, 24), 1);
        not("seen(0, 0, 24)", x.seen(0, 0, 24), 2);
        not("seen(0, 0, -1)", x.seen(0, 0, -1), 2);
    }

    private static void taken() {
        is("taken(0, 0, 9)", x.taken(0, 0, 9), 4);
        is("taken(2, 0, 9)", x.taken(2, 0, 9), 1);
        is("taken(3, 0, 9)", x.taken(3, 0, 9), 16);
        is("mermaids by night", x.taken(3, 0, 20), 16);
        is("below it differs", x.taken(0, 0, 20), 0);
        is("none SEEN of each is alike", x.taken(4, 3, 9), 12);
        is("one SEEN of each", x.taken(0, 3, 9), 2);
        not("taken(6, 0, 9)", x.taken(6, 0, 9), 1);
        not("taken(0, 4, 9)", x.taken(0, 4, 9), 1);
        not("taken(0, 0, 24)", x.taken(0, 0, 24), 2);
        not("taken(0, 0, -1)", x.taken(0, 0, -1), 2);
    }

    private static void pairs() {
        is("pairs(0, 9)", x.pairs(0, 9), 2);
        is("pairs(3, 9)", x.pairs(3, 9), 4);
        is("pairs(0, 20)", x.pairs(0, 20), 1);
        not("pairs(4, 9)", x.pairs(4, 9), 1);
        not("pairs(-1, 24)", x.pairs(-1, 24), 1);
        not("pairs(0, 24)", x.pairs(0, 24), 2);
        not("pairs(0, -1)", x.pairs(0, -1), 2);
    }

    private static void knownAt() {
        is("knownAt(0)", x.knownAt(0), 6);
        is("knownAt(3)", x.knownAt(3), 0);
        is("knownAt(5)", x.knownAt(5), 15);
        not("knownAt(6)", x.knownAt(6), 1);
        not("knownAt(-1)", x.knownAt(-1), 1);
    }

    private static void fine() {
        is("fine(0, 0, 9)", x.fine(0, 0, 9), 13);
        is("fine(0, 0, 6)", x.fine(0, 0, 6), 13);
        is("fine(0, 0, 17)", x.fine(0, 0, 17), 13);
        is("fine(0, 0, 18)", x.fine(0, 0, 18), 0);
        is("below the sill", x.fine(0, 1, 9), 0);
        is("a mermaid", x.fine(3, 0, 9), 5);
        is("a child", x.fine(5, 0, 9), 0);
        HalfDoors y = Check.town(HEAD + "house a sill 24;house b sill 25;person k adult of a tall 51 upper abc lower ab");
        Check.answers(y, "half, downwards", y.fine(0, 0, 9), 1);
        Check.answers(y, "as high is not above", y.fine(0, 1, 9), 0);
        not("fine(6, 0, 9)", x.fine(6, 0, 9), 1);
        not("fine(0, 4, 24)", x.fine(0, 4, 24), 1);
        not("fine(0, 0, 24)", x.fine(0, 0, 24), 2);
        not("fine(0, 0, -1)", x.fine(0, 0, -1), 2);
    }

    private static void visit() {
        int[][] dues = {{0, 1, 9, 7, 0}, {1, 1, 9, 3, 0}, {2, 2, 20, 31, 0}, {0, 0, 12, 7, 13}, {3, 0, 17, 7, 5},
            {4, 0, 18, 7, 0}};
        for (int v = 0; v < 6; v++) {
            for (int what = 0; what < 5; what++) {
                is("visit(" + v + ", " + what + ")", x.visit(v, what), dues[v][what]);
            }
        }
        not("visit(6, 0)", x.visit(6, 0), 1);
        not("visit(-1, 0)", x.visit(-1, 0), 1);
        not("visit(0, 5)", x.visit(0, 5), 1);
        not("visit(0, -1)", x.visit(0, -1), 1);
    }

    private static void fines() {
        int[] dues = {13, 0, 0, 5, 0, 0};
        for (int p = 0; p < 6; p++) {
            is("fines(" + p + ")", x.fines(p), dues[p]);
        }
        HalfDoors y = Check.town(HEAD + "house a sill 20;person m adult of a tall 66 upper abc lower ab;"
                + "visit m a hour 7;visit m a hour 7;visit m a hour 5;visit m a hour 17");
        Check.answers(y, "all of them", y.fines(0), 39);
        not("fines(6)", x.fines(6), 1);
        not("fines(-1)", x.fines(-1), 1);
    }

    private static void bares() {
        int[] dues = {9, 0, 4, 16, 32, 0};
        for (int p = 0; p < 6; p++) {
            is("bares(" + p + ")", x.bares(p), dues[p]);
        }
        not("bares(6)", x.bares(6), 1);
        not("bares(-1)", x.bares(-1), 1);
    }

    private static void met() {
        int[] dues = {3, 3, 4, 1, 8, 16};
        for (int v = 0; v < 6; v++) {
            is("met(" + v + ")", x.met(v), dues[v]);
        }
        not("met(6)", x.met(6), 1);
        not("met(-1)", x.met(-1), 1);
    }

    private static void busiest() {
        is("busiest()", x.busiest(), 9);
        String one = HEAD + "house a sill 20;house b sill 20;person m adult of a tall 66 upper abc lower ab";
        HalfDoors y = Check.town(one);
        Check.answers(y, "no visits", y.busiest(), -2);
        y = Check.town(one + ";visit m a hour 23;visit m b hour 23;visit m a hour 3;visit m a hour 3;visit m b hour 0");
        Check.answers(y, "the first of like ones", y.busiest(), 3);
        y = Check.town(one + ";visit m a hour 0");
        Check.answers(y, "hour 0", y.busiest(), 0);
        y = Check.town(one + ";visit m a hour 23");
        Check.answers(y, "hour 23", y.busiest(), 23);
    }

    private static void apart() {
        is("apart(0, 2)", x.apart(0, 2), 14);
        is("apart(3, 4)", x.apart(3, 4), 0);
        is("apart(2, 3)", x.apart(2, 3), 1);
        is("apart(3, 2)", x.apart(3, 2), 1);
        is("apart(0, 5)", x.apart(0, 5), 15);
        not("apart(2, 2)", x.apart(2, 2), 1);
        not("apart(6, 0)", x.apart(6, 0), 1);
        not("apart(0, 6)", x.apart(0, 6), 1);
        not("apart(-1, 0)", x.apart(-1, 0), 1);
        not("apart(0, -1)", x.apart(0, -1), 1);
    }

    private static int tellsOf(String... looks) {
        StringBuilder s = new StringBuilder(HEAD + "house a sill 20");
        for (int p = 0; p < looks.length; p++) {
            s.append(";person p").append((char) ('a' + p)).append(" adult of a tall 66 upper ").append(looks[p])
                    .append(" lower ab");
        }
        return Check.town(s.toString()).tells();
    }

    private static void tells() {
        is("tells()", x.tells(), -2);
        Check.due("one alone", tellsOf("aaa"), 0);
        Check.due("the first", tellsOf("abc", "bcd"), 1);
        Check.due("the second", tellsOf("abc", "adc"), 2);
        Check.due("the third", tellsOf("abc", "abd"), 4);
        Check.due("one is fewer than two", tellsOf("aaa", "abb", "bbc"), 4);
        Check.due("the first two", tellsOf("aac", "abc", "bac"), 3);
        Check.due("first and third", tellsOf("abc", "abd", "bbc"), 5);
        Check.due("second and third", tellsOf("aaa", "aab", "aba"), 6);
        Check.due("all", tellsOf("aaa", "baa", "aba", "aab"), 7);
        Check.due("not even all", tellsOf("aaa", "baa", "aaa"), -2);
    }

    private static void another() {
        is("another(10)", x.another(10), 18);
        is("another(20)", x.another(20), 18);
        is("another(21)", x.another(21), 16);
        is("another(25)", x.another(25), 8);
        is("another(32)", x.another(32), 1);
        is("another(33)", x.another(33), 0);
        is("another(59)", x.another(59), 0);
        not("another(9)", x.another(9), 2);
        not("another(60)", x.another(60), 2);
        HalfDoors y = Check.town(HEAD + "house a sill 40;person m adult of a tall 99 upper abc lower ab;visit m a hour 9");
        Check.answers(y, "a sill that isn't lower stays", y.another(30), 9);
        Check.answers(y, "another(45)", y.another(45), 4);
    }

    private static void leastSill() {
        is("leastSill()", x.leastSill(), 33);
        HalfDoors y = Check.town(HEAD + "house a sill 20;person m adult of a tall 66 upper abc lower ab");
        Check.answers(y, "no visits", y.leastSill(), 10);
        y = Check.town(HEAD + "house a sill 10;person m adult of a tall 99 upper abc lower ab;visit m a hour 9");
        Check.answers(y, "the highest", y.leastSill(), 49);
    }

    private static void way() {
        is("way(0, 2)", x.way(0, 2), 15);
        is("way(2, 0)", x.way(2, 0), 15);
        is("way(2, 1)", x.way(2, 1), 5);
        is("way(3, 3)", x.way(3, 3), 0);
        is("way(0, 3)", x.way(0, 3), -2);
        is("way(3, 1)", x.way(3, 1), -2);
        not("way(4, 0)", x.way(4, 0), 1);
        not("way(0, 4)", x.way(0, 4), 1);
        not("way(-1, 0)", x.way(-1, 0), 1);
        not("way(0, -1)", x.way(0, -1), 1);
    }

    private static void wayAt() {
        int[] there = {0, 1, 2};
        for (int i = 0; i < 3; i++) {
            is("wayAt(0, 2, " + i + ")", x.wayAt(0, 2, i), there[i]);
        }
        not("wayAt(0, 2, 3)", x.wayAt(0, 2, 3), 1);
        is("wayAt(2, 0, 0)", x.wayAt(2, 0, 0), 2);
        is("wayAt(2, 0, 1)", x.wayAt(2, 0, 1), 0);
        not("wayAt(2, 0, 2)", x.wayAt(2, 0, 2), 1);
        is("wayAt(3, 3, 0)", x.wayAt(3, 3, 0), 3);
        not("wayAt(3, 3, 1)", x.wayAt(3, 3, 1), 1);
        not("wayAt(0, 3, 0)", x.wayAt(0, 3, 0), 1);
        not("wayAt(0, 2, -1)", x.wayAt(0, 2, -1), 1);
        not("wayAt(4, 2, 0)", x.wayAt(4, 2, 0), 1);
        not("wayAt(0, 4, 0)", x.wayAt(0, 4, 0), 1);
        not("wayAt(0, 2, most)", x.wayAt(0, 2, Integer.MAX_VALUE), 1);
        HalfDoors y = Check.town(HEAD + "house a sill 20;house b sill 20;house c sill 20;house d sill 20;house e sill 20;"
                + "house f sill 20;lane a f minutes 1;lane f e minutes 1;lane e d minutes 1;lane d c minutes 1;"
                + "lane c b minutes 1;lane a b minutes 60;person m adult of a tall 66 upper abc lower ab");
        int[] round = {0, 5, 4, 3, 2, 1};
        Check.answers(y, "the long way", y.way(0, 1), 5);
        for (int i = 0; i < 6; i++) {
            Check.answers(y, "the long way's " + i, y.wayAt(0, 1, i), round[i]);
        }
        Check.refused(y, "behind its end", y.wayAt(0, 1, 6), 1);
    }

    private static void carried() {
        is("carried()", x.carried(), 20);
        HalfDoors y = Check.town(TOWN);
        Check.answers(y, "a child goes", y.go(2, 1), 10);
        Check.answers(y, "he begins at his house all the same", y.carried(), 20);
        Check.answers(y, "hand(2, 1)", y.hand(2, 1), true);
        Check.answers(y, "one less must be", y.carried(), 15);
        Check.answers(y, "hand(1, 0)", y.hand(1, 0), true);
        Check.answers(y, "hand(0, 2)", y.hand(0, 2), true);
        Check.answers(y, "nothing must be", y.carried(), 0);
        y = Check.town(HEAD + "house a sill 20;person m adult of a tall 66 upper abc lower ab");
        Check.answers(y, "no goods, no children", y.carried(), 0);
    }

    private static final String STUCK = HEAD + "house a sill 20;house b sill 20;house c sill 20;lane a b minutes 7;"
            + "person m adult of a tall 99 upper abc lower ab;person k child of a tall 30 upper abc lower ab;"
            + "person l child of c tall 99 upper abc lower ab;"
            + "good s size 10 at a to b;good t size 11 at a to b;good u size 5 at c to b;good v size 61 at a to b";

    private static void carrier() {
        int[] dues = {2, 5, 2};
        for (int g = 0; g < 3; g++) {
            is("carrier(" + g + ")", x.carrier(g), dues[g]);
        }
        not("carrier(3)", x.carrier(3), 1);
        not("carrier(-1)", x.carrier(-1), 1);
        HalfDoors y = Check.town(TOWN);
        y.hand(2, 1);
        Check.answers(y, "it needn't be", y.carrier(2), -2);
        Check.answers(y, "carrier(0)", y.carrier(0), 2);
        y = Check.town(STUCK);
        Check.refused(y, "some can't be", y.carrier(0), 6);
        Check.refused(y, "carrier(4)", y.carrier(4), 1);
        Check.answers(y, "carried()", y.carried(), -2);
        y = Check.town(HEAD + "house a sill 20;house b sill 20;lane a b minutes 7;"
                + "person k child of b tall 60 upper abc lower ab;person l child of a tall 60 upper abc lower ab;"
                + "good s size 10 at a to b;good t size 10 at b to a");
        // The first: back and forth is 14, l alone needs as long, each for himself is quicker.
        Check.answers(y, "carried()", y.carried(), 7);
        Check.answers(y, "carrier(0)", y.carrier(0), 1);
        Check.answers(y, "carrier(1)", y.carrier(1), 0);
    }

    private static void alone() {
        is("alone(2)", x.alone(2), 20);
        is("alone(5)", x.alone(5), 30);
        not("alone(0)", x.alone(0), 1);
        not("alone(3)", x.alone(3), 1);
        not("alone(6)", x.alone(6), 1);
        not("alone(-1)", x.alone(-1), 1);
        HalfDoors y = Check.town(STUCK);
        Check.answers(y, "only what he can", y.alone(1), 7);
        Check.answers(y, "no way from his house", y.alone(2), 0);
        y = Check.town(TOWN);
        y.hand(0, 2);
        Check.answers(y, "h alone is left", y.alone(2), 20);
        y.hand(2, 1);
        Check.answers(y, "nothing", y.alone(2), 0);
    }

    private static void stuck() {
        is("stuck()", x.stuck(), 0);
        HalfDoors y = Check.town(STUCK);
        // t is too big for k, and l, who could, comes to no other house; u lies where l is, but b is nowhere for him.
        Check.answers(y, "stuck()", y.stuck(), 14);
        y.hours(6);
        Check.answers(y, "by night", y.hand(3, 1), true);
        Check.answers(y, "where it must go it isn't stuck", y.stuck(), 6);
    }

    private static void hands() {
        is("hands(0)", x.hands(0), 1);
        is("hands(1)", x.hands(1), 1);
        not("hands(3)", x.hands(3), 1);
        not("hands(-1)", x.hands(-1), 1);
        HalfDoors y = Check.town(HEAD + "house a sill 20;house b sill 59;house c sill 30;house d sill 40;house e sill 20;"
                + "lane a b minutes 1;lane b e minutes 1;lane a c minutes 60;lane c d minutes 60;lane d e minutes 60;"
                + "person m adult of a tall 66 upper abc lower ab;good f size 21 at a to e;good g size 22 at a to e;"
                + "good h size 41 at a to e;good i size 61 at a to e;good j size 22 at a to b");
        Check.answers(y, "by b, whose gap is 21", y.hands(0), 2);
        Check.answers(y, "round by c and d", y.hands(1), 3);
        Check.answers(y, "not by d", y.hands(2), -2);
        Check.answers(y, "not from a", y.hands(3), -2);
        Check.answers(y, "not into b", y.hands(4), -2);
        y.hours(12);
        Check.answers(y, "by night", y.hand(4, 1), true);
        Check.answers(y, "it is there", y.hands(4), 0);
        Check.answers(y, "all by day all the same", y.hands(2), -2);
        y.hand(0, 1);
        Check.answers(y, "from where it lies now", y.hands(0), 1);
    }

    private static void round() {
        is("round(0)", x.round(0), 30);
        is("round(1)", x.round(1), 30);
        is("round(3)", x.round(3), 0);
        not("round(4)", x.round(4), 1);
        not("round(-1)", x.round(-1), 1);
        HalfDoors y = Check.town(HEAD + "house a sill 20;house b sill 20;house c sill 20;house d sill 20;"
                + "lane a b minutes 3;lane a c minutes 5;lane a d minutes 7;lane b c minutes 60;"
                + "person m adult of a tall 66 upper abc lower ab");
        Check.answers(y, "a star", y.round(2), 30);
    }

    private static void pieces() {
        is("pieces()", x.pieces(), 3);
        HalfDoors y = Check.town("town dawn 6 dusk 18 door 60;house a sill 10;house b sill 35;house c sill 59;"
                + "lane a c minutes 3;person m adult of a tall 66 upper abc lower ab;good f size 50 at a to b;"
                + "good g size 51 at b to a;good h size 150 at a to c;good i size 25 at b to a;good j size 26 at a to b");
        int[] dues = {2, 3, 150, 1, 2};
        for (int g = 0; g < 5; g++) {
            Check.answers(y, "good(" + g + ", 3)", y.good(g, 3), dues[g]);
        }
        Check.answers(y, "all", y.pieces(), 158);
        y.hours(12);
        Check.answers(y, "hand(0, 2)", y.hand(0, 2), true);
        Check.answers(y, "wherever it lies", y.good(0, 3), 2);
        Check.answers(y, "all", y.pieces(), 158);
    }

    private static void prints() {
        is("fits()", x.fits(), 2);
        int[] could = {2, 1, 36};
        int[] surely = {1, 0, -2};
        for (int k = 0; k < 3; k++) {
            is("could(" + k + ")", x.could(k), could[k]);
            is("surely(" + k + ")", x.surely(k), surely[k]);
        }
        is("ask()", x.ask(), 2);
        not("could(3)", x.could(3), 1);
        not("could(-1)", x.could(-1), 1);
        not("surely(3)", x.surely(3), 1);
        not("surely(-1)", x.surely(-1), 1);
        String three = HEAD + "house a sill 20;house b sill 20;person m adult of a tall 66 upper abc lower ab;"
                + "person n child of a tall 66 upper abc lower ab;person o mermaid of a tall 66 upper abc lower ab;"
                + "person r adult of b tall 66 upper abc lower cd";
        HalfDoors y = Check.town(three);
        Check.refused(y, "no print", y.fits(), 6);
        Check.refused(y, "no print", y.ask(), 6);
        Check.refused(y, "could(0)", y.could(0), 1);
        Check.refused(y, "surely(0)", y.surely(0), 1);
        y = Check.town(three + ";print b ab night 3;print b ab night 4");
        Check.answers(y, "one may be two nights'", y.fits(), 4);
        Check.answers(y, "the first of like ones", y.ask(), 0);
        y = Check.town(three + ";print b ab night 3;print b ab night 3");
        Check.answers(y, "but not two in one night", y.fits(), 2);
        Check.answers(y, "could(1)", y.could(1), 3);
        y = Check.town(three + ";print b ab night 3;print a ab night 4");
        Check.answers(y, "all have it their own house", y.fits(), 0);
        Check.answers(y, "no rows, so nobody could", y.could(0), 0);
        Check.answers(y, "nor surely", y.surely(0), -2);
        Check.answers(y, "nor is there one to ask", y.ask(), -2);
        y = Check.town(three + ";print a cd night 3;print b ab night 3;print b ab night 20;print b ab night 20");
        Check.answers(y, "fits()", y.fits(), 4);
        Check.answers(y, "surely(0)", y.surely(0), 3);
        Check.answers(y, "the one that tells", y.ask(), 1);
        y = Check.town(three.replace("person m", "lane a b minutes 3;person m") + ";print b ab night 3");
        y.go(0, 1);
        Check.answers(y, "people at their houses as told", y.could(0), 3);
    }

    private static void shops() {
        HalfDoors y = Check.town(HEAD + "house a sill 20;person m adult of a tall 66 upper abc lower ab;"
                + "person n adult of a tall 60 upper abd lower ab;person k child of a tall 45 upper abc lower cd;"
                + "person q mermaid of a tall 50 upper aaa lower ab");
        int[][] dues = {{0, 0, 6, 6}, {1, 0, 8, 6}, {1, 2, 11, 7}, {2, 1, 7, 11}, {5, 0, 10, 12}, {5, 5, 16, 16}};
        for (int[] due : dues) {
            Check.answers(y, "shop(" + due[0] + ", " + due[1] + ", false)", y.shop(due[0], due[1], false), due[2]);
            Check.answers(y, "shop(" + due[0] + ", " + due[1] + ", true)", y.shop(due[0], due[1], true), due[3]);
        }
        for (int[] bad : new int[][] {{6, 0}, {0, 6}, {-1, 0}, {0, -1}}) {
            Check.due("a shop refused", y.shop(bad[0], bad[1], true), -100);
            Check.due("its trouble", y.trouble(), 2);
        }
        Check.answers(y, "rests()", y.rests(), 0);
        Check.answers(y, "rest()", y.rest(), -2);
        y = Check.town(HEAD + "house a sill 20;person m adult of a tall 50 upper abc lower ab");
        Check.answers(y, "half of one, downwards", y.shop(0, 0, false), 0);
        Check.answers(y, "shop(3, 2, false)", y.shop(3, 2, false), 6);
        Check.answers(y, "shop(3, 2, true)", y.shop(3, 2, true), 7);
        Check.answers(y, "shop(2, 3, false)", y.shop(2, 3, false), 7);
        Check.answers(y, "shop(2, 3, true)", y.shop(2, 3, true), 6);
    }

    private static void rests() {
        HalfDoors y = Check.town(HEAD + "house a sill 20;person m adult of a tall 50 upper abc lower ab");
        Check.answers(y, "rests()", y.rests(), 1);
        Check.answers(y, "rest()", y.rest(), 55);
        // Of both, all three marks are seen over every sill but the highest: 5 against 4 has nobody, 10 in all.
        y = Check.town(HEAD + "house a sill 20;person m adult of a tall 80 upper abc lower ab;"
                + "person n adult of a tall 80 upper abc lower ab");
        Check.answers(y, "shop(5, 4, false)", y.shop(5, 4, false), 10);
        Check.answers(y, "shop(4, 4, false)", y.shop(4, 4, false), 11);
        Check.answers(y, "shop(5, 5, false)", y.shop(5, 5, false), 13);
        Check.answers(y, "shop(4, 5, false)", y.shop(4, 5, false), 14);
        Check.answers(y, "rests()", y.rests(), 1);
        Check.answers(y, "rest()", y.rest(), 44);
    }

    private static void day() {
        HalfDoors y = Check.town(HEAD + "house a sill 20;person m adult of a tall 66 upper abc lower ab");
        Check.answers(y, "twelve hours of 13", y.day(5), 156);
        // One hour a day: an even first draw is m, an even second one a; elsewhere and of k there is no fine.
        y = Check.town("town dawn 11 dusk 12 door 80;house a sill 20;house b sill 59;"
                + "person m adult of a tall 66 upper abc lower ab;person k child of a tall 66 upper abc lower ab");
        Check.answers(y, "74 is m, 5624 is a", y.day(0), 13);
        // 75 times 1 and 74 is 149, odd: k.
        Check.answers(y, "149 is k", y.day(1), 0);
        // 75 times 2 and 74 is 224: m; 75 times 224 and 74 is 16874: a.
        Check.answers(y, "224 is m", y.day(2), 13);
        // 75 times 65536 and 74 is 4915274 = 74 * 65537 + 65536; again 65536.
        Check.answers(y, "65536 stays", y.day(65536), 13);
        Check.refused(y, "day(-1)", y.day(-1), 2);
        Check.refused(y, "day(65537)", y.day(65537), 2);
    }

    private static void dayOf() {
        HalfDoors y = Check.town(HEAD + "house a sill 20;person m adult of a tall 66 upper abc lower ab");
        Check.answers(y, "three days", y.dayOf(0, 5, 3), 468);
        Check.answers(y, "twenty days", y.dayOf(0, 0, 20), 3120);
        Check.refused(y, "dayOf(0, 0, 0)", y.dayOf(0, 0, 0), 2);
        Check.refused(y, "dayOf(0, 0, 21)", y.dayOf(0, 0, 21), 2);
        Check.refused(y, "dayOf(0, -1, 1)", y.dayOf(0, -1, 1), 2);
        Check.refused(y, "dayOf(0, 65537, 1)", y.dayOf(0, 65537, 1), 2);
        Check.refused(y, "dayOf(1, 65537, 1)", y.dayOf(1, 65537, 1), 1);
        Check.refused(y, "dayOf(-1, 0, 1)", y.dayOf(-1, 0, 1), 1);
        y = Check.town("town dawn 11 dusk 12 door 80;house a sill 20;house b sill 59;"
                + "person m adult of a tall 66 upper abc lower ab;person k adult of a tall 62 upper abc lower ab");
        // Day 0: 74, 5624: m at a. Day 1, the seed going on: 28652, 51790: m at a. Day 2: 17641 ...
        Check.answers(y, "one day", y.dayOf(0, 0, 1), 13);
        Check.answers(y, "two days", y.dayOf(0, 0, 2), 26);
        Check.answers(y, "the other one", y.dayOf(1, 0, 2), 0);
        Check.answers(y, "the day that goes on", y.dayOf(0, 5624, 1), 13);
    }

    private static void go() {
        is("go(0, 2)", x.go(0, 2), 15);
        is("where now", x.person(0, 3), 2);
        is("his house", x.person(0, 1), 0);
        is("who is left", x.house(0, 2), 4);
        is("who is there", x.house(2, 2), 9);
        is("go on from there", x.go(0, 1), 5);
        not("he is there", x.go(0, 1), 5);
        not("no way", x.go(0, 3), 5);
        not("go(6, 0)", x.go(6, 0), 1);
        not("go(-1, 0)", x.go(-1, 0), 1);
        not("go(0, 4)", x.go(0, 4), 1);
        not("go(0, -1)", x.go(0, -1), 1);
        Check.due("two acts", x.size(11), 2);
        Check.due("no hour went by", x.size(9), 12);
    }

    private static void hand() {
        x = Check.town(TOWN + ";good r size 26 at b to d");
        Check.answers(x, "hand(0, 1)", x.hand(0, 1), true);
        is("where it lies", x.good(0, 2), 1);
        is("goods there", x.house(1, 3), 11);
        is("none where it lay", x.house(0, 3), 0);
        Check.refused(x, "no lane", x.hand(0, 3), 5);
        Check.refused(x, "not to where it lies", x.hand(0, 1), 5);
        Check.refused(x, "too big for c", x.hand(3, 2), 5);
        Check.refused(x, "hand(4, 0)", x.hand(4, 0), 1);
        Check.refused(x, "hand(-1, 0)", x.hand(-1, 0), 1);
        Check.refused(x, "hand(0, 4)", x.hand(0, 4), 1);
        Check.refused(x, "hand(0, -1)", x.hand(0, -1), 1);
        Check.due("one act", x.size(11), 1);
        is("hours(5)", x.hours(5), 17);
        Check.refused(x, "still by day", x.hand(3, 2), 5);
        is("hours(1)", x.hours(1), 18);
        Check.answers(x, "by night", x.hand(3, 2), true);
        is("hours(12)", x.hours(12), 6);
        Check.refused(x, "by day it doesn't pass where it lies", x.hand(3, 0), 5);
        Check.answers(x, "h passes, of 15", x.hand(2, 0), true);
    }

    private static void hours() {
        x = Check.town(TOWN);
        is("hours(11)", x.hours(11), 23);
        Check.due("day", x.size(10), 0);
        is("hours(1)", x.hours(1), 0);
        Check.due("day", x.size(10), 1);
        is("hours(24)", x.hours(24), 0);
        Check.due("day", x.size(10), 2);
        not("hours(0)", x.hours(0), 2);
        not("hours(25)", x.hours(25), 2);
        not("hours(-1)", x.hours(-1), 2);
        Check.due("acts", x.size(11), 3);
    }

    private static void undo() {
        x = Check.town(TOWN);
        Check.refused(x, "nothing to undo", x.undo(), 6);
        x.go(0, 1);
        x.hand(0, 1);
        x.hours(20);
        x.go(0, 3);
        Check.due("three acts", x.size(11), 3);
        Check.answers(x, "undo()", x.undo(), true);
        Check.due("hour", x.size(9), 12);
        Check.due("day", x.size(10), 0);
        is("the good is still there", x.good(0, 2), 1);
        Check.answers(x, "undo()", x.undo(), true);
        is("the good is back", x.good(0, 2), 0);
        is("he is still there", x.person(0, 3), 1);
        Check.answers(x, "undo()", x.undo(), true);
        is("he is back", x.person(0, 3), 0);
        Check.refused(x, "no more", x.undo(), 6);
        for (int i = 1; i <= 19; i++) {
            x.hours(1);
            Check.due("acts", x.size(11), Math.min(i, 16));
        }
        for (int i = 1; i <= 16; i++) {
            Check.answers(x, "undo()", x.undo(), true);
            Check.due("acts", x.size(11), 16 - i);
            Check.due("hour", x.size(9), (31 - i) % 24);
        }
        Check.refused(x, "16 are kept", x.undo(), 6);
        Check.due("hour", x.size(9), 15);
    }

    private static void images() {
        x = Check.town(TOWN);
        Check.refused(x, "no image", x.back(0), 1);
        x.go(0, 1);
        is("image()", x.image(), 0);
        Check.due("no act", x.size(11), 1);
        x.hand(0, 1);
        x.hours(15);
        is("image()", x.image(), 1);
        is("image()", x.image(), 2);
        not("no room", x.image(), 3);
        Check.due("images", x.size(12), 3);
        Check.answers(x, "back(0)", x.back(0), true);
        Check.due("nothing can be undone", x.size(11), 0);
        Check.refused(x, "undo()", x.undo(), 6);
        Check.due("all stay", x.size(12), 3);
        is("he is there", x.person(0, 3), 1);
        is("the good isn't", x.good(0, 2), 0);
        Check.due("hour", x.size(9), 12);
        Check.due("day", x.size(10), 0);
        x.go(0, 2);
        Check.answers(x, "back(1)", x.back(1), true);
        is("the good is", x.good(0, 2), 1);
        is("he is not where he went", x.person(0, 3), 1);
        Check.due("hour", x.size(9), 3);
        Check.due("day", x.size(10), 1);
        Check.refused(x, "back(3)", x.back(3), 1);
        Check.refused(x, "back(-1)", x.back(-1), 1);
        x.hours(1);
        Check.answers(x, "undo()", x.undo(), true);
        Check.due("hour", x.size(9), 3);
        Check.due("images behind undo", x.size(12), 3);
    }

    private static void led() {
        x = Check.town(TOWN);
        Check.throwsNoSuch(x, 0);
        x.hand(2, 1);
        x.hand(0, 2);
        x.undo();
        x.undo();
        x.undo();
        Check.due("trouble()", x.trouble(), 6);
        x.hand(2, 1);
        x.hand(0, 2);
        Check.due("led(0)", x.led(0), 0);
        Check.due("led(1)", x.led(1), 2);
        Check.throwsNoSuch(x, 2);
        Check.throwsNoSuch(x, -1);
        Check.throwsNoSuch(x, Integer.MIN_VALUE);
        Check.throwsNoSuch(x, Integer.MAX_VALUE);
        Check.due("trouble() isn't led's", x.trouble(), 0);
    }

    private static void size() {
        x = Check.town(TOWN);
        x.hours(13);
        x.image();
        x.feed(0, 0, 0, 0, 0);
        int[] dues = {6, 18, 80, 4, 3, 6, 3, 6, 3, 1, 1, 1, 1, 20};
        for (int what = 0; what <= 13; what++) {
            Check.due("size(" + what + ")", x.size(what), dues[what]);
        }
        for (int what : new int[] {-1, 14, 99, Integer.MIN_VALUE, Integer.MAX_VALUE}) {
            Check.due("size(" + what + ")", x.size(what), -1);
        }
    }

    private static void trouble() {
        x = Check.town(TOWN);
        x.house(9, 9);
        x.fault();
        x.where();
        x.size(99);
        x.feed(0, 0, 0, 0, 0);
        Check.throwsNoSuch(x, 7);
        Check.due("none of these may be refused", x.trouble(), 1);
        Check.due("nor trouble", x.trouble(), 1);
        x.light(99);
        Check.due("the latest", x.trouble(), 2);
        x.way(0, 3);
        Check.due("-2 is no refusal", x.trouble(), 0);
    }

    /** What another town told is gone, wherever the object had put it. */
    private static void townsInTurn() {
        String small = HEAD + "house a sill 20;house b sill 20;person m adult of a tall 66 upper abc lower ab";
        x = Check.town(TOWN);
        for (int i = 0; i < 3; i++) {
            is("small", Check.tell(x, small), 1);
            int[] dues = {6, 18, 80, 2, 0, 1, 0, 0, 0, 12, 0, 0, 0, 0};
            for (int what = 0; what <= 13; what++) {
                Check.due("size(" + what + ")", x.size(what), dues[what]);
            }
            is("no lane", x.way(0, 1), -2);
            is("big", Check.tell(x, TOWN), 6);
            Check.due("lanes", x.size(4), 3);
            Check.due("goods", x.size(6), 3);
            Check.due("visits", x.size(7), 6);
            Check.due("prints", x.size(8), 3);
            not("a fault", Check.tell(x, TOWN + ";"), 4);
        }
        // These come first on a new object: none leans on a call ahead of it.
        x = Check.town(TOWN);
        is("surely(1)", x.surely(1), 0);
        x = Check.town(TOWN);
        is("could(2)", x.could(2), 36);
        x = Check.town(TOWN);
        is("ask()", x.ask(), 2);
        x = Check.town(TOWN);
        is("carrier(1)", x.carrier(1), 5);
        x = Check.town(TOWN);
        is("alone(5)", x.alone(5), 30);
        x = Check.town(TOWN);
        is("stuck()", x.stuck(), 0);
        x = Check.town(HEAD + "house a sill 20;person m adult of a tall 50 upper abc lower ab");
        is("rest()", x.rest(), 55);
    }
}

/** The edges that promises 25 to 33 name, a test for each. */
public final class Edges25To33Test {
    private static final int LEAST = Integer.MIN_VALUE;
    private static final int MOST = Integer.MAX_VALUE;
    private static final int[] NOT_OF_TWO = {-1, 2, 5, 6, LEAST, MOST};
    private static final String SIX = Told.HEAD + Told.lines("house # sill 20", 6);
    private static final String LINE_OF_SIX = SIX + ";lane a b minutes 60;lane b c minutes 60;lane c d minutes 60"
            + ";lane d e minutes 60;lane e f minutes 60";
    private static final String MERMAID = ";person q mermaid of a tall 99 upper abc lower ab";

    public static void main(String[] args) throws Exception {
        Each.run(Edges25To33Test.class);
    }

    // ---- 25: way

    static void promise25_fromAHouseToItself() {
        HalfDoors x = Check.town(Told.LANE + Told.adult("p", 50));
        Check.answers(x, "way(0, 0)", x.way(0, 0), 0);
        Check.answers(x, "way(1, 1)", x.way(1, 1), 0);
    }

    static void promise25_thereIsNone() {
        HalfDoors x = Check.town(Told.TWO + Told.adult("p", 50));
        Check.answers(x, "way(0, 1)", x.way(0, 1), -2);
        Check.answers(x, "way(1, 0)", x.way(1, 0), -2);
        x = Check.town(SIX + ";lane a b minutes 1;lane b c minutes 1;lane d e minutes 1;lane e f minutes 1"
                + Told.adult("p", 50));
        Check.answers(x, "way(0, 2)", x.way(0, 2), 2);
        Check.answers(x, "way(2, 3)", x.way(2, 3), -2);
        Check.answers(x, "way(5, 0)", x.way(5, 0), -2);
    }

    static void promise25_theLongest() {
        HalfDoors x = Check.town(LINE_OF_SIX + Told.adult("p", 50));
        Check.answers(x, "way(0, 5)", x.way(0, 5), 300);
        Check.answers(x, "way(5, 0)", x.way(5, 0), 300);
    }

    static void promise25_fewestMinutesNotFewestLanes() {
        HalfDoors x = Check.town(LINE_OF_SIX.replace("60", "11") + ";lane a f minutes 56" + Told.adult("p", 50));
        Check.answers(x, "five of 11", x.way(0, 5), 55);
        x = Check.town(LINE_OF_SIX.replace("60", "11") + ";lane a f minutes 54" + Told.adult("p", 50));
        Check.answers(x, "one of 54", x.way(0, 5), 54);
    }

    static void promise25_overTheFirstAndTheLastHouse() {
        HalfDoors x = Check.town(SIX + ";lane b a minutes 2;lane a c minutes 3;lane d f minutes 4;lane f e minutes 5"
                + Told.adult("p", 50));
        Check.answers(x, "over a", x.way(1, 2), 5);
        Check.answers(x, "over a", x.wayAt(1, 2, 1), 0);
        Check.answers(x, "over f", x.way(3, 4), 9);
        Check.answers(x, "over f", x.wayAt(3, 4, 1), 5);
    }

    static void promise25_noSuchHouse() {
        HalfDoors x = Check.town(Told.LANE + Told.adult("p", 50));
        for (int none : NOT_OF_TWO) {
            Check.refused(x, "h " + none, x.way(none, 0), 1);
            Check.refused(x, "g " + none, x.way(0, none), 1);
        }
    }

    // ---- 26: wayAt

    static void promise26_theFirstAndTheLastHouse() {
        HalfDoors x = Check.town(LINE_OF_SIX + Told.adult("p", 50));
        for (int i = 0; i < 6; i++) {
            Check.answers(x, "there " + i, x.wayAt(0, 5, i), i);
            Check.answers(x, "back " + i, x.wayAt(5, 0, i), 5 - i);
        }
    }

    static void promise26_behindItsEndAndAheadOfItsFront() {
        HalfDoors x = Check.town(LINE_OF_SIX + Told.adult("p", 50));
        for (int i : new int[] {-1, 6, 7, LEAST, MOST}) {
            Check.refused(x, "wayAt(0, 5, " + i + ")", x.wayAt(0, 5, i), 1);
        }
        Check.refused(x, "a short one's end", x.wayAt(0, 1, 2), 1);
    }

    static void promise26_aWayToItselfIsOneHouse() {
        HalfDoors x = Check.town(Told.LANE + Told.adult("p", 50));
        Check.answers(x, "wayAt(1, 1, 0)", x.wayAt(1, 1, 0), 1);
        Check.refused(x, "wayAt(1, 1, 1)", x.wayAt(1, 1, 1), 1);
    }

    static void promise26_noWay() {
        HalfDoors x = Check.town(Told.TWO + Told.adult("p", 50));
        Check.refused(x, "wayAt(0, 1, 0)", x.wayAt(0, 1, 0), 1);
    }

    static void promise26_ofLikeOnesTheFirstByNumbers() {
        // a to f: by b and e, by c, by d, or at once: all of them 4 minutes.
        HalfDoors x = Check.town(SIX + ";lane a f minutes 4;lane a d minutes 2;lane d f minutes 2;lane a c minutes 3"
                + ";lane c f minutes 1;lane a b minutes 1;lane b e minutes 2;lane e f minutes 1" + Told.adult("p", 50));
        int[] there = {0, 1, 4, 5};
        for (int i = 0; i < 4; i++) {
            Check.answers(x, "there " + i, x.wayAt(0, 5, i), there[i]);
        }
        Check.refused(x, "its end", x.wayAt(0, 5, 4), 1);
        // Back it is a itself that has the least number.
        Check.answers(x, "back 1", x.wayAt(5, 0, 1), 0);
        Check.refused(x, "back 2", x.wayAt(5, 0, 2), 1);
    }

    static void promise26_noSuchHouse() {
        HalfDoors x = Check.town(Told.LANE + Told.adult("p", 50));
        for (int none : NOT_OF_TWO) {
            Check.refused(x, "h " + none, x.wayAt(none, 0, 0), 1);
            Check.refused(x, "g " + none, x.wayAt(0, none, 0), 1);
        }
    }

    // ---- 27: carried

    static void promise27_nothingMustBe() {
        HalfDoors x = Check.town(Told.LANE + Told.adult("p", 50));
        Check.answers(x, "no goods, no child", x.carried(), 0);
        x = Check.town(Told.LANE + Told.adult("p", 50) + Told.good("g", 5, "a", "b"));
        Check.answers(x, "one good, no child", x.carried(), -2);
        x.hand(0, 1);
        Check.answers(x, "it is there", x.carried(), 0);
    }

    static void promise27_aThirdOfHisHeightAtMost() {
        HalfDoors x = Check.town(Told.LANE + Told.child("k", "a", 32) + Told.good("g", 10, "a", "b"));
        Check.answers(x, "10 of 32", x.carried(), 7);
        x = Check.town(Told.LANE + Told.child("k", "a", 32) + Told.good("g", 11, "a", "b"));
        Check.answers(x, "11 of 32", x.carried(), -2);
        x = Check.town(Told.LANE + Told.child("k", "a", 33) + Told.good("g", 11, "a", "b"));
        Check.answers(x, "11 of 33", x.carried(), 7);
    }

    static void promise27_adultsAndMermaidsCarryNothing() {
        HalfDoors x = Check.town(Told.LANE + Told.adult("p", 99) + MERMAID + Told.good("g", 1, "a", "b"));
        Check.answers(x, "carried()", x.carried(), -2);
    }

    static void promise27_noWayToItOrOn() {
        String houses = Told.HEAD + ";house a sill 20;house b sill 20;house c sill 20;lane a b minutes 7";
        HalfDoors x = Check.town(houses + Told.child("k", "c", 99) + Told.good("g", 1, "a", "b"));
        Check.answers(x, "not to it", x.carried(), -2);
        x = Check.town(houses + Told.child("k", "a", 99) + Told.good("g", 1, "a", "c"));
        Check.answers(x, "not on", x.carried(), -2);
        x = Check.town(houses + Told.child("k", "c", 99) + Told.child("l", "b", 99) + Told.good("g", 1, "a", "b"));
        Check.answers(x, "but for another one", x.carried(), 14);
    }

    static void promise27_oneAtATime() {
        HalfDoors x = Check.town(Told.LANE + Told.child("k", "a", 99) + Told.lines("good g# size 1 at a to b", 5));
        Check.answers(x, "there five times, back four times", x.carried(), 63);
    }

    static void promise27_inWhateverOrder() {
        // With h to a, with g back again: 14; g first would be 21.
        HalfDoors x = Check.town(Told.LANE + Told.child("k", "b", 99) + Told.good("g", 1, "a", "b")
                + Told.good("h", 1, "b", "a"));
        Check.answers(x, "carried()", x.carried(), 14);
    }

    static void promise27_passingASillIsNoMatter() {
        HalfDoors x = Check.town("town dawn 6 dusk 18 door 60;house a sill 59;house b sill 59;lane a b minutes 7"
                + Told.child("k", "a", 99) + Told.good("g", 33, "a", "b"));
        Check.answers(x, "a gap of 1", x.carried(), 7);
    }

    static void promise27_peopleAtTheirHousesAsTold() {
        HalfDoors x = Check.town(Told.LANE + Told.child("k", "b", 99) + Told.good("g", 1, "a", "b"));
        x.go(0, 0);
        Check.answers(x, "from b all the same", x.carried(), 14);
    }

    static void promise27_theMost() {
        HalfDoors x = Check.town(LINE_OF_SIX + Told.child("k", "f", 99) + Told.lines("good g# size 33 at a to f", 5));
        Check.answers(x, "five times there and back", x.carried(), 3000);
    }

    static void promise27_sixChildrenForFiveGoods() {
        HalfDoors x = Check.town(Told.LANE + Told.lines("person p# child of a tall 99 upper abc lower ab", 6)
                + Told.lines("good g# size 33 at a to b", 5));
        Check.answers(x, "carried()", x.carried(), 7);
        Check.answers(x, "the last good", x.carrier(4), 4);
        Check.answers(x, "the last child alone", x.alone(5), 63);
        Check.answers(x, "stuck()", x.stuck(), 0);
    }

    static void promise27_noTown() {
        HalfDoors x = new HalfDoors();
        Check.refused(x, "carried()", x.carried(), 1);
    }

    // ---- 28: carrier

    static void promise28_itNeednt() {
        HalfDoors x = Check.town(Told.LANE + Told.child("k", "a", 99) + Told.good("g", 1, "a", "b")
                + Told.good("h", 1, "a", "b"));
        x.hand(0, 1);
        Check.answers(x, "it is there", x.carrier(0), -2);
        Check.answers(x, "the other one", x.carrier(1), 0);
        x.hand(1, 1);
        Check.answers(x, "all are", x.carrier(1), -2);
    }

    static void promise28_someCantBe() {
        HalfDoors x = Check.town(Told.LANE + Told.child("k", "a", 99) + Told.good("g", 1, "a", "b")
                + Told.good("h", 34, "a", "b"));
        Check.refused(x, "one that could", x.carrier(0), 6);
        Check.refused(x, "one that can't", x.carrier(1), 6);
        Check.answers(x, "handed on", x.hand(1, 1), true);
        Check.answers(x, "one that could", x.carrier(0), 0);
        Check.answers(x, "one that needn't", x.carrier(1), -2);
    }

    static void promise28_ofLikeOnesTheFirstByGoodsChildren() {
        String children = Told.child("k", "a", 99) + Told.child("l", "a", 99) + Told.child("m", "a", 99);
        HalfDoors x = Check.town(Told.LANE + Told.adult("p", 50) + children + Told.lines("good g# size 1 at a to b", 3));
        // Each one of them: 7.
        for (int g = 0; g < 3; g++) {
            Check.answers(x, "three for three " + g, x.carrier(g), g + 1);
        }
        x = Check.town(Told.LANE + Told.adult("p", 50) + children + Told.lines("good g# size 1 at a to b", 5));
        // Somebody carries two: 21. So the first takes two, the next one two.
        int[] dues = {1, 1, 2, 2, 3};
        for (int g = 0; g < 5; g++) {
            Check.answers(x, "three for five " + g, x.carrier(g), dues[g]);
        }
    }

    static void promise28_noLaterThanTheLatestIsAsGood() {
        // h needs 60 whoever carries it; so the first child may take the other two as well.
        HalfDoors x = Check.town(Told.HEAD + ";house a sill 20;house b sill 20;house c sill 20;lane a b minutes 7"
                + ";lane a c minutes 60" + Told.child("k", "a", 99) + Told.child("l", "a", 99)
                + Told.good("g", 1, "a", "b") + Told.good("h", 1, "a", "c") + Told.good("i", 1, "a", "b"));
        Check.answers(x, "carried()", x.carried(), 60);
        Check.answers(x, "carrier(0)", x.carrier(0), 0);
        Check.answers(x, "carrier(1)", x.carrier(1), 1);
        Check.answers(x, "carrier(2)", x.carrier(2), 0);
    }

    static void promise28_noSuchGood() {
        HalfDoors x = Check.town(Told.LANE + Told.child("k", "a", 99) + Told.good("g", 1, "a", "b")
                + Told.good("h", 34, "a", "b"));
        for (int none : NOT_OF_TWO) {
            Check.refused(x, "g " + none, x.carrier(none), 1);
        }
    }

    // ---- 29: alone

    static void promise29_noChild() {
        HalfDoors x = Check.town(Told.LANE + Told.adult("p", 99) + MERMAID + Told.good("g", 1, "a", "b"));
        Check.refused(x, "an adult", x.alone(0), 1);
        Check.refused(x, "a mermaid", x.alone(1), 1);
    }

    static void promise29_nobodySuch() {
        HalfDoors x = Check.town(Told.LANE + Told.child("k", "a", 99) + Told.child("l", "a", 99));
        for (int none : NOT_OF_TWO) {
            Check.refused(x, "p " + none, x.alone(none), 1);
        }
    }

    static void promise29_nothing() {
        HalfDoors x = Check.town(Told.LANE + Told.child("k", "a", 99));
        Check.answers(x, "no goods", x.alone(0), 0);
        x = Check.town(Told.LANE + Told.child("k", "a", 99) + Told.good("g", 34, "a", "b"));
        Check.answers(x, "too big", x.alone(0), 0);
        x = Check.town(Told.LANE + Told.child("k", "b", 99) + Told.good("g", 33, "a", "b"));
        Check.answers(x, "not too big", x.alone(0), 14);
        x.hand(0, 1);
        Check.answers(x, "it is there", x.alone(0), 0);
    }

    static void promise29_allThatHeCanCarry() {
        HalfDoors x = Check.town(Told.LANE + Told.child("k", "a", 30) + Told.child("l", "a", 33)
                + Told.good("g", 10, "a", "b") + Told.good("h", 11, "a", "b") + Told.good("i", 12, "a", "b"));
        Check.answers(x, "10", x.alone(0), 7);
        Check.answers(x, "10 and 11", x.alone(1), 21);
        Check.answers(x, "all can't be", x.carried(), -2);
    }

    static void promise29_whatIsNoWayForHimIsLeftOut() {
        HalfDoors x = Check.town(Told.HEAD + ";house a sill 20;house b sill 20;house c sill 20;lane a b minutes 7"
                + Told.child("k", "a", 99) + Told.good("g", 1, "a", "b") + Told.good("h", 1, "a", "c")
                + Told.good("i", 1, "c", "a"));
        Check.answers(x, "alone(0)", x.alone(0), 7);
    }

    // ---- 30: stuck

    static void promise30_noneAndAll() {
        HalfDoors x = Check.town(Told.LANE + Told.adult("p", 99));
        Check.answers(x, "no goods", x.stuck(), 0);
        x = Check.town(Told.LANE + Told.adult("p", 99) + Told.lines("good g# size 1 at a to b", 5));
        Check.answers(x, "no child", x.stuck(), 31);
        x = Check.town(Told.LANE + Told.child("k", "b", 99) + Told.lines("good g# size 33 at a to b", 5));
        Check.answers(x, "a child", x.stuck(), 0);
    }

    static void promise30_oneTooBig() {
        HalfDoors x = Check.town(Told.LANE + Told.child("k", "a", 59) + Told.good("g", 19, "a", "b")
                + Told.good("h", 20, "a", "b"));
        Check.answers(x, "stuck()", x.stuck(), 2);
    }

    static void promise30_noWay() {
        HalfDoors x = Check.town(Told.HEAD + ";house a sill 20;house b sill 20;house c sill 20;lane a b minutes 7"
                + Told.child("k", "a", 99) + Told.good("g", 1, "a", "b") + Told.good("h", 1, "a", "c")
                + Told.good("i", 1, "c", "a"));
        Check.answers(x, "stuck()", x.stuck(), 6);
    }

    static void promise30_whereItMustGoItIsNotStuck() {
        HalfDoors x = Check.town(Told.LANE + Told.adult("p", 99) + Told.good("g", 1, "a", "b")
                + Told.good("h", 1, "a", "b"));
        x.hand(0, 1);
        Check.answers(x, "stuck()", x.stuck(), 2);
    }

    static void promise30_noTown() {
        HalfDoors x = new HalfDoors();
        Check.refused(x, "stuck()", x.stuck(), 1);
    }

    // ---- 31: hands

    static void promise31_itIsThere() {
        HalfDoors x = Check.town(Told.LANE + Told.adult("p", 50) + Told.good("g", 1, "a", "b"));
        Check.answers(x, "not yet", x.hands(0), 1);
        x.hand(0, 1);
        Check.answers(x, "it is", x.hands(0), 0);
    }

    static void promise31_tooBigButThere() {
        HalfDoors x = Check.town(Told.LANE + Told.adult("p", 50) + Told.good("g", 61, "a", "b"));
        Check.answers(x, "it can't", x.hands(0), -2);
        x.hours(12);
        Check.answers(x, "it can't by day", x.hands(0), -2);
        Check.answers(x, "by night", x.hand(0, 1), true);
        Check.answers(x, "it is there", x.hands(0), 0);
    }

    static void promise31_asBigAsTheGapPasses() {
        String houses = Told.HEAD + ";house a sill 20;house b sill 50;house c sill 20;lane a b minutes 1;lane b c minutes 1";
        HalfDoors x = Check.town(houses + Told.adult("p", 50) + Told.good("g", 30, "a", "c")
                + Told.good("h", 31, "a", "c") + Told.good("i", 31, "a", "b") + Told.good("j", 31, "b", "a"));
        Check.answers(x, "30", x.hands(0), 2);
        Check.answers(x, "31", x.hands(1), -2);
        Check.answers(x, "31 into it", x.hands(2), -2);
        Check.answers(x, "31 out of it", x.hands(3), -2);
    }

    static void promise31_noLane() {
        HalfDoors x = Check.town(Told.TWO + Told.adult("p", 50) + Told.good("g", 1, "a", "b"));
        Check.answers(x, "hands(0)", x.hands(0), -2);
    }

    static void promise31_fewestHandsNotFewestMinutes() {
        HalfDoors x = Check.town(LINE_OF_SIX.replace("60", "1") + ";lane a f minutes 60" + Told.adult("p", 50)
                + Told.good("g", 1, "a", "f") + Told.good("h", 1, "a", "d"));
        Check.answers(x, "at once", x.hands(0), 1);
        Check.answers(x, "three either way", x.hands(1), 3);
    }

    static void promise31_theMost() {
        HalfDoors x = Check.town(LINE_OF_SIX + Told.adult("p", 50) + Told.good("g", 60, "a", "f")
                + Told.good("h", 60, "f", "a"));
        Check.answers(x, "there", x.hands(0), 5);
        Check.answers(x, "back", x.hands(1), 5);
    }

    static void promise31_noSuchGood() {
        HalfDoors x = Check.town(Told.LANE + Told.adult("p", 50) + Told.good("g", 1, "a", "b")
                + Told.good("h", 1, "a", "b"));
        for (int none : NOT_OF_TWO) {
            Check.refused(x, "g " + none, x.hands(none), 1);
        }
    }

    // ---- 32: round

    static void promise32_noOtherHouse() {
        HalfDoors x = Check.town(Told.ONE + Told.adult("p", 50));
        Check.answers(x, "one house", x.round(0), 0);
        x = Check.town(Told.TWO + Told.adult("p", 50));
        Check.answers(x, "none to which there is a way", x.round(1), 0);
    }

    static void promise32_thereAndBackAgain() {
        HalfDoors x = Check.town(Told.LANE + Told.adult("p", 50));
        Check.answers(x, "round(0)", x.round(0), 14);
        Check.answers(x, "round(1)", x.round(1), 14);
    }

    static void promise32_housesWithoutAWayAreLeftOut() {
        HalfDoors x = Check.town(SIX + ";lane a b minutes 1;lane b c minutes 1;lane d e minutes 10" + Told.adult("p", 50));
        int[] dues = {4, 4, 4, 20, 20, 0};
        for (int h = 0; h < 6; h++) {
            Check.answers(x, "round(" + h + ")", x.round(h), dues[h]);
        }
    }

    static void promise32_theMost() {
        HalfDoors x = Check.town(LINE_OF_SIX + Told.adult("p", 50));
        for (int h = 0; h < 6; h++) {
            Check.answers(x, "round(" + h + ")", x.round(h), 600);
        }
    }

    static void promise32_aRingOrBackTheSameWay() {
        HalfDoors x = Check.town(LINE_OF_SIX.replace("60", "10") + ";lane f a minutes 49" + Told.adult("p", 50));
        Check.answers(x, "round the ring", x.round(2), 99);
        x = Check.town(LINE_OF_SIX.replace("60", "10") + ";lane f a minutes 51" + Told.adult("p", 50));
        Check.answers(x, "back the same way", x.round(2), 100);
    }

    static void promise32_noSuchHouse() {
        HalfDoors x = Check.town(Told.LANE + Told.adult("p", 50));
        for (int none : NOT_OF_TWO) {
            Check.refused(x, "h " + none, x.round(none), 1);
        }
    }

    // ---- 33: pieces

    static void promise33_noGoods() {
        HalfDoors x = Check.town(Told.LANE + Told.adult("p", 50));
        Check.answers(x, "pieces()", x.pieces(), 0);
    }

    static void promise33_theMost() {
        HalfDoors x = Check.town("town dawn 6 dusk 18 door 60;house a sill 59;house b sill 10" + Told.adult("p", 50)
                + Told.lines("good g# size 150 at b to a", 5));
        Check.answers(x, "five times 150", x.pieces(), 750);
    }

    static void promise33_goodsThatAreThereCountToo() {
        HalfDoors x = Check.town(Told.LANE + Told.adult("p", 50) + Told.good("g", 60, "a", "b")
                + Told.good("h", 61, "a", "b"));
        Check.answers(x, "one and two", x.pieces(), 3);
        x.hand(0, 1);
        Check.answers(x, "one of them there", x.pieces(), 3);
    }

    static void promise33_noTown() {
        HalfDoors x = new HalfDoors();
        Check.refused(x, "pieces()", x.pieces(), 1);
    }
}

/** The edges that promises 34 to 42 name, a test for each. */
public final class Edges34To42Test {
    private static final int LEAST = Integer.MIN_VALUE;
    private static final int MOST = Integer.MAX_VALUE;
    private static final int[] NOT_OF_TWO = {-1, 2, 5, LEAST, MOST};
    private static final int[] NO_TENS = {-1, 6, LEAST, MOST};
    private static final int[] NO_SEEDS = {-1, 65537, LEAST, MOST};
    private static final String ALIKE = Told.TWO + Told.lines("person p# adult of a tall 50 upper abc lower ab", 6);
    private static final String PAIR = Told.TWO + Told.adult("p", 50) + Told.adult("q", 50);
    // One hour a day, in which 13 are fined of p at a alone.
    private static final String HOUR = "town dawn 11 dusk 12 door 80;house a sill 20;house b sill 59"
            + Told.adult("p", 66) + Told.child("k", "a", 66);

    public static void main(String[] args) throws Exception {
        Each.run(Edges34To42Test.class);
    }

    // ---- 34: fits

    static void promise34_noPrint() {
        HalfDoors x = Check.town(PAIR);
        Check.refused(x, "fits()", x.fits(), 6);
    }

    static void promise34_noTownIsNotNoPrint() {
        HalfDoors x = new HalfDoors();
        Check.refused(x, "fits()", x.fits(), 1);
    }

    static void promise34_noRow() {
        HalfDoors x = Check.town(PAIR + Told.print("b", "cd", 1));
        Check.answers(x, "nobody's look", x.fits(), 0);
        x = Check.town(PAIR + Told.print("b", "ab", 1) + Told.print("b", "cd", 2));
        Check.answers(x, "nobody's look among others", x.fits(), 0);
    }

    static void promise34_theMost() {
        HalfDoors x = Check.town(ALIKE + Told.print("b", "ab", 0) + Told.print("b", "ab", 1)
                + Told.print("b", "ab", 2) + Told.print("b", "ab", 19) + Told.print("b", "ab", 20));
        Check.answers(x, "five nights of six", x.fits(), 7776);
        x = Check.town(ALIKE + Told.lines("print b ab night 7", 5));
        Check.answers(x, "one night of six", x.fits(), 720);
    }

    static void promise34_nobodyTwoInOneNight() {
        HalfDoors x = Check.town(PAIR + Told.lines("print b ab night 7", 2));
        Check.answers(x, "two of two", x.fits(), 2);
        x = Check.town(PAIR + Told.lines("print b ab night 7", 3));
        Check.answers(x, "three of two", x.fits(), 0);
        x = Check.town(PAIR + Told.print("b", "ab", 7) + Told.print("b", "ab", 8) + Told.print("b", "ab", 7));
        Check.answers(x, "another night between", x.fits(), 4);
    }

    static void promise34_nobodyAtHisOwnHouse() {
        HalfDoors x = Check.town(PAIR + Told.print("a", "ab", 7));
        Check.answers(x, "both have it", x.fits(), 0);
        x = Check.town(PAIR + ";person r adult of b tall 50 upper abc lower ab" + Told.print("a", "ab", 7));
        Check.answers(x, "one hasn't", x.fits(), 1);
    }

    static void promise34_noMermaid() {
        HalfDoors x = Check.town(Told.TWO + ";person q mermaid of a tall 50 upper abc lower ab" + Told.print("b", "ab", 7));
        Check.answers(x, "a mermaid alone", x.fits(), 0);
        x = Check.town(Told.TWO + ";person q mermaid of a tall 50 upper abc lower ab" + Told.child("k", "a", 50)
                + Told.print("b", "ab", 7));
        Check.answers(x, "and a child", x.fits(), 1);
    }

    static void promise34_bothLettersOfTheLook() {
        HalfDoors x = Check.town(PAIR + Told.print("b", "ac", 7));
        Check.answers(x, "the first alone", x.fits(), 0);
        x = Check.town(PAIR + Told.print("b", "bb", 7));
        Check.answers(x, "the second alone", x.fits(), 0);
        x = Check.town(PAIR + Told.print("b", "ba", 7));
        Check.answers(x, "the other way", x.fits(), 0);
    }

    // ---- 35: could

    static void promise35_noSuchPrint() {
        HalfDoors x = Check.town(PAIR);
        Check.refused(x, "there are none", x.could(0), 1);
        x = Check.town(PAIR + Told.lines("print b ab night 7", 2));
        for (int none : NOT_OF_TWO) {
            Check.refused(x, "k " + none, x.could(none), 1);
        }
    }

    static void promise35_nobodyWithoutRows() {
        HalfDoors x = Check.town(PAIR + Told.print("b", "ab", 1) + Told.print("b", "cd", 2));
        Check.answers(x, "one that somebody has the look for", x.could(0), 0);
        Check.answers(x, "one that nobody has", x.could(1), 0);
    }

    static void promise35_everybody() {
        HalfDoors x = Check.town(ALIKE + Told.lines("print b ab night 7", 5));
        for (int k = 0; k < 5; k++) {
            Check.answers(x, "could(" + k + ")", x.could(k), 63);
        }
    }

    static void promise35_onlyInRowsThatFit() {
        // The first can be p's or r's, the second r's alone, in the same night.
        HalfDoors x = Check.town(Told.TWO + ";house c sill 20" + Told.adult("p", 50)
                + ";person r adult of b tall 50 upper abc lower ab" + Told.print("c", "ab", 7) + Told.print("a", "ab", 7));
        Check.answers(x, "could(0)", x.could(0), 1);
        Check.answers(x, "could(1)", x.could(1), 2);
        Check.answers(x, "fits()", x.fits(), 1);
    }

    // ---- 36: surely

    static void promise36_noSuchPrint() {
        HalfDoors x = Check.town(PAIR);
        Check.refused(x, "there are none", x.surely(0), 1);
        x = Check.town(PAIR + Told.lines("print b ab night 7", 2));
        for (int none : NOT_OF_TWO) {
            Check.refused(x, "k " + none, x.surely(none), 1);
        }
    }

    static void promise36_nobodyWithoutRows() {
        HalfDoors x = Check.town(Told.TWO + Told.adult("p", 50) + Told.print("b", "ab", 1) + Told.print("b", "cd", 2));
        Check.answers(x, "surely(0)", x.surely(0), -2);
        Check.answers(x, "surely(1)", x.surely(1), -2);
    }

    static void promise36_oneAndMoreThanOne() {
        HalfDoors x = Check.town(PAIR + ";person r adult of b tall 50 upper abc lower cd" + Told.print("b", "ab", 1)
                + Told.print("a", "cd", 1));
        Check.answers(x, "two could", x.surely(0), -2);
        Check.answers(x, "one alone, the last", x.surely(1), 2);
        x = Check.town(Told.TWO + Told.adult("p", 50) + Told.print("b", "ab", 1));
        Check.answers(x, "one alone, the first", x.surely(0), 0);
    }

    // ---- 37: ask

    static void promise37_noPrint() {
        HalfDoors x = Check.town(PAIR);
        Check.refused(x, "ask()", x.ask(), 6);
    }

    static void promise37_noTownIsNotNoPrint() {
        HalfDoors x = new HalfDoors();
        Check.refused(x, "ask()", x.ask(), 1);
    }

    static void promise37_noRows() {
        HalfDoors x = Check.town(PAIR + Told.print("b", "ab", 1) + Told.print("b", "cd", 2));
        Check.answers(x, "ask()", x.ask(), -2);
    }

    static void promise37_theFirstOfLikeOnes() {
        HalfDoors x = Check.town(ALIKE + Told.lines("print b ab night 7", 5));
        Check.answers(x, "all are alike", x.ask(), 0);
        x = Check.town(PAIR + Told.print("b", "ab", 1));
        Check.answers(x, "one alone", x.ask(), 0);
    }

    static void promise37_theOneThatLeavesFewest() {
        // The first is r's whatever else is: all four rows are left. Each of the others leaves two.
        HalfDoors x = Check.town(PAIR + ";person r adult of b tall 50 upper abc lower cd" + Told.print("a", "cd", 1)
                + Told.print("b", "ab", 1) + Told.print("b", "ab", 2));
        Check.answers(x, "ask()", x.ask(), 1);
    }

    static void promise37_atMostNotOnAverage() {
        // In night 1 it was q or r at a, then one of the two others at c; in night 2 q or r.
        HalfDoors x = Check.town(Told.HEAD + ";house a sill 20;house b sill 20;house c sill 20"
                + ";person p adult of a tall 50 upper abc lower ab;person q adult of b tall 50 upper abc lower ab"
                + ";person r adult of b tall 50 upper abc lower ab" + Told.print("a", "ab", 2) + Told.print("a", "ab", 1)
                + Told.print("c", "ab", 1));
        Check.answers(x, "fits()", x.fits(), 8);
        // Whose the last is leaves 4 (p), 2 (q) or 2 (r), each of the others 4: at most that is alike.
        Check.answers(x, "ask()", x.ask(), 0);
    }

    // ---- 38: shop

    static void promise38_tensFrom0To5() {
        HalfDoors x = Check.town(Told.ONE + Told.adult("p", 20));
        Check.answers(x, "0 and 0", x.shop(0, 0, false), 0);
        Check.answers(x, "5 and 5", x.shop(5, 5, true), 10);
        for (int tens : NO_TENS) {
            Check.due("one " + tens, x.shop(tens, 0, false), -100);
            Check.due("its trouble", x.trouble(), 2);
            Check.due("other " + tens, x.shop(0, tens, true), -100);
            Check.due("its trouble", x.trouble(), 2);
        }
    }

    static void promise38_noTownIsRefusedAheadOfTheNumber() {
        HalfDoors x = new HalfDoors();
        Check.due("shop(0, 0, false)", x.shop(0, 0, false), -100);
        Check.due("its trouble", x.trouble(), 1);
        Check.due("shop(6, 6, true)", x.shop(6, 6, true), -100);
        Check.due("its trouble", x.trouble(), 1);
    }

    static void promise38_halfOfThoseForWhomItIsAlikeDownwards() {
        for (int people = 1; people <= 6; people++) {
            HalfDoors x = Check.town(Told.ONE + Told.lines("person p# adult of a tall 50 upper abc lower ab", people));
            Check.answers(x, people + " the one's", x.shop(0, 0, false), 3 * (people / 2));
            Check.answers(x, people + " the other's", x.shop(0, 0, true), 3 * (people / 2));
        }
    }

    static void promise38_moreMarksAreSeenByOne() {
        // Over 10 the one mark of 20 is seen, over 20 none is.
        HalfDoors x = Check.town(Told.ONE + Told.adult("p", 20));
        Check.answers(x, "the lower one", x.shop(0, 1, false), 3);
        Check.answers(x, "the higher one", x.shop(0, 1, true), 2);
        Check.answers(x, "the higher one", x.shop(1, 0, false), 2);
        Check.answers(x, "the lower one", x.shop(1, 0, true), 3);
    }

    static void promise38_aMarkAsHighAsTheSillIsNotSeen() {
        // 60, 50, 40 over 30 and 40: three and two; 61, 51, 41: three and three.
        HalfDoors x = Check.town(Told.ONE + Told.adult("p", 60));
        Check.answers(x, "of 60", x.shop(2, 3, false), 7);
        x = Check.town(Told.ONE + Told.adult("p", 61));
        Check.answers(x, "of 61", x.shop(2, 3, false), 4);
    }

    static void promise38_theHighestSillIs60() {
        HalfDoors x = Check.town(Told.ONE + Told.adult("p", 60));
        Check.answers(x, "nothing of 60, half of one", x.shop(5, 5, false), 10);
        Check.answers(x, "over 50 it is one mark", x.shop(5, 4, true), 11);
        Check.answers(x, "nothing against one", x.shop(5, 4, false), 10);
        // 61 is one mark over 60, two over 50: 61 and 51.
        x = Check.town(Told.ONE + Told.adult("p", 61));
        Check.answers(x, "one against two", x.shop(5, 4, false), 10);
        Check.answers(x, "two against one", x.shop(5, 4, true), 11);
    }

    static void promise38_theMost() {
        // Over 50 all six of 51 are seen, over 60 nobody.
        HalfDoors x = Check.town(Told.ONE + Told.lines("person p# child of a tall 51 upper abc lower ab", 6));
        Check.answers(x, "4 against 5", x.shop(4, 5, false), 26);
        Check.answers(x, "5 against 4", x.shop(4, 5, true), 10);
    }

    // ---- 39, 40: rests, rest

    static void promise39_none() {
        // Against 5, 4, 3, 2, 1, 0 the best are 4, 3, 2 or 5, 5, 5, 5.
        HalfDoors x = Check.town(Told.ONE + Told.adult("p", 51) + Told.adult("q", 51));
        Check.answers(x, "rests()", x.rests(), 0);
    }

    static void promise39_oneThatIsAlikeForBoth() {
        // Who sees little goes nowhere: half of one is nobody, tens are all.
        HalfDoors x = Check.town(Told.ONE + Told.adult("p", 20));
        Check.answers(x, "rests()", x.rests(), 1);
    }

    static void promise39_aPairAndItsOtherWayAreTwo() {
        // Against 5 the best is 4 (3 and 8), against 4 it is 5 (10, where 3 has 3 and 6).
        HalfDoors x = Check.town(Told.ONE + Told.adult("p", 51));
        Check.answers(x, "rests()", x.rests(), 2);
    }

    static void promise39_anotherTownsRestsAreGone() {
        HalfDoors x = Check.town(Told.ONE + Told.lines("person p# child of a tall 51 upper abc lower ab", 6));
        x.rests();
        Check.tell(x, Told.ONE + Told.adult("p", 20));
        Check.answers(x, "rests()", x.rests(), 1);
        Check.tell(x, Told.ONE + Told.adult("p", 51));
        Check.answers(x, "rests()", x.rests(), 2);
    }

    static void promise39_noTown() {
        HalfDoors x = new HalfDoors();
        Check.refused(x, "rests()", x.rests(), 1);
    }

    static void promise40_none() {
        HalfDoors x = Check.town(Told.ONE + Told.adult("p", 51) + Told.adult("q", 51));
        Check.answers(x, "rest()", x.rest(), -2);
    }

    static void promise40_theLast() {
        HalfDoors x = Check.town(Told.ONE + Told.adult("p", 20));
        Check.answers(x, "rest()", x.rest(), 55);
    }

    static void promise40_theFirstByTheOnesTens() {
        HalfDoors x = Check.town(Told.ONE + Told.adult("p", 51));
        Check.answers(x, "rest()", x.rest(), 45);
    }

    static void promise40_noTown() {
        HalfDoors x = new HalfDoors();
        Check.refused(x, "rest()", x.rest(), 1);
    }

    // ---- 41: day

    static void promise41_seedsFrom0To65536() {
        HalfDoors x = Check.town(HOUR);
        // 74 is p, 5624 is a.
        Check.answers(x, "day(0)", x.day(0), 13);
        // 65536 becomes 65536: p, a.
        Check.answers(x, "day(65536)", x.day(65536), 13);
        for (int seed : NO_SEEDS) {
            Check.refused(x, "day(" + seed + ")", x.day(seed), 2);
        }
    }

    static void promise41_noTownIsRefusedAheadOfTheNumber() {
        HalfDoors x = new HalfDoors();
        Check.refused(x, "day(0)", x.day(0), 1);
        Check.refused(x, "day(65537)", x.day(65537), 1);
    }

    static void promise41_theShortestAndTheLongestDay() {
        HalfDoors x = Check.town("town dawn 11 dusk 12 door 80;house a sill 10" + Told.adult("p", 99));
        Check.answers(x, "one hour", x.day(7), 39);
        x = Check.town("town dawn 4 dusk 22 door 80;house a sill 10" + Told.adult("p", 99));
        Check.answers(x, "eighteen hours", x.day(7), 702);
    }

    static void promise41_firstThePersonThenTheHouse() {
        // 74 mod 3 is 2, 5624 mod 5 is 4.
        String houses = "town dawn 11 dusk 12 door 80;house a sill 59;house b sill 59;house c sill 59;house d sill 59";
        HalfDoors x = Check.town(houses + ";house e sill 20" + Told.adult("p", 98) + Told.adult("q", 98)
                + Told.adult("r", 66));
        Check.answers(x, "r at e", x.day(0), 13);
    }

    static void promise41_theSeedIsCutOffAt65537() {
        // 873 becomes 65549, that is 12: p; then 974: a. 872 becomes 65474: p; then 60886, that of 4910624: a.
        HalfDoors x = Check.town(HOUR);
        Check.answers(x, "day(873)", x.day(873), 13);
        Check.answers(x, "day(872)", x.day(872), 13);
        // 45438 becomes 3407924, that is 52 times 65537, so 0: p; then 74: a.
        Check.answers(x, "day(45438)", x.day(45438), 13);
    }

    static void promise41_itIsNoAct() {
        HalfDoors x = Check.town(HOUR);
        x.day(0);
        x.dayOf(0, 0, 20);
        Check.due("acts", x.size(11), 0);
        Check.due("hour", x.size(9), 12);
        Check.due("day", x.size(10), 0);
        Check.answers(x, "nor a visit", x.busiest(), -2);
    }

    // ---- 42: dayOf

    static void promise42_daysFrom1To20() {
        HalfDoors x = Check.town("town dawn 4 dusk 22 door 80;house a sill 10" + Told.adult("p", 99));
        Check.answers(x, "1", x.dayOf(0, 0, 1), 702);
        Check.answers(x, "20", x.dayOf(0, 65536, 20), 14040);
        for (int n : new int[] {0, 21, -1, LEAST, MOST}) {
            Check.refused(x, "n " + n, x.dayOf(0, 0, n), 2);
        }
    }

    static void promise42_seedsFrom0To65536() {
        HalfDoors x = Check.town(HOUR);
        Check.answers(x, "0", x.dayOf(0, 0, 1), 13);
        Check.answers(x, "65536", x.dayOf(0, 65536, 20), 260);
        for (int seed : NO_SEEDS) {
            Check.refused(x, "seed " + seed, x.dayOf(0, seed, 1), 2);
        }
    }

    static void promise42_nobodySuchIsRefusedAheadOfTheNumber() {
        HalfDoors x = Check.town(HOUR);
        for (int none : NOT_OF_TWO) {
            Check.refused(x, "p " + none, x.dayOf(none, 0, 1), 1);
            Check.refused(x, "p " + none + ", n 0", x.dayOf(none, -1, 0), 1);
        }
        x = new HalfDoors();
        Check.refused(x, "no town", x.dayOf(0, 0, 1), 1);
    }

    static void promise42_theSeedGoesOnFromDayToDay() {
        // 74 5624, 28652 51790, 17641 ...: p at a, p at a, k.
        HalfDoors x = Check.town(HOUR.replace("child", "adult"));
        int[] dues = {13, 26, 26};
        for (int n = 1; n <= 3; n++) {
            Check.answers(x, n + " days of p", x.dayOf(0, 0, n), dues[n - 1]);
        }
        Check.answers(x, "two days of k", x.dayOf(1, 0, 2), 0);
    }

    static void promise42_ofHimAlone() {
        HalfDoors x = Check.town(HOUR.replace("child", "adult"));
        Check.answers(x, "all", x.day(0), 13);
        Check.answers(x, "his", x.dayOf(0, 0, 1), 13);
        Check.answers(x, "the other one's", x.dayOf(1, 0, 1), 0);
    }
}

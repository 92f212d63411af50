/** The edges that promises 43 to 51 name, a test for each. */
public final class Edges43To51Test {
    private static final int LEAST = Integer.MIN_VALUE;
    private static final int MOST = Integer.MAX_VALUE;
    private static final int[] NOT_OF_TWO = {-1, 2, 5, 6, LEAST, MOST};
    // Houses a and b, 7 minutes apart; c, to which there is no way; two people at a, two goods at a that go to b.
    private static final String TOWN = Told.LANE + Told.adult("p", 50) + Told.child("k", "a", 50)
            + Told.good("g", 60, "a", "b") + Told.good("h", 61, "a", "b");
    private static final String THREE = TOWN + ";house c sill 20";

    public static void main(String[] args) throws Exception {
        Each.run(Edges43To51Test.class);
    }

    // ---- 43: go

    static void promise43_heIsThere() {
        HalfDoors x = Check.town(TOWN);
        Check.refused(x, "at his house", x.go(0, 0), 5);
        Check.answers(x, "go(0, 1)", x.go(0, 1), 7);
        Check.refused(x, "at the other one", x.go(0, 1), 5);
        Check.answers(x, "and back", x.go(0, 0), 7);
    }

    static void promise43_thereIsNoWay() {
        HalfDoors x = Check.town(THREE);
        Check.refused(x, "go(0, 2)", x.go(0, 2), 5);
        Check.answers(x, "he is where he was", x.person(0, 3), 0);
    }

    static void promise43_nobodyAndNoHouseSuch() {
        HalfDoors x = Check.town(TOWN);
        for (int none : NOT_OF_TWO) {
            Check.refused(x, "p " + none, x.go(none, 1), 1);
            Check.refused(x, "h " + none, x.go(0, none), 1);
        }
    }

    static void promise43_aRefusedOneIsNoAct() {
        HalfDoors x = Check.town(THREE);
        x.go(0, 0);
        x.go(0, 2);
        x.go(2, 0);
        Check.due("acts", x.size(11), 0);
    }

    static void promise43_theLongestWayTakesNoHour() {
        HalfDoors x = Check.town(Told.HEAD + Told.lines("house # sill 20", 6) + ";lane a b minutes 60"
                + ";lane b c minutes 60;lane c d minutes 60;lane d e minutes 60;lane e f minutes 60" + Told.adult("p", 50));
        Check.answers(x, "go(0, 5)", x.go(0, 5), 300);
        Check.answers(x, "he is there at once", x.person(0, 3), 5);
        Check.due("hour", x.size(9), 12);
    }

    // ---- 44: hand

    static void promise44_noLane() {
        HalfDoors x = Check.town(THREE);
        Check.refused(x, "to c", x.hand(0, 2), 5);
        Check.refused(x, "to where it lies", x.hand(0, 0), 5);
        x.hours(12);
        Check.refused(x, "to c by night", x.hand(0, 2), 5);
        Check.refused(x, "to where it lies by night", x.hand(0, 0), 5);
    }

    static void promise44_aWayOfTwoLanesIsNoLane() {
        HalfDoors x = Check.town(THREE + ";lane b c minutes 1");
        Check.refused(x, "at once", x.hand(0, 2), 5);
        Check.answers(x, "to b", x.hand(0, 1), true);
        Check.answers(x, "to c", x.hand(0, 2), true);
    }

    static void promise44_asBigAsTheGapPasses() {
        HalfDoors x = Check.town(TOWN);
        Check.answers(x, "60 by 60", x.hand(0, 1), true);
        Check.refused(x, "61 by 60", x.hand(1, 1), 5);
    }

    static void promise44_itMustPassBoth() {
        HalfDoors x = Check.town(Told.ONE + ";house b sill 21;lane a b minutes 7" + Told.adult("p", 50)
                + Told.good("g", 60, "a", "b") + Told.good("h", 60, "b", "a") + Told.good("i", 59, "a", "b")
                + Told.good("j", 59, "b", "a"));
        Check.refused(x, "where it goes", x.hand(0, 1), 5);
        Check.refused(x, "where it lies", x.hand(1, 0), 5);
        Check.answers(x, "59 there", x.hand(2, 1), true);
        Check.answers(x, "59 back", x.hand(3, 0), true);
    }

    static void promise44_byNightItNeednt() {
        HalfDoors x = Check.town(TOWN);
        x.hours(5);
        Check.refused(x, "the hour ahead of dusk", x.hand(1, 1), 5);
        x.hours(1);
        Check.answers(x, "dusk", x.hand(1, 1), true);
        x.hours(11);
        Check.answers(x, "the hour ahead of dawn", x.hand(1, 0), true);
        x.hours(1);
        Check.refused(x, "dawn", x.hand(1, 1), 5);
    }

    static void promise44_noGoodAndNoHouseSuch() {
        HalfDoors x = Check.town(TOWN);
        for (int none : NOT_OF_TWO) {
            Check.refused(x, "g " + none, x.hand(none, 1), 1);
            Check.refused(x, "h " + none, x.hand(0, none), 1);
        }
        x = Check.town(Told.LANE + Told.adult("p", 50));
        Check.refused(x, "there are none", x.hand(0, 1), 1);
    }

    static void promise44_aRefusedOneIsNoAct() {
        HalfDoors x = Check.town(THREE);
        x.hand(0, 2);
        x.hand(1, 1);
        x.hand(2, 1);
        Check.due("acts", x.size(11), 0);
        Check.answers(x, "they lie where they lay", x.house(0, 3), 3);
    }

    static void promise44_onFromWhereItMustGo() {
        HalfDoors x = Check.town(TOWN);
        x.hand(0, 1);
        Check.due("it is there", x.led(0), 0);
        Check.answers(x, "on", x.hand(0, 0), true);
        Check.throwsNoSuch(x, 0);
    }

    // ---- 45: hours

    static void promise45_hoursFrom1To24() {
        HalfDoors x = Check.town(TOWN);
        Check.answers(x, "hours(1)", x.hours(1), 13);
        Check.answers(x, "hours(24)", x.hours(24), 13);
        for (int n : new int[] {0, 25, -1, LEAST, MOST}) {
            Check.refused(x, "hours(" + n + ")", x.hours(n), 2);
        }
        Check.due("refused ones are no acts", x.size(11), 2);
    }

    static void promise45_behind23ComesHour0OfTheNextDay() {
        HalfDoors x = Check.town(TOWN);
        Check.answers(x, "hours(11)", x.hours(11), 23);
        Check.due("day", x.size(10), 0);
        Check.answers(x, "hours(1)", x.hours(1), 0);
        Check.due("day", x.size(10), 1);
        Check.answers(x, "hours(23)", x.hours(23), 23);
        Check.due("day", x.size(10), 1);
        Check.answers(x, "hours(24)", x.hours(24), 23);
        Check.due("day", x.size(10), 2);
        Check.answers(x, "hours(2)", x.hours(2), 1);
        Check.due("day", x.size(10), 3);
    }

    static void promise45_asManyDaysAsCalls() {
        HalfDoors x = Check.town(TOWN);
        for (int i = 1; i <= 400; i++) {
            Check.due("hours(24)", x.hours(24), 12);
        }
        Check.due("day", x.size(10), 400);
    }

    static void promise45_noTownIsRefusedAheadOfTheNumber() {
        HalfDoors x = new HalfDoors();
        Check.refused(x, "hours(1)", x.hours(1), 1);
        Check.refused(x, "hours(0)", x.hours(0), 1);
    }

    // ---- 46: undo

    static void promise46_nothingToUndo() {
        HalfDoors x = new HalfDoors();
        Check.refused(x, "no town", x.undo(), 6);
        x = Check.town(TOWN);
        Check.refused(x, "no act", x.undo(), 6);
        x.hours(1);
        Check.answers(x, "one", x.undo(), true);
        Check.refused(x, "no more", x.undo(), 6);
    }

    static void promise46_sixteenAreKept() {
        HalfDoors x = Check.town(TOWN);
        for (int i = 1; i <= 16; i++) {
            x.hours(1);
        }
        Check.due("acts", x.size(11), 16);
        for (int i = 1; i <= 16; i++) {
            Check.answers(x, "undo " + i, x.undo(), true);
        }
        Check.due("hour", x.size(9), 12);
        Check.due("day", x.size(10), 0);
        Check.refused(x, "undo 17", x.undo(), 6);
    }

    static void promise46_theOldestOfSeventeenIsNot() {
        HalfDoors x = Check.town(TOWN);
        x.go(0, 1);
        for (int i = 1; i <= 16; i++) {
            x.hours(1);
        }
        Check.due("acts", x.size(11), 16);
        for (int i = 1; i <= 16; i++) {
            Check.answers(x, "undo " + i, x.undo(), true);
        }
        Check.refused(x, "undo 17", x.undo(), 6);
        Check.due("hour", x.size(9), 12);
        Check.answers(x, "he is where he went", x.person(0, 3), 1);
    }

    static void promise46_actsAndUndoingByTurns() {
        HalfDoors x = Check.town(TOWN);
        for (int i = 0; i < 40; i++) {
            x.hours(2);
            x.hours(3);
            Check.answers(x, "undo()", x.undo(), true);
        }
        // Eighty hours behind 12. The latest three hours pushed a sixteenth act of two out, so fifteen can be undone.
        Check.due("hour", x.size(9), 20);
        Check.due("day", x.size(10), 3);
        Check.due("acts", x.size(11), 15);
        for (int i = 0; i < 15; i++) {
            Check.answers(x, "undo()", x.undo(), true);
        }
        Check.due("hour", x.size(9), 14);
        Check.due("day", x.size(10), 2);
        Check.refused(x, "no more", x.undo(), 6);
    }

    static void promise46_eachSortOfAct() {
        HalfDoors x = Check.town(TOWN);
        x.go(1, 1);
        x.hand(0, 1);
        x.hours(24);
        Check.answers(x, "the hours", x.undo(), true);
        Check.due("day", x.size(10), 0);
        Check.answers(x, "the good", x.undo(), true);
        Check.answers(x, "it lies", x.good(0, 2), 0);
        Check.answers(x, "the child", x.undo(), true);
        Check.answers(x, "he is", x.person(1, 3), 0);
    }

    static void promise46_anImageIsNoAct() {
        HalfDoors x = Check.town(TOWN);
        x.hours(1);
        x.image();
        Check.due("acts", x.size(11), 1);
        Check.answers(x, "undo()", x.undo(), true);
        Check.due("hour", x.size(9), 12);
        Check.due("the image stays", x.size(12), 1);
    }

    // ---- 47: image

    static void promise47_upToThree() {
        HalfDoors x = Check.town(TOWN);
        for (int i = 0; i < 3; i++) {
            Check.answers(x, "image " + i, x.image(), i);
            Check.due("images", x.size(12), i + 1);
        }
        Check.refused(x, "a fourth", x.image(), 3);
        Check.due("images", x.size(12), 3);
    }

    static void promise47_goingBackMakesNoRoom() {
        HalfDoors x = Check.town(TOWN);
        x.image();
        x.image();
        x.image();
        x.back(0);
        Check.refused(x, "a fourth", x.image(), 3);
    }

    static void promise47_aNewTownMakesRoom() {
        HalfDoors x = Check.town(TOWN);
        x.image();
        x.image();
        x.image();
        Check.tell(x, TOWN);
        Check.answers(x, "image()", x.image(), 0);
    }

    static void promise47_noTown() {
        HalfDoors x = new HalfDoors();
        Check.refused(x, "image()", x.image(), 1);
    }

    // ---- 48: back

    static void promise48_noSuchImage() {
        HalfDoors x = new HalfDoors();
        Check.refused(x, "no town", x.back(0), 1);
        x = Check.town(TOWN);
        Check.refused(x, "no image", x.back(0), 1);
        x.image();
        x.image();
        for (int none : NOT_OF_TWO) {
            Check.refused(x, "image " + none, x.back(none), 1);
        }
        Check.answers(x, "the last one", x.back(1), true);
    }

    static void promise48_aRefusedOneLeavesAll() {
        HalfDoors x = Check.town(TOWN);
        x.image();
        x.hours(1);
        x.back(1);
        Check.due("hour", x.size(9), 13);
        Check.due("acts", x.size(11), 1);
    }

    static void promise48_nothingCanBeUndone() {
        HalfDoors x = Check.town(TOWN);
        x.hours(1);
        x.image();
        x.hours(1);
        Check.answers(x, "back(0)", x.back(0), true);
        Check.due("acts", x.size(11), 0);
        Check.refused(x, "undo()", x.undo(), 6);
        Check.due("hour", x.size(9), 13);
    }

    static void promise48_allImagesStay() {
        HalfDoors x = Check.town(TOWN);
        x.image();
        x.go(0, 1);
        x.image();
        x.hand(0, 1);
        x.hours(20);
        x.image();
        int[] people = {3, 2, 2};
        int[] goods = {3, 3, 2};
        int[] hours = {12, 12, 8};
        int[] days = {0, 0, 1};
        for (int image : new int[] {0, 2, 1, 2, 0, 1, 1}) {
            Check.answers(x, "back(" + image + ")", x.back(image), true);
            Check.due("images", x.size(12), 3);
            Check.answers(x, "people at a", x.house(0, 2), people[image]);
            Check.answers(x, "goods at a", x.house(0, 3), goods[image]);
            Check.due("hour", x.size(9), hours[image]);
            Check.due("day", x.size(10), days[image]);
            x.hours(7);
        }
    }

    // ---- 49: led

    static void promise49_noneSuch() {
        HalfDoors x = new HalfDoors();
        Check.throwsNoSuch(x, 0);
        x = Check.town(Told.LANE + Told.adult("p", 50));
        Check.throwsNoSuch(x, 0);
        x = Check.town(TOWN);
        Check.throwsNoSuch(x, 0);
        x.hand(0, 1);
        Check.due("led(0)", x.led(0), 0);
        for (int i : new int[] {1, 2, -1, LEAST, MOST}) {
            Check.throwsNoSuch(x, i);
        }
    }

    static void promise49_byNumbersNotByTurns() {
        HalfDoors x = Check.town(Told.LANE + Told.adult("p", 50) + Told.lines("good g# size 3 at a to b", 5));
        for (int g : new int[] {4, 1, 3}) {
            x.hand(g, 1);
        }
        int[] dues = {1, 3, 4};
        for (int i = 0; i < 3; i++) {
            Check.due("led(" + i + ")", x.led(i), dues[i]);
        }
        Check.throwsNoSuch(x, 3);
    }

    static void promise49_all() {
        HalfDoors x = Check.town(Told.LANE + Told.adult("p", 50) + Told.lines("good g# size 3 at a to b", 5));
        for (int g = 0; g < 5; g++) {
            x.hand(g, 1);
        }
        for (int g = 0; g < 5; g++) {
            Check.due("led(" + g + ")", x.led(g), g);
        }
        Check.throwsNoSuch(x, 5);
    }

    static void promise49_itChangesNothing() {
        HalfDoors x = Check.town(TOWN);
        x.light(24);
        Check.throwsNoSuch(x, 0);
        Check.due("trouble()", x.trouble(), 2);
        Check.due("acts", x.size(11), 0);
    }

    // ---- 50: size

    static void promise50_noneForOthers() {
        HalfDoors x = new HalfDoors();
        for (int what : new int[] {-1, 14, LEAST, MOST}) {
            Check.due("size(" + what + ") without a town", x.size(what), -1);
        }
        x = Check.town(TOWN);
        for (int what : new int[] {-1, 14, LEAST, MOST}) {
            Check.due("size(" + what + ")", x.size(what), -1);
        }
    }

    static void promise50_zeroForWhatThereIsnt() {
        HalfDoors x = new HalfDoors();
        x.feed(0, 0, 0, 0, 0);
        for (int what = 0; what <= 12; what++) {
            Check.due("size(" + what + ")", x.size(what), 0);
        }
        Check.due("the tape is without a town, too", x.size(13), 20);
    }

    static void promise50_eachOfThem() {
        HalfDoors x = Check.town("town dawn 5 dusk 21 door 97;house a sill 20;house b sill 20;house c sill 20"
                + ";lane a b minutes 3" + Told.lines("person p# adult of a tall 50 upper abc lower ab", 4)
                + Told.lines("good g# size 3 at a to b", 2) + Told.lines("visit pa b hour 3", 6)
                + Told.lines("print a ab night 3", 5));
        x.hours(20);
        x.hours(1);
        x.image();
        x.image();
        x.image();
        x.feed(0, 0, 0, 0, 0);
        x.feed(0, 0, 0, 0, 0);
        int[] dues = {5, 21, 97, 3, 1, 4, 2, 6, 5, 9, 1, 2, 3, 40};
        for (int what = 0; what <= 13; what++) {
            Check.due("size(" + what + ")", x.size(what), dues[what]);
        }
    }

    static void promise50_itIsNotACallThatMayBeRefused() {
        HalfDoors x = Check.town(TOWN);
        x.light(24);
        x.size(14);
        x.size(3);
        Check.due("trouble()", x.trouble(), 2);
    }

    // ---- 51: trouble

    static void promise51_everyNumber() {
        HalfDoors x = new HalfDoors();
        Check.due("none yet", x.trouble(), 0);
        x.tells();
        Check.due("there is none such", x.trouble(), 1);
        x.town(-1);
        Check.due("a number", x.trouble(), 2);
        x.town(0);
        Check.due("a fault", x.trouble(), 4);
        Check.tell(x, TOWN);
        Check.due("it wasn't", x.trouble(), 0);
        x.image();
        x.image();
        x.image();
        x.image();
        Check.due("no room", x.trouble(), 3);
        x.go(0, 0);
        Check.due("not so", x.trouble(), 5);
        x.undo();
        Check.due("there is none", x.trouble(), 6);
    }

    static void promise51_askingLeavesIt() {
        HalfDoors x = new HalfDoors();
        x.undo();
        Check.due("once", x.trouble(), 6);
        Check.due("twice", x.trouble(), 6);
    }

    static void promise51_callsThatMayNotBeRefusedLeaveIt() {
        HalfDoors x = Check.town(TOWN);
        x.light(24);
        x.feed(0, 0, 0, 0, 0);
        x.fault();
        x.where();
        x.size(0);
        x.size(-1);
        Check.throwsNoSuch(x, 0);
        Check.due("trouble()", x.trouble(), 2);
    }

    static void promise51_minusTwoIsNoRefusal() {
        HalfDoors x = Check.town(THREE);
        x.light(24);
        Check.answers(x, "busiest()", x.busiest(), -2);
        x.light(24);
        Check.answers(x, "way(0, 2)", x.way(0, 2), -2);
        x.light(24);
        Check.answers(x, "carried()", x.carried(), -2);
        x.light(24);
        Check.answers(x, "hands(1)", x.hands(1), -2);
        x.light(24);
        Check.answers(x, "tells()", x.tells(), -2);
    }

    static void promise51_everyCallThatIsAnsweredEndsIt() {
        String text = THREE + Told.visit("p", "a", 3) + Told.print("b", "ab", 3);
        HalfDoors x = Check.town(text);
        x.hours(1);
        x.image();
        for (int call = 0; call < 44; call++) {
            x.light(24);
            Check.due("refused ahead of " + call, x.trouble(), 2);
            answered(x, call);
            Check.due("answered " + call, x.trouble(), 0);
        }
    }

    private static void answered(HalfDoors x, int call) {
        switch (call) {
            case 0 -> x.house(0, 0);
            case 1 -> x.person(0, 0);
            case 2 -> x.mark(0, 0);
            case 3 -> x.good(0, 0);
            case 4 -> x.light(0);
            case 5 -> x.seen(0, 0, 0);
            case 6 -> x.taken(0, 0, 0);
            case 7 -> x.pairs(0, 0);
            case 8 -> x.knownAt(0);
            case 9 -> x.fine(0, 0, 0);
            case 10 -> x.visit(0, 0);
            case 11 -> x.fines(0);
            case 12 -> x.bares(0);
            case 13 -> x.met(0);
            case 14 -> x.busiest();
            case 15 -> x.apart(0, 1);
            case 16 -> x.tells();
            case 17 -> x.another(10);
            case 18 -> x.leastSill();
            case 19 -> x.way(0, 0);
            case 20 -> x.wayAt(0, 0, 0);
            case 21 -> x.carried();
            case 22 -> x.alone(1);
            case 23 -> x.stuck();
            case 24 -> x.hands(0);
            case 25 -> x.round(0);
            case 26 -> x.pieces();
            case 27 -> x.fits();
            case 28 -> x.could(0);
            case 29 -> x.surely(0);
            case 30 -> x.ask();
            case 31 -> x.shop(0, 0, true);
            case 32 -> x.rests();
            case 33 -> x.rest();
            case 34 -> x.day(0);
            case 35 -> x.dayOf(0, 0, 1);
            case 36 -> x.go(0, 1);
            case 37 -> x.hand(0, 1);
            case 38 -> x.hours(6);
            case 39 -> x.hand(1, 1);
            // Both goods are where they must go, so no good is one that can't be carried.
            case 40 -> x.carrier(0);
            case 41 -> x.undo();
            case 42 -> x.image();
            default -> x.back(0);
        }
    }
}

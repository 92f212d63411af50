/** The edges that promises 1 to 5 and the text's terms name, a test for each. */
public final class Edges01To05Test {
    private static final String BASE = Told.TWO + Told.adult("p", 50);
    private static final String[] LINE_WORDS = {"town", "house", "lane", "person", "good", "visit", "print"};

    public static void main(String[] args) throws Exception {
        Each.run(Edges01To05Test.class);
    }

    // ---- 1: No TOWN.

    static void promise01_noTownHasNoSizes() {
        HalfDoors x = new HalfDoors();
        for (int what = 0; what <= 13; what++) {
            Check.due("size(" + what + ")", x.size(what), 0);
        }
    }

    static void promise01_noTownHasNoTroubleYet() {
        HalfDoors x = new HalfDoors();
        Check.due("trouble()", x.trouble(), 0);
        Check.due("fault()", x.fault(), 0);
        Check.due("where()", x.where(), -1);
    }

    static void promise01_noTownHasNobodyAndNothing() {
        HalfDoors x = new HalfDoors();
        Check.refused(x, "house", x.house(0, 0), 1);
        Check.refused(x, "person", x.person(0, 0), 1);
        Check.refused(x, "good", x.good(0, 0), 1);
        Check.refused(x, "visit", x.visit(0, 0), 1);
        Check.refused(x, "could", x.could(0), 1);
        Check.throwsNoSuch(x, 0);
    }

    static void promise01_objectsKnowNothingOfEachOther() {
        HalfDoors x = Check.town(BASE);
        HalfDoors y = new HalfDoors();
        Check.due("the other one's houses", y.size(3), 0);
        Check.due("this one's", x.size(3), 2);
    }

    // ---- 2: feed

    static void promise02_anEmptyTapeTakesTwenty() {
        HalfDoors x = new HalfDoors();
        Check.due("feed", x.feed(0, 0, 0, 0, 0), 20);
        Check.due("size(13)", x.size(13), 20);
    }

    static void promise02_elevenHundredBytesFit() {
        HalfDoors x = new HalfDoors();
        for (int i = 1; i <= 55; i++) {
            Check.due("feed " + i, x.feed(-1, i, 0, 0, 0), 20 * i);
        }
        Check.due("size(13)", x.size(13), 1100);
    }

    static void promise02_aFullTapeTakesNone() {
        HalfDoors x = new HalfDoors();
        Check.feed(x, BASE + " ".repeat(1100 - BASE.length()));
        Check.due("full", x.size(13), 1100);
        Check.due("feed", x.feed(-1, -1, -1, -1, -1), -1);
        Check.due("none comes", x.size(13), 1100);
        Check.answers(x, "the bytes are as they were", x.town(1100), 1);
    }

    static void promise02_theHighestByteComesFirst() {
        HalfDoors x = new HalfDoors();
        // "town" " daw" "n 99" "    " "    "
        x.feed(0x746f776e, 0x20646177, 0x6e203939, 0x20202020, 0x20202020);
        x.town(20);
        Check.due("fault()", x.fault(), 4);
        Check.due("where()", x.where(), 10);
    }

    static void promise02_aByteAbove127IsAByte() {
        for (int sign : new int[] {128, 160, 233, 255}) {
            HalfDoors x = new HalfDoors();
            x.feed(0x20202000 | sign, 0, 0, 0, 0);
            Check.refused(x, "town", x.town(4), 4);
            Check.due("fault()", x.fault(), 1);
            Check.due("where()", x.where(), 3);
        }
    }

    static void promise02_itIsNotACallThatMayBeRefused() {
        HalfDoors x = new HalfDoors();
        x.undo();
        for (int i = 0; i < 56; i++) {
            x.feed(0, 0, 0, 0, 0);
        }
        Check.due("trouble()", x.trouble(), 6);
    }

    // ---- 3: town

    static void promise03_moreThanTheTapeHas() {
        HalfDoors x = new HalfDoors();
        Check.refused(x, "an empty tape", x.town(1), 2);
        int n = Check.feed(x, BASE + " ".repeat(20 - BASE.length() % 20));
        Check.refused(x, "one more", x.town(n + 1), 2);
        Check.refused(x, "the most", x.town(Integer.MAX_VALUE), 2);
        Check.due("the tape stays", x.size(13), n);
        Check.answers(x, "all of it", x.town(n), 1);
    }

    static void promise03_lessThanNoByte() {
        HalfDoors x = new HalfDoors();
        Check.feed(x, BASE);
        Check.refused(x, "town(-1)", x.town(-1), 2);
        Check.refused(x, "the least", x.town(Integer.MIN_VALUE), 2);
        Check.answers(x, "the tape stays", x.town(BASE.length()), 1);
    }

    static void promise03_noByteIsNoTown() {
        HalfDoors x = new HalfDoors();
        Check.refused(x, "town(0)", x.town(0), 4);
        Check.due("fault()", x.fault(), 1);
        Check.due("where()", x.where(), 0);
        Check.feed(x, BASE);
        Check.refused(x, "town(0) of some", x.town(0), 4);
        Check.due("the tape is empty", x.size(13), 0);
    }

    static void promise03_aWholeFullTape() {
        String name = ";house zzzzzzzz sill 20";
        String text = BASE + name;
        HalfDoors x = Check.town(" ".repeat(1100 - text.length()) + text);
        Check.due("houses", x.size(3), 3);
    }

    static void promise03_bytesBehindAreGone() {
        HalfDoors x = new HalfDoors();
        Check.feed(x, BASE + ";?" + BASE);
        Check.answers(x, "town", x.town(BASE.length()), 1);
        Check.due("the tape is empty", x.size(13), 0);
        Check.refused(x, "nothing is left", x.town(1), 2);
    }

    static void promise03_aNewTapeBeginsAtItsFront() {
        HalfDoors x = new HalfDoors();
        Check.feed(x, "?".repeat(1100));
        x.town(1100);
        Check.answers(x, "town", Check.tell(x, BASE), 1);
    }

    static void promise03_peopleFromOneToSix() {
        for (int people = 1; people <= 6; people++) {
            HalfDoors x = new HalfDoors();
            String text = Told.ONE + Told.lines("person p# adult of a tall 50 upper abc lower ab", people);
            Check.answers(x, "town", Check.tell(x, text), people);
        }
    }

    static void promise03_byAFaultTheTownStays() {
        HalfDoors x = Check.town(Told.LANE + Told.adult("p", 50) + Told.good("g", 5, "a", "b"));
        x.go(0, 1);
        x.hand(0, 1);
        x.hours(13);
        x.image();
        Check.refused(x, "town", Check.tell(x, BASE + ";house c sill 9"), 4);
        Check.due("the tape is empty", x.size(13), 0);
        Check.due("houses", x.size(3), 2);
        Check.due("lanes", x.size(4), 1);
        Check.due("hour", x.size(9), 1);
        Check.due("day", x.size(10), 1);
        Check.due("acts", x.size(11), 3);
        Check.due("images", x.size(12), 1);
        Check.answers(x, "he", x.person(0, 3), 1);
        Check.answers(x, "the good", x.good(0, 2), 1);
        Check.answers(x, "the way", x.way(0, 1), 7);
        Check.answers(x, "undo()", x.undo(), true);
    }

    static void promise03_withoutATownAFaultLeavesNone() {
        HalfDoors x = new HalfDoors();
        Check.tell(x, BASE + ";house c sill 9");
        for (int what = 0; what <= 13; what++) {
            Check.due("size(" + what + ")", x.size(what), 0);
        }
        Check.refused(x, "tells()", x.tells(), 1);
        Check.refused(x, "house(0, 0)", x.house(0, 0), 1);
    }

    static void promise03_aNewTownHasNothingOfTheOldOne() {
        String text = Told.LANE + Told.adult("p", 50) + Told.good("g", 5, "a", "b");
        HalfDoors x = Check.town(text);
        x.go(0, 1);
        x.hand(0, 1);
        x.hours(13);
        x.image();
        Check.answers(x, "the same again", Check.tell(x, text), 1);
        Check.answers(x, "he is at his house", x.person(0, 3), 0);
        Check.answers(x, "the good as told", x.good(0, 2), 0);
        Check.due("hour", x.size(9), 12);
        Check.due("day", x.size(10), 0);
        Check.refused(x, "nothing to undo", x.undo(), 6);
        Check.refused(x, "no images", x.back(0), 1);
        Check.due("images", x.size(12), 0);
    }

    static void promise03_aSmallTownBehindABigOne() {
        String big = Told.HEAD + Told.lines("house # sill 20", 6) + ";lane a b minutes 3;lane b c minutes 3"
                + Told.lines("person p# adult of a tall 50 upper abc lower ab", 6)
                + Told.lines("good g# size 3 at a to b", 5) + Told.lines("visit pa b hour 3", 8)
                + Told.lines("print a ab night 3", 5);
        HalfDoors x = Check.town(big);
        int[] dues = {6, 18, 80, 2, 0, 1, 0, 0, 0, 12, 0, 0, 0, 0};
        // More often than there could be places in which the object holds a town.
        for (int i = 0; i < 4; i++) {
            Check.answers(x, "small", Check.tell(x, BASE), 1);
            for (int what = 0; what <= 13; what++) {
                Check.due("size(" + what + ")", x.size(what), dues[what]);
            }
            Check.answers(x, "no way", x.way(0, 1), -2);
            Check.answers(x, "big", Check.tell(x, big), 6);
        }
    }

    // ---- 3: tokens

    static void promise03_blanksMeanNothing() {
        Check.tells("   " + BASE.replace(";", "   ;   ").replace(" ", "  ") + "    ");
    }

    static void promise03_lettersAndDigitsNeedNoBlanks() {
        Check.tells("town dawn6dusk18door80;house a sill20;person p adult of a tall50upper abc lower ab");
    }

    static void promise03_onlyBlanksPart() {
        for (String sign : new String[] {"\t", "\n", "\r", "\0"}) {
            Check.faultyAt(Told.HEAD + ";house a", sign + "sill 20", 1);
        }
    }

    static void promise03_signsBesideLettersAndDigits() {
        // Those on either side of a to z, 0 to 9 and the semicolon, and capitals.
        for (String sign : new String[] {"`", "{", "/", ":", "<", "A", "Z", "!"}) {
            Check.faultyAt(Told.HEAD + ";house ", sign, 1);
            Check.faultyAt(Told.HEAD + ";house a", sign + " sill 20", 1);
        }
        Check.tells(BASE.replace("house b", "house az"));
        Check.tells(BASE.replace("house b", "house z"));
        Check.tells(BASE + ";visit p a hour 09");
    }

    static void promise03_aWordOfEightLettersAndNotOfNine() {
        Check.tells(BASE + ";house abcdefgh sill 20;lane abcdefgh a minutes 1");
        Check.faultyAt(BASE + ";house ", "abcdefghi sill 20", 1);
        Check.faultyAt(BASE + ";house ", "a".repeat(40), 1);
        Check.faultyAt(BASE + ";person q adult of a tall 50 upper ", "abcdabcda lower ab", 1);
        Check.faultyAt(BASE + ";lane ", "abcdefghi a minutes 3", 1);
    }

    static void promise03_wordsOfEightLettersAreAllOfThemTold() {
        HalfDoors x = Check.town(Told.HEAD + ";house zzzzzzzy sill 20;house zzzzzzzz sill 30;house yzzzzzzz sill 40"
                + ";person p adult of zzzzzzzz tall 50 upper abc lower ab");
        Check.answers(x, "his house", x.person(0, 1), 1);
    }

    static void promise03_aWholeOfThreeDigitsAndNotOfFour() {
        Check.tells(BASE.replace("dawn 6", "dawn 006"));
        Check.faultyAt("town dawn ", "0006 dusk 18", 1);
        Check.faultyAt("town dawn ", "9999999999999999999999 dusk", 1);
        Check.faultyAt("town dawn ", "999", 4);
        Check.faultyAt("town dawn ", "000", 4);
    }

    static void promise03_theEndCutsARunOff() {
        HalfDoors x = new HalfDoors();
        Check.feed(x, BASE + ";visit p a hour 1234567");
        Check.answers(x, "hour 12", x.town(BASE.length() + 18), 1);
        Check.answers(x, "visit(0, 2)", x.visit(0, 2), 12);
        Check.feed(x, BASE + "cdefgh");
        Check.answers(x, "lower ab", x.town(BASE.length()), 1);
        // Also where the tape itself is full.
        Check.feed(x, " ".repeat(1100 - BASE.length()) + BASE);
        Check.answers(x, "at the tape's end", x.town(1100), 1);
    }

    static void promise03_semicolonsStandBetweenLines() {
        Check.faultyAt("", ";" + BASE, 1);
        Check.faultyAt(Told.HEAD + ";", ";house a sill 20", 1);
        Check.faultyAt(BASE + ";", "", 1);
        Check.faultyAt(BASE + "; ", "", 1);
        Check.faultyAt(Told.HEAD + " ", "house a sill 20", 1);
    }

    // ---- 3: bounds; 4 a WHOLE out of bounds, at it

    private static void bound(String ahead, String behind, int least, int most) {
        Check.tells(ahead + least + behind);
        Check.tells(ahead + most + behind);
        Check.faultyAt(ahead, (most + 1) + behind, 4);
        if (least > 0) {
            Check.faultyAt(ahead, (least - 1) + behind, 4);
        }
    }

    static void promise03_dawnFrom4To11() {
        bound("town dawn ", " dusk 18 door 80" + BASE.substring(Told.HEAD.length()), 4, 11);
    }

    static void promise03_duskFrom12To22() {
        bound("town dawn 6 dusk ", " door 80" + BASE.substring(Told.HEAD.length()), 12, 22);
    }

    static void promise03_doorFrom60To120() {
        bound("town dawn 6 dusk 18 door ", BASE.substring(Told.HEAD.length()), 60, 120);
    }

    static void promise03_sillFrom10To59() {
        bound(BASE + ";house c sill ", "", 10, 59);
    }

    static void promise03_minutesFrom1To60() {
        bound(BASE + ";lane a b minutes ", "", 1, 60);
    }

    static void promise03_tallFrom20To99() {
        bound(BASE + ";person q child of a tall ", " upper abc lower ab", 20, 99);
    }

    static void promise03_goodsFrom1To150() {
        bound(BASE + ";good g size ", " at a to b", 1, 150);
    }

    static void promise03_hourFrom0To23() {
        bound(BASE + ";visit p a hour ", "", 0, 23);
    }

    static void promise03_nightFrom0To20() {
        bound(BASE + ";print a ab night ", "", 0, 20);
    }

    // ---- 3: room; 5 MANY, at its first WORD

    private static void room(String ahead, String line, int most) {
        String full = ahead + Told.lines(line, most);
        Check.tells(full);
        Check.faultyAt(full + ";", line.replace('#', 'z'), 5);
        // Whatever stands behind that WORD.
        Check.faultyAt(full + ";", line.substring(0, line.indexOf(' ')) + " ?", 5);
    }

    static void promise03_upToSixHouses() {
        room(Told.HEAD + ";house a sill 20" + Told.adult("p", 50), "house h# sill 20", 5);
    }

    static void promise03_upToNineLanes() {
        String ahead = Told.HEAD + Told.lines("house # sill 20", 6) + Told.adult("p", 50)
                + Told.lines("lane f # minutes 5", 5) + Told.lines("lane # e minutes 5", 4);
        Check.tells(ahead);
        Check.faultyAt(ahead + ";", "lane a b minutes 5", 5);
        Check.faultyAt(ahead + ";", "lane f a minutes 5", 5);
        Check.faultyAt(ahead + ";", "lane", 5);
    }

    static void promise03_upToSixPeople() {
        room(Told.ONE, "person p# adult of a tall 50 upper abc lower ab", 6);
    }

    static void promise03_upToFiveGoods() {
        room(BASE, "good g# size 3 at a to b", 5);
    }

    static void promise03_upToEightVisits() {
        room(BASE, "visit p a hour 3", 8);
    }

    static void promise03_upToFivePrints() {
        room(BASE, "print a ab night 3", 5);
    }

    static void promise03_allThatThereIsRoomFor() {
        String text = "town dawn 4 dusk 22 door 60" + Told.lines("house # sill 59", 6)
                + Told.lines("lane f # minutes 60", 5) + Told.lines("lane # e minutes 1", 4)
                + Told.lines("person p# child of a tall 99 upper ddd lower dd", 6)
                + Told.lines("good g# size 150 at a to f", 5) + Told.lines("visit pf f hour 23", 8)
                + Told.lines("print f dd night 20", 5);
        HalfDoors x = new HalfDoors();
        Check.answers(x, "town", Check.tell(x, text), 6);
        int[] dues = {4, 22, 60, 6, 9, 6, 5, 8, 5, 12, 0, 0, 0, 0};
        for (int what = 0; what <= 13; what++) {
            Check.due("size(" + what + ")", x.size(what), dues[what]);
        }
    }

    // ---- 3: names

    static void promise03_lineWordsAreNoNames() {
        for (String word : LINE_WORDS) {
            Check.faultyAt(BASE + ";house ", word + " sill 20", 1);
            Check.faultyAt(BASE + ";person ", word + " adult", 1);
            Check.faultyAt(BASE + ";good ", word + " size", 1);
            Check.faultyAt(BASE + ";lane ", word, 1);
            Check.faultyAt(BASE + ";lane a ", word, 1);
            Check.faultyAt(BASE + ";person q adult of ", word, 1);
            Check.faultyAt(BASE + ";good g size 3 at ", word, 1);
            Check.faultyAt(BASE + ";good g size 3 at a to ", word, 1);
            Check.faultyAt(BASE + ";visit ", word, 1);
            Check.faultyAt(BASE + ";visit p ", word, 1);
            Check.faultyAt(BASE + ";print ", word, 1);
        }
    }

    static void promise03_allOtherWordsAreNames() {
        for (String word : new String[] {"dawn", "dusk", "door", "sill", "minutes", "adult", "child", "mermaid", "of",
            "tall", "upper", "lower", "size", "at", "to", "hour", "night", "towns", "hous", "abc"}) {
            Check.tells(BASE + ";house " + word + " sill 20;lane " + word + " a minutes 3");
            Check.tells(BASE + ";person " + word + " adult of a tall 50 upper abc lower ab;visit " + word + " a hour 3");
            Check.tells(BASE + ";good " + word + " size 3 at a to b");
        }
    }

    static void promise03_eachNameIsToldOnce() {
        String all = BASE + ";good g size 3 at a to b";
        for (String name : new String[] {"a", "b", "p", "g"}) {
            Check.faultyAt(all + ";house ", name + " sill 20", 3);
            Check.faultyAt(all + ";person ", name + " adult", 3);
            Check.faultyAt(all + ";good ", name + " size 3", 3);
        }
    }

    static void promise03_eachNameIsToldAheadOfItsUse() {
        Check.faultyAt(Told.ONE + ";lane a ", "b minutes 3;house b sill 20", 2);
        Check.faultyAt(Told.ONE + ";visit ", "p a hour 3" + Told.adult("p", 50), 2);
        Check.faultyAt(Told.ONE + ";person q adult of ", "q tall 50", 2);
        Check.faultyAt(BASE + ";good g size 3 at ", "g to a", 2);
    }

    static void promise03_aNameOfAnotherSort() {
        String all = BASE + ";good g size 3 at a to b";
        for (String other : new String[] {"p", "g", "z"}) {
            Check.faultyAt(all + ";lane ", other, 2);
            Check.faultyAt(all + ";lane a ", other, 2);
            Check.faultyAt(all + ";person q adult of ", other, 2);
            Check.faultyAt(all + ";good h size 3 at ", other, 2);
            Check.faultyAt(all + ";good h size 3 at a to ", other, 2);
            Check.faultyAt(all + ";visit p ", other, 2);
            Check.faultyAt(all + ";print ", other, 2);
        }
        for (String other : new String[] {"a", "g", "z"}) {
            Check.faultyAt(all + ";visit ", other + " a hour 3", 2);
        }
    }

    static void promise03_aLaneOfUnlikeHouses() {
        Check.faultyAt(BASE + ";lane a ", "a minutes 3", 3);
        Check.faultyAt(BASE + ";lane b ", "b minutes 99", 3);
    }

    static void promise03_aLaneOnceInWhateverOrder() {
        Check.faultyAt(BASE + ";lane a b minutes 3;lane a ", "b minutes 4", 3);
        Check.faultyAt(BASE + ";lane a b minutes 3;lane b ", "a minutes 3", 3);
    }

    static void promise03_aGoodBetweenUnlikeHouses() {
        Check.faultyAt(BASE + ";good g size 3 at a to ", "a", 3);
        Check.faultyAt(BASE + ";good g size 3 at b to ", "b ?", 3);
    }

    static void promise03_visitsAndPrintsMayBeToldAgain() {
        Check.tells(BASE + Told.visit("p", "a", 3) + Told.visit("p", "a", 3)
                + Told.print("a", "ab", 3) + Told.print("a", "ab", 3));
    }

    static void promise03_aSecondTown() {
        Check.faultyAt(Told.HEAD + ";", "town dawn 6 dusk 18 door 80", 3);
        Check.faultyAt(BASE + ";", "town", 3);
        Check.faultyAt(BASE + ";", "town ?", 3);
    }

    // ---- 3: looks

    static void promise03_aLookAboveOfThreeLetters() {
        String ahead = BASE + ";person q adult of a tall 50 upper ";
        for (String look : new String[] {"a", "ab", "abcd", "abcdabcd"}) {
            Check.faultyAt(ahead, look + " lower ab", 7);
        }
    }

    static void promise03_aLookBelowOfTwoLetters() {
        for (String look : new String[] {"a", "abc", "abcd"}) {
            Check.faultyAt(BASE + ";person q adult of a tall 50 upper abc lower ", look, 7);
            Check.faultyAt(BASE + ";print a ", look + " night 3", 7);
        }
    }

    static void promise03_looksOfLettersAToD() {
        String ahead = BASE + ";person q adult of a tall 50 upper ";
        Check.tells(ahead + "add lower da;print b dd night 3");
        for (String look : new String[] {"eaa", "aea", "aae", "zzz"}) {
            Check.faultyAt(ahead, look + " lower ab", 7);
        }
        for (String look : new String[] {"ea", "ae", "zz"}) {
            Check.faultyAt(ahead + "abc lower ", look, 7);
            Check.faultyAt(BASE + ";print a ", look + " night 3", 7);
        }
    }

    static void promise03_whatIsNoWordIsNoLook() {
        Check.faultyAt(BASE + ";person q adult of a tall 50 upper ", "12 lower ab", 1);
        Check.faultyAt(BASE + ";print a ", ";", 1);
        Check.faultyAt(BASE + ";print a", "", 1);
    }

    // ---- 3: lacks

    static void promise03_anyLineAheadOfTheTown() {
        for (String word : LINE_WORDS) {
            if (!word.equals("town")) {
                Check.faultyAt("  ", word + " ?", 6);
                Check.faultyAt("", word, 6);
            }
        }
        Check.faultyAt("", BASE.substring(Told.HEAD.length() + 1) + ";" + Told.HEAD, 6);
    }

    static void promise03_noHouseAtTheEnd() {
        Check.faultyAt(Told.HEAD, "", 6);
        Check.faultyAt(Told.HEAD + "   ", "", 6);
    }

    static void promise03_noPersonAtTheEnd() {
        Check.faultyAt(Told.TWO + ";lane a b minutes 3" + Told.good("g", 3, "a", "b"), "", 6);
    }

    static void promise03_theLeastTown() {
        HalfDoors x = Check.town(Told.ONE + Told.adult("p", 20));
        int[] dues = {6, 18, 80, 1, 0, 1, 0, 0, 0, 12, 0, 0, 0, 0};
        for (int what = 0; what <= 13; what++) {
            Check.due("size(" + what + ")", x.size(what), dues[what]);
        }
    }

    // ---- 3: which fault

    static void promise03_theFirstFromTheLeft() {
        Check.faultyAt(BASE + ";house c sill ", "5;house a sill 20?", 4);
        Check.faultyAt(BASE + ";person q adult of ", "zz tall 5 upper xyz lower ?", 2);
        Check.faultyAt(BASE + ";person ", "a odd", 3);
        Check.faultyAt(BASE + ";person q adult of a tall 50 upper ", "xyz lower ?", 7);
        Check.faultyAt("", "lane a a minutes 99", 6);
        Check.faultyAt("town dawn ", "3 ?", 4);
    }

    static void promise03_ofOnePlaceTheLeastNumber() {
        // At the end a line is lacking (1), and so are houses and people (6).
        Check.faultyAt(Told.HEAD + ";", "", 1);
        Check.faultyAt("   ", "", 1);
        Check.faultyAt("town dawn 6 dusk 18 door", "", 1);
        // A name that isn't told (2) can't be the house ahead of it (3).
        Check.faultyAt(BASE + ";lane a ", "q", 2);
    }

    static void promise03_everyTokenOfEveryLineMustStand() {
        String[] ends = {"", ";house c sill 20", ";lane a b minutes 3", ";person q mermaid of b tall 50 upper abc lower ab",
            ";good g size 3 at a to b", ";visit p a hour 3", ";print a ab night 3"};
        for (String end : ends) {
            String[] parts = (BASE + end).replace(";", " ; ").split(" ");
            StringBuilder ahead = new StringBuilder();
            for (int i = 0; i + 1 < parts.length; i++) {
                ahead.append(parts[i]).append(' ');
                // No TOWN goes on with a second semicolon, or with this sign, anywhere.
                Check.faultyAt(ahead.toString(), "?", 1);
                if (!parts[i + 1].equals(";")) {
                    Check.faultyAt(ahead.toString(), "; " + parts[i + 1], 1);
                }
            }
        }
    }

    // ---- 4: fault

    static void promise04_zeroWithoutOne() {
        HalfDoors x = new HalfDoors();
        Check.due("a new object", x.fault(), 0);
        Check.tell(x, BASE);
        Check.due("a town", x.fault(), 0);
    }

    static void promise04_allSeven() {
        String[] texts = {"?", BASE + ";visit q", BASE + ";house a", BASE + ";house c sill 9", "",
            "house", BASE + ";print a zz"};
        texts[4] = Told.HEAD + Told.lines("house # sill 20", 7);
        HalfDoors x = new HalfDoors();
        for (int i = 0; i < 7; i++) {
            Check.refused(x, texts[i], Check.tell(x, texts[i]), 4);
            Check.due("fault()", x.fault(), i + 1);
        }
    }

    static void promise04_aTownRefusedByANumberLeavesIt() {
        HalfDoors x = new HalfDoors();
        Check.tell(x, "house");
        x.town(-1);
        Check.due("the one ahead", x.fault(), 6);
        Check.tell(x, BASE);
        x.town(-1);
        Check.due("none ahead", x.fault(), 0);
    }

    static void promise04_aTownWithoutOneEndsIt() {
        HalfDoors x = new HalfDoors();
        Check.tell(x, "house");
        Check.tell(x, BASE);
        Check.due("fault()", x.fault(), 0);
    }

    static void promise04_otherCallsLeaveIt() {
        HalfDoors x = Check.town(BASE);
        Check.tell(x, "house");
        x.light(3);
        x.light(33);
        x.hours(1);
        Check.due("fault()", x.fault(), 6);
    }

    // ---- 5: where

    static void promise05_noneWithoutOne() {
        HalfDoors x = new HalfDoors();
        Check.due("a new object", x.where(), -1);
        Check.tell(x, BASE);
        Check.due("a town", x.where(), -1);
    }

    static void promise05_fromTheFirstByteToTheEnd() {
        Check.faultyAt("", "?", 1);
        Check.faultyAt(BASE, "?", 1);
        Check.faultyAt(" ".repeat(1099), "?", 1);
        Check.faultyAt(" ".repeat(1100), "", 1);
    }

    static void promise05_callsThatMayNotBeRefusedLeaveIt() {
        HalfDoors x = new HalfDoors();
        Check.tell(x, "   house");
        x.feed(0, 0, 0, 0, 0);
        x.fault();
        x.where();
        x.size(99);
        x.trouble();
        Check.throwsNoSuch(x, 0);
        Check.due("where()", x.where(), 3);
    }

    static void promise05_anyOtherCallEndsIt() {
        HalfDoors x = Check.town(BASE);
        Check.tell(x, "   house");
        x.light(3);
        Check.due("one that is answered", x.where(), -1);
        Check.tell(x, "   house");
        Check.due("again", x.where(), 3);
        x.light(33);
        Check.due("one that is refused", x.where(), -1);
        Check.tell(x, "   house");
        x.town(-1);
        Check.due("a town refused by a number", x.where(), -1);
        Check.due("whose fault stays", x.fault(), 6);
    }
}

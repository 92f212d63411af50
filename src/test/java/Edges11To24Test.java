/** The edges that promises 11 to 24 name, a test for each. */
public final class Edges11To24Test {
    private static final int LEAST = Integer.MIN_VALUE;
    private static final int MOST = Integer.MAX_VALUE;
    private static final int[] NO_HOURS = {-1, 24, LEAST, MOST};
    // Two people, two houses: 2 is none such of either.
    private static final int[] NOT_OF_TWO = {-1, 2, 6, LEAST, MOST};
    private static final String PAIR = Told.TWO + Told.adult("p", 50) + Told.adult("q", 50);
    private static final String MERMAID = ";person q mermaid of a tall 50 upper abc lower ab";

    public static void main(String[] args) throws Exception {
        Each.run(Edges11To24Test.class);
    }

    private static HalfDoors over(int sill, int height) {
        return Check.town(Told.HEAD + ";house a sill " + sill + Told.adult("p", height));
    }

    // ---- 11: seen

    static void promise11_aMarkAsHighAsTheSillIsNotSeen() {
        int[][] dues = {{50, 0}, {51, 1}, {60, 1}, {61, 3}, {70, 3}, {71, 7}, {49, 0}, {99, 7}};
        for (int[] due : dues) {
            HalfDoors x = over(50, due[0]);
            Check.answers(x, "of " + due[0], x.seen(0, 0, 12), due[1]);
        }
    }

    static void promise11_theLowestAndTheHighestSill() {
        Check.due("20 over 10", over(10, 20).seen(0, 0, 12), 1);
        Check.due("31 over 10", over(10, 31).seen(0, 0, 12), 7);
        Check.due("99 over 59", over(59, 99).seen(0, 0, 12), 7);
        Check.due("59 over 59", over(59, 59).seen(0, 0, 12), 0);
        Check.due("20 over 59", over(59, 20).seen(0, 0, 12), 0);
    }

    static void promise11_byNightAll() {
        HalfDoors x = over(59, 20);
        for (int hour : new int[] {0, 5, 18, 23}) {
            Check.answers(x, "at " + hour, x.seen(0, 0, hour), 31);
        }
        for (int hour : new int[] {6, 17}) {
            Check.answers(x, "at " + hour, x.seen(0, 0, hour), 0);
        }
    }

    static void promise11_byNightNotThoseBelowOfAMermaid() {
        HalfDoors x = Check.town(Told.HEAD + ";house a sill 59" + MERMAID + Told.child("k", "a", 20));
        Check.answers(x, "a mermaid", x.seen(0, 0, 0), 7);
        Check.answers(x, "a child", x.seen(1, 0, 0), 31);
        Check.answers(x, "a mermaid by day", x.seen(0, 0, 12), 0);
    }

    static void promise11_nobodyAndNoHouseSuch() {
        HalfDoors x = Check.town(PAIR);
        for (int none : NOT_OF_TWO) {
            Check.refused(x, "p " + none, x.seen(none, 0, 12), 1);
            Check.refused(x, "h " + none, x.seen(0, none, 12), 1);
        }
    }

    static void promise11_aNumberIsRefusedBehindThat() {
        HalfDoors x = Check.town(PAIR);
        for (int hour : NO_HOURS) {
            Check.refused(x, "hour " + hour, x.seen(0, 0, hour), 2);
            Check.refused(x, "nobody, hour " + hour, x.seen(2, 0, hour), 1);
            Check.refused(x, "no house, hour " + hour, x.seen(0, 2, hour), 1);
        }
    }

    // ---- 12: taken

    static void promise12_notForHimself() {
        HalfDoors x = Check.town(Told.ONE + Told.adult("p", 50));
        Check.answers(x, "alone", x.taken(0, 0, 12), 0);
        Check.answers(x, "by night", x.taken(0, 0, 0), 0);
        x = Check.town(Told.ONE + Told.lines("person p# adult of a tall 50 upper abc lower ab", 6));
        for (int p = 0; p < 6; p++) {
            Check.answers(x, "taken(" + p + ", 0, 12)", x.taken(p, 0, 12), 63 - (1 << p));
            Check.answers(x, "taken(" + p + ", 0, 0)", x.taken(p, 0, 0), 63 - (1 << p));
        }
    }

    static void promise12_ofWhomNothingIsSeen() {
        HalfDoors x = Check.town(Told.HEAD + ";house a sill 59;person p adult of a tall 30 upper aaa lower aa"
                + ";person q child of a tall 59 upper bbb lower bb;person r adult of a tall 60 upper aaa lower aa");
        Check.answers(x, "no mark of both", x.taken(0, 0, 12), 2);
        Check.answers(x, "one mark of him", x.taken(2, 0, 12), 0);
    }

    static void promise12_theSameMarksMustBeSeen() {
        // Alike in all, but over a sill of 20 two marks of 40 and three of 41 are seen.
        HalfDoors x = Check.town(Told.ONE + Told.adult("p", 40) + Told.adult("q", 41) + Told.adult("r", 31));
        Check.answers(x, "two", x.taken(0, 0, 12), 4);
        Check.answers(x, "three", x.taken(1, 0, 12), 0);
        Check.answers(x, "by night", x.taken(0, 0, 0), 6);
    }

    static void promise12_onlyWhatIsSeenMustBeAlike() {
        HalfDoors x = Check.town(Told.ONE + ";person p adult of a tall 40 upper abc lower ab"
                + ";person q adult of a tall 40 upper abd lower cd;person r adult of a tall 40 upper adc lower ab");
        Check.answers(x, "the third isn't seen", x.taken(0, 0, 12), 2);
        Check.answers(x, "by night it is", x.taken(0, 0, 0), 0);
    }

    static void promise12_belowByNight() {
        HalfDoors x = Check.town(Told.ONE + MERMAID + ";person r mermaid of a tall 90 upper abc lower dd"
                + Told.adult("s", 50) + ";person t adult of a tall 90 upper abc lower ab"
                + ";person u adult of a tall 90 upper abc lower ac");
        Check.answers(x, "mermaids for each other", x.taken(0, 0, 0), 2);
        Check.answers(x, "others by their feet", x.taken(2, 0, 0), 8);
        Check.answers(x, "unlike feet", x.taken(4, 0, 0), 0);
    }

    static void promise12_refusals() {
        HalfDoors x = Check.town(PAIR);
        for (int none : NOT_OF_TWO) {
            Check.refused(x, "p " + none, x.taken(none, 0, 12), 1);
            Check.refused(x, "h " + none, x.taken(0, none, 24), 1);
        }
        for (int hour : NO_HOURS) {
            Check.refused(x, "hour " + hour, x.taken(0, 0, hour), 2);
        }
    }

    // ---- 13: pairs

    static void promise13_fromNoneToAll() {
        HalfDoors x = Check.town(Told.ONE + Told.adult("p", 50));
        Check.answers(x, "one alone", x.pairs(0, 12), 0);
        x = Check.town(PAIR);
        Check.answers(x, "two", x.pairs(0, 12), 1);
        x = Check.town(Told.ONE + Told.lines("person p# adult of a tall 50 upper abc lower ab", 6));
        Check.answers(x, "six", x.pairs(0, 12), 15);
        Check.answers(x, "six by night", x.pairs(0, 0), 15);
    }

    static void promise13_refusals() {
        HalfDoors x = Check.town(PAIR);
        for (int none : NOT_OF_TWO) {
            Check.refused(x, "h " + none, x.pairs(none, 12), 1);
            Check.refused(x, "h " + none + ", no hour", x.pairs(none, 24), 1);
        }
        for (int hour : NO_HOURS) {
            Check.refused(x, "hour " + hour, x.pairs(1, hour), 2);
        }
    }

    // ---- 14: knownAt

    static void promise14_noneAndAllHouses() {
        String houses = Told.HEAD + Told.lines("house # sill 20", 6);
        HalfDoors x = Check.town(houses + Told.adult("p", 50));
        Check.answers(x, "alone in the town", x.knownAt(0), 63);
        x = Check.town(houses + Told.adult("p", 50) + Told.adult("q", 50));
        Check.answers(x, "with his double", x.knownAt(1), 0);
    }

    static void promise14_byDayAlone() {
        HalfDoors x = Check.town(Told.ONE + ";person p adult of a tall 50 upper abc lower ab"
                + ";person q adult of a tall 50 upper abc lower cd");
        Check.answers(x, "his feet aren't seen", x.knownAt(0), 0);
        x.hours(12);
        Check.answers(x, "it being night now", x.knownAt(0), 0);
    }

    static void promise14_nobodySuch() {
        HalfDoors x = Check.town(PAIR);
        for (int none : NOT_OF_TWO) {
            Check.refused(x, "p " + none, x.knownAt(none), 1);
        }
    }

    // ---- 15: fine

    static void promise15_halfOfHisHeightDownwards() {
        int[][] dues = {{40, 0}, {41, 0}, {42, 1}, {43, 1}, {44, 2}, {39, 0}, {20, 0}, {99, 29}};
        for (int[] due : dues) {
            HalfDoors x = over(20, due[0]);
            Check.answers(x, "of " + due[0], x.fine(0, 0, 12), due[1]);
        }
    }

    static void promise15_theMost() {
        Check.due("99 over 10", over(10, 99).fine(0, 0, 12), 39);
        Check.due("98 over 10", over(10, 98).fine(0, 0, 12), 39);
        Check.due("99 over 49", over(49, 99).fine(0, 0, 12), 0);
        Check.due("99 over 48", over(48, 99).fine(0, 0, 12), 1);
    }

    static void promise15_byDayAlone() {
        HalfDoors x = over(20, 60);
        Check.answers(x, "ahead of dawn", x.fine(0, 0, 5), 0);
        Check.answers(x, "dawn", x.fine(0, 0, 6), 10);
        Check.answers(x, "ahead of dusk", x.fine(0, 0, 17), 10);
        Check.answers(x, "dusk", x.fine(0, 0, 18), 0);
    }

    static void promise15_notForAChild() {
        HalfDoors x = Check.town(Told.ONE + Told.child("k", "a", 99) + MERMAID);
        Check.answers(x, "a child", x.fine(0, 0, 12), 0);
        Check.answers(x, "a mermaid", x.fine(1, 0, 12), 5);
    }

    static void promise15_refusals() {
        HalfDoors x = Check.town(PAIR);
        for (int none : NOT_OF_TWO) {
            Check.refused(x, "p " + none, x.fine(none, 0, 24), 1);
            Check.refused(x, "h " + none, x.fine(0, none, 24), 1);
        }
        for (int hour : NO_HOURS) {
            Check.refused(x, "hour " + hour, x.fine(0, 0, hour), 2);
        }
    }

    // ---- 16: visit

    static void promise16_noSuchVisit() {
        HalfDoors x = Check.town(PAIR);
        Check.refused(x, "there are none", x.visit(0, 0), 1);
        x = Check.town(PAIR + Told.visit("p", "a", 3) + Told.visit("q", "b", 4));
        Check.answers(x, "the last one", x.visit(1, 2), 4);
        for (int none : NOT_OF_TWO) {
            Check.refused(x, "v " + none, x.visit(none, 0), 1);
        }
    }

    static void promise16_noSuchThing() {
        HalfDoors x = Check.town(PAIR + Told.visit("p", "a", 3));
        for (int what : new int[] {-1, 5, LEAST, MOST}) {
            Check.refused(x, "what " + what, x.visit(0, what), 1);
        }
    }

    static void promise16_theHourTurnsDayAndNight() {
        HalfDoors x = Check.town(Told.ONE + Told.adult("p", 60) + Told.visit("p", "a", 5) + Told.visit("p", "a", 6)
                + Told.visit("p", "a", 17) + Told.visit("p", "a", 18));
        int[] seen = {31, 7, 7, 31};
        int[] fines = {0, 10, 10, 0};
        for (int v = 0; v < 4; v++) {
            Check.answers(x, "SEEN at " + v, x.visit(v, 3), seen[v]);
            Check.answers(x, "FINE of " + v, x.visit(v, 4), fines[v]);
        }
    }

    static void promise16_asToldWhateverIsNow() {
        HalfDoors x = Check.town(Told.LANE + Told.adult("p", 60) + Told.visit("p", "a", 12));
        x.go(0, 1);
        x.hours(10);
        Check.answers(x, "its house", x.visit(0, 1), 0);
        Check.answers(x, "its hour", x.visit(0, 2), 12);
        Check.answers(x, "its FINE", x.visit(0, 4), 10);
    }

    // ---- 17: fines

    static void promise17_noVisits() {
        HalfDoors x = Check.town(PAIR + Told.visit("p", "a", 12));
        Check.answers(x, "one who visits nobody", x.fines(1), 0);
        x = Check.town(PAIR);
        Check.answers(x, "no visits at all", x.fines(0), 0);
    }

    static void promise17_theMost() {
        HalfDoors x = Check.town(Told.HEAD + ";house a sill 10" + Told.adult("p", 99)
                + Told.lines("visit p a hour 12", 8));
        Check.answers(x, "eight of 39", x.fines(0), 312);
    }

    static void promise17_nobodySuch() {
        HalfDoors x = Check.town(PAIR);
        for (int none : NOT_OF_TWO) {
            Check.refused(x, "p " + none, x.fines(none), 1);
        }
    }

    // ---- 18: bares

    static void promise18_theThirdMarkJustAboveTheSill() {
        HalfDoors x = Check.town(Told.ONE + Told.adult("p", 40) + Told.adult("q", 41) + Told.visit("p", "a", 12)
                + Told.visit("q", "a", 12));
        Check.answers(x, "20 over 20", x.bares(0), 0);
        Check.answers(x, "21 over 20", x.bares(1), 2);
    }

    static void promise18_byNightEverybody() {
        HalfDoors x = Check.town(Told.HEAD + ";house a sill 59" + Told.child("k", "a", 20) + MERMAID
                + Told.visit("k", "a", 18) + Told.visit("q", "a", 5) + Told.visit("k", "a", 17)
                + Told.visit("q", "a", 6));
        Check.answers(x, "a child", x.bares(0), 1);
        Check.answers(x, "a mermaid, by her third mark", x.bares(1), 2);
    }

    static void promise18_fromNoneToAllVisits() {
        HalfDoors x = Check.town(PAIR + Told.lines("visit p a hour 0", 8));
        Check.answers(x, "all eight", x.bares(0), 255);
        Check.answers(x, "none of his", x.bares(1), 0);
    }

    static void promise18_nobodySuch() {
        HalfDoors x = Check.town(PAIR);
        for (int none : NOT_OF_TWO) {
            Check.refused(x, "p " + none, x.bares(none), 1);
        }
    }

    // ---- 19: met

    static void promise19_himselfAlone() {
        HalfDoors x = Check.town(PAIR + Told.visit("p", "a", 12) + Told.visit("q", "b", 12) + Told.visit("q", "a", 13)
                + Told.visit("p", "a", 11));
        int[] dues = {1, 2, 2, 1};
        for (int v = 0; v < 4; v++) {
            Check.answers(x, "met(" + v + ")", x.met(v), dues[v]);
        }
    }

    static void promise19_everybody() {
        HalfDoors x = Check.town(Told.ONE + Told.lines("person p# adult of a tall 50 upper abc lower ab", 6)
                + Told.lines("visit p# a hour 23", 6) + Told.visit("pa", "a", 23) + Told.visit("pf", "a", 23));
        for (int v = 0; v < 8; v++) {
            Check.answers(x, "met(" + v + ")", x.met(v), 63);
        }
    }

    static void promise19_noSuchVisit() {
        HalfDoors x = Check.town(PAIR + Told.visit("p", "a", 3) + Told.visit("q", "b", 4));
        for (int none : NOT_OF_TWO) {
            Check.refused(x, "v " + none, x.met(none), 1);
        }
        x = Check.town(PAIR);
        Check.refused(x, "there are none", x.met(0), 1);
    }

    // ---- 20: busiest

    static void promise20_noVisits() {
        HalfDoors x = Check.town(PAIR);
        Check.answers(x, "busiest()", x.busiest(), -2);
    }

    static void promise20_theFirstAndTheLastHour() {
        HalfDoors x = Check.town(PAIR + Told.visit("p", "a", 0));
        Check.answers(x, "0", x.busiest(), 0);
        x = Check.town(PAIR + Told.visit("p", "a", 23));
        Check.answers(x, "23", x.busiest(), 23);
    }

    static void promise20_theFirstOfLikeOnes() {
        HalfDoors x = Check.town(PAIR + Told.visit("p", "a", 23) + Told.visit("p", "b", 1) + Told.visit("q", "a", 23)
                + Told.visit("q", "a", 1) + Told.visit("q", "a", 0));
        Check.answers(x, "two at 1, two at 23", x.busiest(), 1);
    }

    static void promise20_noTown() {
        HalfDoors x = new HalfDoors();
        Check.refused(x, "busiest()", x.busiest(), 1);
    }

    // ---- 21: apart

    static void promise21_oneAndTheSame() {
        HalfDoors x = Check.town(PAIR);
        Check.refused(x, "apart(0, 0)", x.apart(0, 0), 1);
        Check.refused(x, "apart(1, 1)", x.apart(1, 1), 1);
    }

    static void promise21_nobodySuch() {
        HalfDoors x = Check.town(PAIR);
        for (int none : NOT_OF_TWO) {
            Check.refused(x, "p " + none, x.apart(none, 0), 1);
            Check.refused(x, "q " + none, x.apart(1, none), 1);
        }
    }

    static void promise21_noneAndAllHouses() {
        String houses = Told.HEAD + Told.lines("house # sill 20", 6);
        HalfDoors x = Check.town(houses + Told.adult("p", 50) + Told.adult("q", 50)
                + ";person r adult of a tall 50 upper bbc lower ab");
        Check.answers(x, "doubles", x.apart(0, 1), 0);
        Check.answers(x, "unlike", x.apart(0, 2), 63);
        Check.answers(x, "the other way", x.apart(2, 0), 63);
    }

    static void promise21_byDayAlone() {
        HalfDoors x = Check.town(Told.ONE + ";person p adult of a tall 50 upper abc lower ab"
                + ";person q mermaid of a tall 50 upper abc lower cd");
        x.hours(12);
        Check.answers(x, "whatever is below", x.apart(0, 1), 0);
    }

    // ---- 22: tells

    private static int tellsOf(String... looks) {
        StringBuilder s = new StringBuilder(Told.ONE);
        for (int p = 0; p < looks.length; p++) {
            s.append(";person p").append((char) ('a' + p)).append(" adult of a tall 50 upper ").append(looks[p])
                    .append(" lower ab");
        }
        return Check.town(s.toString()).tells();
    }

    static void promise22_oneAloneNeedsNone() {
        Check.due("tells()", tellsOf("abc"), 0);
    }

    static void promise22_eachPlaceAlone() {
        Check.due("the first", tellsOf("abc", "bbc"), 1);
        Check.due("the second", tellsOf("abc", "acc"), 2);
        Check.due("the third", tellsOf("abc", "abd"), 4);
    }

    static void promise22_fewestAheadOfLeastBits() {
        // The first two places tell (3), but so does the third alone (4).
        Check.due("tells()", tellsOf("aaa", "abb", "bac"), 4);
    }

    static void promise22_ofLikeOnesTheLeastBits() {
        Check.due("each alone", tellsOf("aaa", "bbb"), 1);
        Check.due("the second or the third", tellsOf("aaa", "abb"), 2);
        Check.due("any two", tellsOf("aaa", "abb", "bab"), 3);
        // Alike in the first two are the second and the third, so first and third.
        Check.due("first and third, second and third", tellsOf("aaa", "bba", "bbb"), 5);
    }

    static void promise22_twoPlaces() {
        Check.due("second and third", tellsOf("aaa", "aab", "aba", "abb"), 6);
    }

    static void promise22_allThree() {
        Check.due("tells()", tellsOf("aaa", "aab", "aba", "baa"), 7);
    }

    static void promise22_allThreeDont() {
        Check.due("doubles", tellsOf("abc", "abc"), -2);
        Check.due("the first and the last", tellsOf("abc", "bbb", "ccc", "ddd", "aaa", "abc"), -2);
    }

    static void promise22_whateverIsBelowOrHowTallTheyAre() {
        HalfDoors x = Check.town(Told.ONE + ";person p adult of a tall 50 upper abc lower ab"
                + ";person q child of a tall 90 upper abc lower cd");
        Check.answers(x, "tells()", x.tells(), -2);
    }

    static void promise22_noTown() {
        HalfDoors x = new HalfDoors();
        Check.refused(x, "tells()", x.tells(), 1);
    }

    // ---- 23: another

    static void promise23_sillsFrom10To59() {
        HalfDoors x = Check.town(PAIR);
        Check.answers(x, "another(10)", x.another(10), 0);
        Check.answers(x, "another(59)", x.another(59), 0);
        for (int sill : new int[] {9, 60, 0, -1, LEAST, MOST}) {
            Check.refused(x, "another(" + sill + ")", x.another(sill), 2);
        }
    }

    static void promise23_inPlaceOfEachThatIsLower() {
        // Halves of 30: 10 over sill 20, 5 over sill 25.
        HalfDoors x = Check.town(Told.ONE + ";house b sill 25" + Told.adult("p", 60) + Told.visit("p", "a", 12)
                + Told.visit("p", "b", 12) + Told.visit("p", "a", 0));
        int[][] dues = {{10, 15}, {20, 15}, {21, 14}, {25, 10}, {26, 8}, {29, 2}, {30, 0}, {59, 0}};
        for (int[] due : dues) {
            Check.answers(x, "another(" + due[0] + ")", x.another(due[0]), due[1]);
        }
    }

    static void promise23_eightVisitsAndThenNone() {
        String text = Told.HEAD + ";house a sill 10" + Told.adult("p", 99);
        HalfDoors x = Check.town(text + Told.lines("visit p a hour 12", 8));
        Check.answers(x, "eight of 39", x.another(10), 312);
        Check.answers(x, "eight of 1", x.another(48), 8);
        // The object may hold the visits of two towns, but they are none of this one's.
        Check.tell(x, text + Told.lines("visit p a hour 12", 8));
        Check.tell(x, text);
        Check.answers(x, "none", x.another(10), 0);
        Check.answers(x, "nor a sill above the least", x.leastSill(), 10);
    }

    static void promise23_noVisits() {
        HalfDoors x = Check.town(Told.ONE + Told.adult("p", 99));
        Check.answers(x, "another(10)", x.another(10), 0);
    }

    static void promise23_noTownIsRefusedAheadOfTheNumber() {
        HalfDoors x = new HalfDoors();
        Check.refused(x, "another(20)", x.another(20), 1);
        Check.refused(x, "another(60)", x.another(60), 1);
    }

    // ---- 24: leastSill

    static void promise24_tenWithoutFines() {
        HalfDoors x = Check.town(Told.ONE + Told.adult("p", 99));
        Check.answers(x, "no visits", x.leastSill(), 10);
        x = Check.town(Told.ONE + Told.adult("p", 99) + Told.visit("p", "a", 0));
        Check.answers(x, "by night", x.leastSill(), 10);
        x = Check.town(Told.HEAD + ";house a sill 49" + Told.adult("p", 99) + Told.visit("p", "a", 12));
        Check.answers(x, "a sill that is high enough", x.leastSill(), 10);
    }

    static void promise24_asHighAsHalfOfTheTallest() {
        int[][] dues = {{42, 21}, {43, 21}, {98, 49}, {99, 49}, {41, 10}};
        for (int[] due : dues) {
            HalfDoors x = Check.town(Told.ONE + Told.adult("p", due[0]) + Told.visit("p", "a", 12));
            Check.answers(x, "of " + due[0], x.leastSill(), due[1]);
        }
    }

    static void promise24_noTown() {
        HalfDoors x = new HalfDoors();
        Check.refused(x, "leastSill()", x.leastSill(), 1);
    }
}

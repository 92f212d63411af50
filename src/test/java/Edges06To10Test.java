/** The edges that promises 6 to 10 name, a test for each. */
public final class Edges06To10Test {
    private static final int LEAST = Integer.MIN_VALUE;
    private static final int MOST = Integer.MAX_VALUE;

    public static void main(String[] args) throws Exception {
        Each.run(Edges06To10Test.class);
    }

    // ---- 6: house

    static void promise06_noSuchHouse() {
        HalfDoors x = Check.town(Told.TWO + Told.adult("p", 50));
        Check.answers(x, "the last one", x.house(1, 0), 20);
        for (int h : new int[] {-1, 2, 5, 6, LEAST, MOST}) {
            Check.refused(x, "house(" + h + ", 0)", x.house(h, 0), 1);
        }
    }

    static void promise06_noSuchThing() {
        HalfDoors x = Check.town(Told.TWO + Told.adult("p", 50));
        Check.answers(x, "house(0, 3)", x.house(0, 3), 0);
        for (int what : new int[] {-1, 4, LEAST, MOST}) {
            Check.refused(x, "house(0, " + what + ")", x.house(0, what), 1);
        }
    }

    static void promise06_theLeastAndTheMostGap() {
        HalfDoors x = Check.town("town dawn 6 dusk 18 door 60;house a sill 59;house b sill 10" + Told.adult("p", 50));
        Check.answers(x, "59 of 60", x.house(0, 1), 1);
        Check.answers(x, "10 of 60", x.house(1, 1), 50);
        x = Check.town("town dawn 6 dusk 18 door 120;house a sill 59;house b sill 10" + Told.adult("p", 50));
        Check.answers(x, "59 of 120", x.house(0, 1), 61);
        Check.answers(x, "10 of 120", x.house(1, 1), 110);
    }

    static void promise06_nobodyAndEverybodyThere() {
        HalfDoors x = Check.town(Told.LANE + Told.lines("person p# adult of a tall 50 upper abc lower ab", 6));
        Check.answers(x, "everybody", x.house(0, 2), 63);
        Check.answers(x, "nobody", x.house(1, 2), 0);
        x.go(5, 1);
        Check.answers(x, "but one", x.house(0, 2), 31);
        Check.answers(x, "the last one", x.house(1, 2), 32);
    }

    static void promise06_noneAndAllGoodsThere() {
        HalfDoors x = Check.town(Told.LANE + Told.adult("p", 50) + Told.lines("good g# size 3 at a to b", 5));
        Check.answers(x, "all", x.house(0, 3), 31);
        Check.answers(x, "none", x.house(1, 3), 0);
        x.hand(4, 1);
        Check.answers(x, "but one", x.house(0, 3), 15);
        Check.answers(x, "the last one", x.house(1, 3), 16);
    }

    // ---- 7: person

    static void promise07_noSuchPerson() {
        HalfDoors x = Check.town(Told.ONE + Told.adult("p", 50));
        Check.answers(x, "the last one", x.person(0, 2), 50);
        for (int p : new int[] {-1, 1, 6, LEAST, MOST}) {
            Check.refused(x, "person(" + p + ", 0)", x.person(p, 0), 1);
        }
    }

    static void promise07_noSuchThing() {
        HalfDoors x = Check.town(Told.ONE + Told.adult("p", 50));
        Check.answers(x, "person(0, 4)", x.person(0, 4), 0);
        for (int what : new int[] {-1, 5, LEAST, MOST}) {
            Check.refused(x, "person(0, " + what + ")", x.person(0, what), 1);
        }
    }

    static void promise07_eachKind() {
        HalfDoors x = Check.town(Told.ONE + Told.adult("p", 99) + Told.child("k", "a", 99)
                + ";person q mermaid of a tall 99 upper abc lower ab");
        for (int kind = 0; kind < 3; kind++) {
            Check.answers(x, "person(" + kind + ", 0)", x.person(kind, 0), kind);
        }
    }

    static void promise07_aThirdOfHisHeightDownwards() {
        int[][] dues = {{20, 6}, {21, 7}, {29, 9}, {30, 10}, {98, 32}, {99, 33}};
        for (int[] due : dues) {
            HalfDoors x = Check.town(Told.ONE + Told.child("k", "a", due[0]));
            Check.answers(x, "of " + due[0], x.person(0, 4), due[1]);
        }
    }

    static void promise07_zeroForNoChild() {
        HalfDoors x = Check.town(Told.ONE + Told.adult("p", 99) + ";person q mermaid of a tall 99 upper abc lower ab");
        Check.answers(x, "an adult", x.person(0, 4), 0);
        Check.answers(x, "a mermaid", x.person(1, 4), 0);
    }

    static void promise07_hisHouseAndWhereHeIsNow() {
        HalfDoors x = Check.town(Told.LANE + Told.adult("p", 50));
        x.go(0, 1);
        Check.answers(x, "his house", x.person(0, 1), 0);
        Check.answers(x, "now", x.person(0, 3), 1);
    }

    // ---- 8: mark

    static void promise08_noSuchMark() {
        HalfDoors x = Check.town(Told.ONE + Told.adult("p", 50));
        for (int i : new int[] {-1, 5, LEAST, MOST}) {
            Check.refused(x, "mark(0, " + i + ")", x.mark(0, i), 1);
        }
    }

    static void promise08_nobodySuch() {
        HalfDoors x = Check.town(Told.ONE + Told.adult("p", 50));
        for (int p : new int[] {-1, 1, LEAST, MOST}) {
            Check.refused(x, "mark(" + p + ", 0)", x.mark(p, 0), 1);
        }
    }

    static void promise08_everyLetterAtEveryPlace() {
        for (int i = 0; i < 5; i++) {
            for (int letter = 0; letter < 4; letter++) {
                char[] looks = "aaaaa".toCharArray();
                looks[i] = (char) ('a' + letter);
                String told = new String(looks);
                HalfDoors x = Check.town(Told.ONE + ";person p adult of a tall 50 upper " + told.substring(0, 3)
                        + " lower " + told.substring(3));
                for (int j = 0; j < 5; j++) {
                    Check.answers(x, told + " at " + j, x.mark(0, j), i == j ? letter : 0);
                }
            }
        }
    }

    // ---- 9: good

    static void promise09_noSuchGood() {
        HalfDoors x = Check.town(Told.TWO + Told.adult("p", 50));
        Check.refused(x, "there are none", x.good(0, 0), 1);
        x = Check.town(Told.TWO + Told.adult("p", 50) + Told.good("g", 3, "a", "b"));
        for (int g : new int[] {-1, 1, LEAST, MOST}) {
            Check.refused(x, "good(" + g + ", 0)", x.good(g, 0), 1);
        }
    }

    static void promise09_noSuchThing() {
        HalfDoors x = Check.town(Told.TWO + Told.adult("p", 50) + Told.good("g", 3, "a", "b"));
        Check.answers(x, "good(0, 3)", x.good(0, 3), 1);
        for (int what : new int[] {-1, 4, LEAST, MOST}) {
            Check.refused(x, "good(0, " + what + ")", x.good(0, what), 1);
        }
    }

    private static int piecesOf(int door, int sill, int bulk) {
        return Check.town("town dawn 6 dusk 18 door " + door + ";house a sill 10;house b sill " + sill
                + Told.adult("p", 50) + Told.good("g", bulk, "a", "b")).good(0, 3);
    }

    static void promise09_asBigAsTheGapPasses() {
        Check.due("of 20", piecesOf(60, 40, 20), 1);
        Check.due("of 21", piecesOf(60, 40, 21), 2);
        Check.due("of 40", piecesOf(60, 40, 40), 2);
        Check.due("of 41", piecesOf(60, 40, 41), 3);
    }

    static void promise09_aGapOfOne() {
        Check.due("of 1", piecesOf(60, 59, 1), 1);
        Check.due("of 2", piecesOf(60, 59, 2), 2);
        Check.due("of 150", piecesOf(60, 59, 150), 150);
    }

    static void promise09_aGapAsBigAsAny() {
        // 110 at both: 150 is cut in two of 75.
        Check.due("of 110", piecesOf(120, 10, 110), 1);
        Check.due("of 111", piecesOf(120, 10, 111), 2);
        Check.due("of 150", piecesOf(120, 10, 150), 2);
    }

    static void promise09_bothHousesCount() {
        String houses = "town dawn 6 dusk 18 door 60;house a sill 50;house b sill 10";
        HalfDoors x = Check.town(houses + Told.adult("p", 50) + Told.good("g", 20, "a", "b")
                + Told.good("h", 20, "b", "a"));
        Check.answers(x, "where it lay", x.good(0, 3), 2);
        Check.answers(x, "where it must go", x.good(1, 3), 2);
    }

    static void promise09_whereverItLiesNow() {
        HalfDoors x = Check.town("town dawn 6 dusk 18 door 60;house a sill 10;house b sill 10;house c sill 59"
                + ";lane a c minutes 1" + Told.adult("p", 50) + Told.good("g", 50, "a", "b"));
        x.hours(12);
        Check.answers(x, "by night", x.hand(0, 2), true);
        Check.answers(x, "it lies there", x.good(0, 2), 2);
        Check.answers(x, "pieces", x.good(0, 3), 1);
    }

    // ---- 10: light

    static void promise10_hoursFrom0To23() {
        HalfDoors x = Check.town(Told.ONE + Told.adult("p", 50));
        Check.answers(x, "light(0)", x.light(0), 0);
        Check.answers(x, "light(23)", x.light(23), 0);
        for (int hour : new int[] {-1, 24, LEAST, MOST}) {
            Check.refused(x, "light(" + hour + ")", x.light(hour), 2);
        }
    }

    static void promise10_fromDawnToTheHourAheadOfDusk() {
        for (int dawn = 4; dawn <= 11; dawn++) {
            for (int dusk = 12; dusk <= 22; dusk++) {
                HalfDoors x = Check.town("town dawn " + dawn + " dusk " + dusk + " door 80;house a sill 20"
                        + Told.adult("p", 50));
                Check.answers(x, "ahead of dawn", x.light(dawn - 1), 0);
                Check.answers(x, "dawn", x.light(dawn), 1);
                Check.answers(x, "ahead of dusk", x.light(dusk - 1), 1);
                Check.answers(x, "dusk", x.light(dusk), 0);
            }
        }
    }

    static void promise10_noTownIsRefusedAheadOfTheHour() {
        HalfDoors x = new HalfDoors();
        Check.refused(x, "light(12)", x.light(12), 1);
        Check.refused(x, "light(24)", x.light(24), 1);
    }
}

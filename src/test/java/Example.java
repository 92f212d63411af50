/** Tells a small town and asks it; README.md shows this program and what it prints. */
public final class Example {
    public static void main(String[] args) {
        HalfDoors x = new HalfDoors();
        int n = feed(x, "town dawn 6 dusk 18 door 80;house a sill 20;house b sill 40;lane a b minutes 10;"
                + "person m adult of a tall 66 upper abc lower ab;person k child of a tall 45 upper abc lower cd;"
                + "good f size 12 at a to b;visit m b hour 9;print b ab night 1");
        if (x.town(n) == HalfDoors.NONE) {
            System.out.println("trouble " + x.trouble() + ", fault " + x.fault() + " at " + x.where());
            return;
        }
        System.out.println("at house 1 by day marks " + x.seen(0, 1, 9) + " of person 0 are seen");
        System.out.println("at house 0 by day person 0 is taken for those of bits " + x.taken(0, 0, 9));
        System.out.println("there person 0 is fined " + x.fine(0, 0, 9));
        System.out.println("the goods are carried in " + x.carried() + " minutes, good 0 by person " + x.carrier(0));
        System.out.println("print 0 is surely person " + x.surely(0) + "'s");
        int image = x.image();
        System.out.println("handed on: " + x.hand(0, 1) + ", so good " + x.led(0) + " is where it must go");
        System.out.println("six hours on it is hour " + x.hours(6) + ", and light is " + x.light(x.size(9)));
        System.out.println("undone: " + x.undo() + ", so it is hour " + x.size(9));
        System.out.println("gone back: " + x.back(image) + ", so good 0 lies at house " + x.good(0, 2));
        System.out.println("there is no house 2: " + x.house(2, 0) + ", trouble " + x.trouble());
    }

    /** Feeds a text twenty bytes a call, four to a number, the highest first; answers how many it is. */
    static int feed(HalfDoors x, String text) {
        for (int from = 0; from < text.length(); from += 20) {
            int[] numbers = new int[5];
            for (int i = 0; i < 20; i++) {
                // Blanks fill up the last twenty; town(n) leaves them out.
                int sign = from + i < text.length() ? text.charAt(from + i) : ' ';
                numbers[i / 4] = numbers[i / 4] << 8 | sign;
            }
            x.feed(numbers[0], numbers[1], numbers[2], numbers[3], numbers[4]);
        }
        return text.length();
    }
}

import java.util.NoSuchElementException;
import java.util.Random;

/** Whatever the arguments and the state: no call throws, but led() where the document says so. */
public final class NeverThrowsTest {
    private static final int[] EDGES = {
        Integer.MIN_VALUE, Integer.MIN_VALUE + 1, -65537, -100, -2, -1, 0, 1, 2, 3, 4, 5, 6, 7, 8, 9, 10, 11, 12, 13,
        14, 16, 17, 20, 21, 23, 24, 25, 31, 32, 59, 60, 1100, 1101, 65536, 65537, Integer.MAX_VALUE
    };
    private static Random r;

    public static void main(String[] args) {
        r = new Random(99);
        for (int i = 0; i < 3000; i++) {
            HalfDoors x = new HalfDoors();
            for (int n = 0; n < 300; n++) {
                call(x, r.nextInt(53));
            }
        }
        Check.end("NeverThrowsTest");
    }

    private static int any() {
        return r.nextInt(4) == 0 ? r.nextInt() : EDGES[r.nextInt(EDGES.length)];
    }

    private static void call(HalfDoors x, int which) {
        try {
            int got = which < 26 ? early(x, which) : late(x, which);
            Check.due("an answer of " + which + " below -2", got < -2 && which != 37, false);
            Check.due("trouble of " + which, x.trouble() >= 0 && x.trouble() <= 6, true);
        } catch (NoSuchElementException e) {
            Check.due("only led throws", which, 48);
        } catch (RuntimeException e) {
            Check.due(which + " threw " + e, 1, 0);
        }
    }

    private static int early(HalfDoors x, int which) {
        switch (which) {
            case 0: return x.feed(any(), any(), any(), any(), any());
            case 1: return x.town(any());
            case 2: return x.fault();
            case 3: return x.where();
            case 4: return x.house(any(), any());
            case 5: return x.person(any(), any());
            case 6: return x.mark(any(), any());
            case 7: return x.good(any(), any());
            case 8: return x.light(any());
            case 9: return x.seen(any(), any(), any());
            case 10: return x.taken(any(), any(), any());
            case 11: return x.pairs(any(), any());
            case 12: return x.knownAt(any());
            case 13: return x.fine(any(), any(), any());
            case 14: return x.visit(any(), any());
            case 15: return x.fines(any());
            case 16: return x.bares(any());
            case 17: return x.met(any());
            case 18: return x.busiest();
            case 19: return x.apart(any(), any());
            case 20: return x.tells();
            case 21: return x.another(any());
            case 22: return x.leastSill();
            case 23: return x.way(any(), any());
            case 24: return x.wayAt(any(), any(), any());
            default: return x.carried();
        }
    }

    private static int late(HalfDoors x, int which) {
        switch (which) {
            case 26: return x.carrier(any());
            case 27: return x.alone(any());
            case 28: return x.stuck();
            case 29: return x.hands(any());
            case 30: return x.round(any());
            case 31: return x.pieces();
            case 32: return x.fits();
            case 33: return x.could(any());
            case 34: return x.surely(any());
            case 35: return x.ask();
            case 36: return x.rests();
            case 37: return x.shop(any(), any(), r.nextBoolean());
            case 38: return x.rest();
            case 39: return x.day(any());
            case 40: return x.dayOf(any(), any(), any());
            case 41: return x.go(any(), any());
            case 42: return x.hand(any(), any()) ? 1 : 0;
            case 43: return x.hours(any());
            case 44: return x.undo() ? 1 : 0;
            case 45: return x.image();
            case 46: return x.back(any()) ? 1 : 0;
            case 47: return x.size(any());
            case 48: return x.led(any());
            case 49: return tellAny(x);
            case 50: return tellAny(x);
            case 51: return x.hours(1 + r.nextInt(24));
            default: return x.trouble();
        }
    }

    private static int tellAny(HalfDoors x) {
        String text = Plain.draw(r).text();
        if (r.nextInt(4) == 0) {
            text = text.substring(r.nextInt(3), r.nextInt(text.length() - 3) + 3);
        }
        x.town(x.size(13));
        return text.length() <= 1100 ? Check.tell(x, text) : 0;
    }
}

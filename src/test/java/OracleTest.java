import java.util.List;
import java.util.Random;

/** Towns by draws: all answers are those that trying everything gives. */
public final class OracleTest {
    private static HalfDoors x;
    private static Plain t;
    private static String text;

    public static void main(String[] args) {
        Random r = new Random(20261118);
        for (int i = 0; i < 1500; i++) {
            t = Plain.draw(r);
            while (t.text().length() > 1100) {
                t = Plain.draw(r);
            }
            text = t.text();
            // Towns told to one object one behind the other leave nothing behind.
            if (i % 8 == 0) {
                x = new HalfDoors();
            } else if (i % 3 == 0) {
                Check.tell(x, text + ";house");
            }
            is("town", Check.tell(x, text), t.people.size());
            // The same questions in another order: no answer leans on an earlier call.
            int first = r.nextInt(9);
            for (int part = 0; part < 9; part++) {
                ask((first + part) % 9, r);
            }
            acts(r);
        }
        Check.end("OracleTest");
    }

    private static void ask(int part, Random r) {
        switch (part) {
            case 0:
                told();
                break;
            case 1:
                seen();
                break;
            case 2:
                visits();
                break;
            case 3:
                sills();
                break;
            case 4:
                lanes();
                break;
            case 5:
                goods();
                break;
            case 6:
                prints();
                break;
            case 7:
                shops();
                break;
            default:
                days(r);
        }
    }

    private static String of(String call) {
        return call + " of " + text;
    }

    private static void is(String call, int got, int want) {
        Check.answers(x, of(call), got, want);
    }

    private static void told() {
        int[] sizes = {t.dawn, t.dusk, t.door, t.sills.size(), t.lanes.size(), t.people.size(), t.goods.size(),
            t.visits.size(), t.prints.size(), t.hour, t.day, t.past.size(), t.images.size(), 0, -1};
        for (int what = 0; what < sizes.length; what++) {
            Check.due(of("size(" + what + ")"), x.size(what), sizes[what]);
        }
        for (int h = 0; h < t.sills.size(); h++) {
            is("house(" + h + ", 0)", x.house(h, 0), t.sills.get(h));
            is("house(" + h + ", 1)", x.house(h, 1), t.door - t.sills.get(h));
        }
        for (int p = 0; p < t.people.size(); p++) {
            for (int what = 0; what < 3; what++) {
                is("person(" + p + ", " + what + ")", x.person(p, what), t.people.get(p)[what]);
            }
            is("person(" + p + ", 4)", x.person(p, 4), t.people.get(p)[0] == 1 ? t.people.get(p)[2] / 3 : 0);
            for (int i = 0; i < 5; i++) {
                is("mark(" + p + ", " + i + ")", x.mark(p, i), t.looks.get(p).charAt(i) - 'a');
            }
        }
        now();
    }

    private static void now() {
        for (int h = 0; h < t.sills.size(); h++) {
            int bits = 0;
            for (int p = 0; p < t.at.length; p++) {
                bits |= t.at[p] == h ? 1 << p : 0;
            }
            is("house(" + h + ", 2)", x.house(h, 2), bits);
            bits = 0;
            for (int g = 0; g < t.lie.length; g++) {
                bits |= t.lie[g] == h ? 1 << g : 0;
            }
            is("house(" + h + ", 3)", x.house(h, 3), bits);
        }
        for (int p = 0; p < t.at.length; p++) {
            is("person(" + p + ", 3)", x.person(p, 3), t.at[p]);
        }
        int led = 0;
        for (int g = 0; g < t.lie.length; g++) {
            is("good(" + g + ", 2)", x.good(g, 2), t.lie[g]);
            if (t.lie[g] == t.goods.get(g)[2]) {
                Check.due(of("led(" + led + ")"), x.led(led), g);
                led++;
            }
        }
        Check.throwsNoSuch(x, led);
        Check.throwsNoSuch(x, -1);
        Check.due(of("size(9)"), x.size(9), t.hour);
        Check.due(of("size(10)"), x.size(10), t.day);
        Check.due(of("size(11)"), x.size(11), t.past.size());
        Check.due(of("size(12)"), x.size(12), t.images.size());
    }

    private static void seen() {
        for (int hour = 0; hour < 24; hour++) {
            boolean light = t.light(hour);
            is("light(" + hour + ")", x.light(hour), light ? 1 : 0);
        }
        for (int hour : new int[] {0, t.dawn - 1, t.dawn, t.dusk - 1, t.dusk}) {
            boolean light = t.light(hour);
            for (int h = 0; h < t.sills.size(); h++) {
                int pairs = 0;
                for (int p = 0; p < t.people.size(); p++) {
                    String at = "(" + p + ", " + h + ", " + hour + ")";
                    int taken = t.taken(p, h, light);
                    is("seen" + at, x.seen(p, h, hour), t.seenOver(p, t.sills.get(h), light));
                    is("taken" + at, x.taken(p, h, hour), taken);
                    is("fine" + at, x.fine(p, h, hour), t.fine(p, t.sills.get(h), light));
                    pairs += Integer.bitCount(taken >> p);
                }
                is("pairs(" + h + ", " + hour + ")", x.pairs(h, hour), pairs);
            }
        }
        for (int p = 0; p < t.people.size(); p++) {
            int known = 0;
            for (int h = 0; h < t.sills.size(); h++) {
                known |= t.taken(p, h, true) == 0 ? 1 << h : 0;
            }
            is("knownAt(" + p + ")", x.knownAt(p), known);
            for (int q = 0; q < t.people.size(); q++) {
                int apart = 0;
                for (int h = 0; h < t.sills.size(); h++) {
                    apart |= t.takenFor(p, q, t.sills.get(h), true) ? 0 : 1 << h;
                }
                if (p != q) {
                    is("apart(" + p + ", " + q + ")", x.apart(p, q), apart);
                }
            }
        }
        is("tells()", x.tells(), t.tells());
    }

    private static void visits() {
        int[] fines = new int[t.people.size()];
        int[] bares = new int[t.people.size()];
        int[] busy = new int[24];
        for (int v = 0; v < t.visits.size(); v++) {
            int[] one = t.visits.get(v);
            boolean light = t.light(one[2]);
            int bits = t.seenOver(one[0], t.sills.get(one[1]), light);
            int fine = t.fine(one[0], t.sills.get(one[1]), light);
            fines[one[0]] += fine;
            bares[one[0]] |= (bits & 4) + (bits & 8) + (bits & 16) > 0 ? 1 << v : 0;
            busy[one[2]]++;
            int[] dues = {one[0], one[1], one[2], bits, fine};
            for (int what = 0; what < 5; what++) {
                is("visit(" + v + ", " + what + ")", x.visit(v, what), dues[what]);
            }
            int met = 0;
            for (int[] other : t.visits) {
                met |= other[1] == one[1] && other[2] == one[2] ? 1 << other[0] : 0;
            }
            is("met(" + v + ")", x.met(v), met);
        }
        for (int p = 0; p < fines.length; p++) {
            is("fines(" + p + ")", x.fines(p), fines[p]);
            is("bares(" + p + ")", x.bares(p), bares[p]);
        }
        int first = 0;
        for (int hour = 1; hour < 24; hour++) {
            first = busy[hour] > busy[first] ? hour : first;
        }
        is("busiest()", x.busiest(), t.visits.isEmpty() ? -2 : first);
    }

    private static void sills() {
        int least = -2;
        for (int sill = 59; sill >= 10; sill--) {
            is("another(" + sill + ")", x.another(sill), t.another(sill));
            least = t.another(sill) == 0 ? sill : least;
        }
        is("leastSill()", x.leastSill(), least);
    }

    private static void lanes() {
        for (int h = 0; h < t.sills.size(); h++) {
            for (int g = 0; g < t.sills.size(); g++) {
                List<Integer> way = t.way(h, g);
                is("way(" + h + ", " + g + ")", x.way(h, g), way == null ? -2 : t.minutes(way));
                int length = way == null ? 0 : way.size();
                for (int i = 0; i < length; i++) {
                    is("wayAt(" + h + ", " + g + ", " + i + ")", x.wayAt(h, g, i), way.get(i));
                }
                Check.refused(x, of("wayAt(" + h + ", " + g + ", " + length + ")"), x.wayAt(h, g, length), 1);
            }
            is("round(" + h + ")", x.round(h), t.round(h));
        }
    }

    private static void goods() {
        int all = 0;
        for (int g = 0; g < t.goods.size(); g++) {
            is("good(" + g + ", 0)", x.good(g, 0), t.goods.get(g)[0]);
            is("good(" + g + ", 1)", x.good(g, 1), t.goods.get(g)[2]);
            is("good(" + g + ", 3)", x.good(g, 3), t.pieces(g));
            is("hands(" + g + ")", x.hands(g), t.hands(g));
            all += t.pieces(g);
        }
        is("pieces()", x.pieces(), all);
        is("stuck()", x.stuck(), t.stuck());
        int[] best = t.carried();
        is("carried()", x.carried(), best == null ? -2 : best[0]);
        for (int g = 0; g < t.goods.size(); g++) {
            if (best == null) {
                Check.refused(x, of("carrier(" + g + ")"), x.carrier(g), 6);
            } else {
                boolean there = t.lie[g] == t.goods.get(g)[2];
                is("carrier(" + g + ")", x.carrier(g), there ? -2 : best[g + 1]);
            }
        }
        for (int p = 0; p < t.people.size(); p++) {
            if (t.people.get(p)[0] == 1) {
                is("alone(" + p + ")", x.alone(p), t.alone(p));
            } else {
                Check.refused(x, of("alone(" + p + ")"), x.alone(p), 1);
            }
        }
    }

    private static void prints() {
        if (t.prints.isEmpty()) {
            Check.refused(x, of("fits()"), x.fits(), 6);
            Check.refused(x, of("ask()"), x.ask(), 6);
            Check.refused(x, of("could(0)"), x.could(0), 1);
            return;
        }
        List<int[]> rows = t.rows();
        is("fits()", x.fits(), rows.size());
        int ask = -2;
        int least = Integer.MAX_VALUE;
        for (int k = 0; k < t.prints.size(); k++) {
            int[] by = new int[t.people.size()];
            for (int[] row : rows) {
                by[row[k]]++;
            }
            int could = 0;
            int most = 0;
            int surely = -2;
            for (int p = 0; p < by.length; p++) {
                could |= by[p] > 0 ? 1 << p : 0;
                most = Math.max(most, by[p]);
                surely = by[p] > 0 && by[p] == rows.size() ? p : surely;
            }
            if (!rows.isEmpty() && most < least) {
                least = most;
                ask = k;
            }
            is("could(" + k + ")", x.could(k), could);
            is("surely(" + k + ")", x.surely(k), surely);
        }
        is("ask()", x.ask(), ask);
    }

    private static void shops() {
        for (int one = 0; one < 6; one++) {
            for (int other = 0; other < 6; other++) {
                is("shop(" + one + ", " + other + ", false)", x.shop(one, other, false), t.shop(one, other)[0]);
                is("shop(" + one + ", " + other + ", true)", x.shop(one, other, true), t.shop(one, other)[1]);
            }
        }
        List<Integer> rests = t.rests();
        is("rests()", x.rests(), rests.size());
        is("rest()", x.rest(), rests.isEmpty() ? -2 : rests.get(0));
    }

    private static void days(Random r) {
        for (int seed : new int[] {0, 65536, r.nextInt(65537)}) {
            int sum = 0;
            for (int fine : t.days(seed, 1)) {
                sum += fine;
            }
            is("day(" + seed + ")", x.day(seed), sum);
            int p = r.nextInt(t.people.size());
            int n = 1 + r.nextInt(20);
            is("dayOf(" + p + ", " + seed + ", " + n + ")", x.dayOf(p, seed, n), t.days(seed, n)[p]);
        }
    }

    private static void acts(Random r) {
        for (int i = 0; i < 60; i++) {
            int act = r.nextInt(20);
            if (act < 6) {
                int p = r.nextInt(t.people.size());
                int h = r.nextInt(t.sills.size());
                int far = t.far(t.at[p], h);
                if (t.go(p, h)) {
                    is("go(" + p + ", " + h + ")", x.go(p, h), far);
                } else {
                    Check.refused(x, of("go(" + p + ", " + h + ")"), x.go(p, h), 5);
                }
            } else if (act < 13 && !t.goods.isEmpty()) {
                int g = r.nextInt(t.goods.size());
                int h = r.nextInt(t.sills.size());
                if (t.hand(g, h)) {
                    Check.answers(x, of("hand(" + g + ", " + h + ")"), x.hand(g, h), true);
                } else {
                    Check.refused(x, of("hand(" + g + ", " + h + ")"), x.hand(g, h), 5);
                }
            } else if (act < 16) {
                int n = 1 + r.nextInt(24);
                t.hours(n);
                is("hours(" + n + ")", x.hours(n), t.hour);
            } else {
                undoOrImage(r, act);
            }
            now();
            if (i % 20 == 0) {
                goods();
            }
        }
        visits();
        seen();
    }

    private static void undoOrImage(Random r, int act) {
        if (act < 18) {
            if (t.undo()) {
                Check.answers(x, of("undo()"), x.undo(), true);
            } else {
                Check.refused(x, of("undo()"), x.undo(), 6);
            }
        } else if (act == 18) {
            if (t.images.size() < 3) {
                is("image()", x.image(), t.images.size());
                t.image();
            } else {
                Check.refused(x, of("image()"), x.image(), 3);
            }
        } else {
            int i = r.nextInt(4);
            if (i < t.images.size()) {
                t.back(i);
                Check.answers(x, of("back(" + i + ")"), x.back(i), true);
            } else {
                Check.refused(x, of("back(" + i + ")"), x.back(i), 1);
            }
        }
    }
}

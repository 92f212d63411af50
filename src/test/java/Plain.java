import java.util.ArrayDeque;
import java.util.ArrayList;
import java.util.Arrays;
import java.util.List;
import java.util.Random;

/** A town made by draws, and the document's terms worked out by trying everything: slow, and unlike the class. */
final class Plain {
    int dawn, dusk, door;
    List<Integer> sills = new ArrayList<>();
    List<int[]> lanes = new ArrayList<>();
    List<int[]> people = new ArrayList<>();
    List<String> looks = new ArrayList<>();
    List<int[]> goods = new ArrayList<>();
    List<int[]> visits = new ArrayList<>();
    List<int[]> prints = new ArrayList<>();
    List<String> feet = new ArrayList<>();

    int[] at, lie;
    int hour = 12, day = 0;
    List<int[]> past = new ArrayList<>();
    List<int[]> images = new ArrayList<>();

    static Plain draw(Random r) {
        Plain t = new Plain();
        t.dawn = 4 + r.nextInt(8);
        t.dusk = 12 + r.nextInt(11);
        t.door = 60 + r.nextInt(61);
        int houses = 1 + r.nextInt(6);
        for (int h = 0; h < houses; h++) {
            t.sills.add(10 + r.nextInt(50));
        }
        t.drawLanes(r, houses);
        int letters = 1 + r.nextInt(4);
        int count = 1 + r.nextInt(6);
        int childless = r.nextInt(4);
        for (int p = 0; p < count; p++) {
            int kind = childless == 0 ? r.nextInt(3) : r.nextInt(4) == 0 ? r.nextInt(3) : 1;
            t.people.add(new int[] {kind, r.nextInt(houses), 20 + r.nextInt(80)});
            t.looks.add(look(r, 3, letters) + look(r, 2, Math.min(2, letters)));
        }
        for (int g = r.nextInt(6); g > 0 && houses > 1; g--) {
            int from = r.nextInt(houses);
            int size = r.nextInt(3) == 0 ? 1 + r.nextInt(150) : 1 + r.nextInt(25);
            t.goods.add(new int[] {size, from, (from + 1 + r.nextInt(houses - 1)) % houses});
        }
        for (int v = r.nextInt(9); v > 0; v--) {
            t.visits.add(new int[] {r.nextInt(count), r.nextInt(houses), r.nextInt(24) / 3 * 3});
        }
        for (int k = r.nextInt(6); k > 0; k--) {
            t.prints.add(new int[] {r.nextInt(houses), r.nextInt(3)});
            t.feet.add(look(r, 2, Math.min(2, letters)));
        }
        t.at = new int[count];
        for (int p = 0; p < count; p++) {
            t.at[p] = t.people.get(p)[1];
        }
        t.lie = new int[t.goods.size()];
        for (int g = 0; g < t.lie.length; g++) {
            t.lie[g] = t.goods.get(g)[1];
        }
        return t;
    }

    private void drawLanes(Random r, int houses) {
        int tries = r.nextInt(14);
        int longest = 1 + r.nextInt(r.nextBoolean() ? 4 : 60);
        for (int i = 0; i < tries && lanes.size() < 9; i++) {
            int a = r.nextInt(houses);
            int b = r.nextInt(houses);
            if (a != b && lane(a, b) == 0) {
                lanes.add(new int[] {a, b, 1 + r.nextInt(longest)});
            }
        }
    }

    private static String look(Random r, int length, int letters) {
        StringBuilder s = new StringBuilder();
        for (int i = 0; i < length; i++) {
            s.append((char) ('a' + r.nextInt(letters)));
        }
        return s.toString();
    }

    String text() {
        StringBuilder s = new StringBuilder("town dawn " + dawn + " dusk " + dusk + " door " + door);
        for (int h = 0; h < sills.size(); h++) {
            s.append(";house h").append((char) ('a' + h)).append(" sill ").append(sills.get(h));
        }
        for (int[] l : lanes) {
            s.append(";lane h").append((char) ('a' + l[0])).append(" h").append((char) ('a' + l[1]))
                    .append(" minutes ").append(l[2]);
        }
        String[] kinds = {"adult", "child", "mermaid"};
        for (int p = 0; p < people.size(); p++) {
            int[] one = people.get(p);
            s.append(";person p").append((char) ('a' + p)).append(" ").append(kinds[one[0]]).append(" of h")
                    .append((char) ('a' + one[1])).append(" tall ").append(one[2]).append(" upper ")
                    .append(looks.get(p), 0, 3).append(" lower ").append(looks.get(p), 3, 5);
        }
        for (int g = 0; g < goods.size(); g++) {
            int[] one = goods.get(g);
            s.append(";good g").append((char) ('a' + g)).append(" size ").append(one[0]).append(" at h")
                    .append((char) ('a' + one[1])).append(" to h").append((char) ('a' + one[2]));
        }
        for (int[] v : visits) {
            s.append(";visit p").append((char) ('a' + v[0])).append(" h").append((char) ('a' + v[1]))
                    .append(" hour ").append(v[2]);
        }
        for (int k = 0; k < prints.size(); k++) {
            s.append(";print h").append((char) ('a' + prints.get(k)[0])).append(" ").append(feet.get(k))
                    .append(" night ").append(prints.get(k)[1]);
        }
        return s.toString();
    }

    int lane(int a, int b) {
        for (int[] l : lanes) {
            if (l[0] == a && l[1] == b || l[0] == b && l[1] == a) {
                return l[2];
            }
        }
        return 0;
    }

    boolean light(int hour) {
        return dawn <= hour && hour < dusk;
    }

    // ---- what is seen

    int seenOver(int p, int sill, boolean light) {
        int bits = 0;
        for (int i = 0; i < 5; i++) {
            boolean is;
            if (i < 3) {
                is = !light || people.get(p)[2] - 10 * i > sill;
            } else {
                is = !light && people.get(p)[0] != 2;
            }
            bits |= is ? 1 << i : 0;
        }
        return bits;
    }

    boolean takenFor(int p, int q, int sill, boolean light) {
        if (seenOver(p, sill, light) != seenOver(q, sill, light)) {
            return false;
        }
        String one = "";
        String other = "";
        for (int i = 0; i < 5; i++) {
            if ((seenOver(p, sill, light) & 1 << i) != 0) {
                one += looks.get(p).charAt(i);
                other += looks.get(q).charAt(i);
            }
        }
        return one.equals(other);
    }

    int taken(int p, int h, boolean light) {
        int bits = 0;
        for (int q = 0; q < people.size(); q++) {
            bits |= q != p && takenFor(p, q, sills.get(h), light) ? 1 << q : 0;
        }
        return bits;
    }

    int fine(int p, int sill, boolean light) {
        int legs = people.get(p)[2] / 2;
        return light && legs > sill && people.get(p)[0] != 1 ? legs - sill : 0;
    }

    int another(int sill) {
        int sum = 0;
        for (int[] v : visits) {
            int old = sills.get(v[1]);
            sum += fine(v[0], old < sill ? sill : old, light(v[2]));
        }
        return sum;
    }

    int tells() {
        for (int places : new int[] {0, 1, 2, 4, 3, 5, 6, 7}) {
            boolean alike = false;
            for (int p = 0; p < people.size(); p++) {
                for (int q = 0; q < p; q++) {
                    boolean same = true;
                    for (int i = 0; i < 3; i++) {
                        same &= (places & 1 << i) == 0 || looks.get(p).charAt(i) == looks.get(q).charAt(i);
                    }
                    alike |= same;
                }
            }
            if (!alike) {
                return places;
            }
        }
        return -2;
    }

    // ---- lanes, goods

    /** The way by trying all simple ways, the first by numbers first; null if there is none. */
    List<Integer> way(int h, int g) {
        List<Integer> best = new ArrayList<>();
        List<Integer> path = new ArrayList<>();
        path.add(h);
        walk(path, g, best);
        return best.isEmpty() ? null : best;
    }

    private void walk(List<Integer> path, int g, List<Integer> best) {
        int last = path.get(path.size() - 1);
        if (last == g) {
            if (best.isEmpty() || minutes(path) < minutes(best)) {
                best.clear();
                best.addAll(path);
            }
            return;
        }
        for (int next = 0; next < sills.size(); next++) {
            if (!path.contains(next) && lane(last, next) > 0) {
                path.add(next);
                walk(path, g, best);
                path.remove(path.size() - 1);
            }
        }
    }

    int minutes(List<Integer> path) {
        int sum = 0;
        for (int i = 1; i < path.size(); i++) {
            sum += lane(path.get(i - 1), path.get(i));
        }
        return sum;
    }

    private int[][] far;

    int far(int h, int g) {
        if (far == null) {
            far = new int[sills.size()][sills.size()];
            for (int[] row : far) {
                Arrays.fill(row, -5);
            }
        }
        if (far[h][g] == -5) {
            List<Integer> way = way(h, g);
            far[h][g] = way == null ? -2 : minutes(way);
        }
        return far[h][g];
    }

    boolean carries(int p, int g) {
        return people.get(p)[0] == 1 && goods.get(g)[0] <= people.get(p)[2] / 3
                && far(people.get(p)[1], lie[g]) >= 0 && far(lie[g], goods.get(g)[2]) >= 0;
    }

    /** The fewest minutes of one child for some goods, all orders tried. */
    int lead(int from, List<Integer> load) {
        int best = load.isEmpty() ? 0 : Integer.MAX_VALUE;
        for (int i = 0; i < load.size(); i++) {
            List<Integer> left = new ArrayList<>(load);
            int g = left.remove(i);
            int to = goods.get(g)[2];
            best = Math.min(best, far(from, lie[g]) + far(lie[g], to) + lead(to, left));
        }
        return best;
    }

    /** Minutes, then each good's child: all ways to give goods to children tried; null if some can't be. */
    int[] carried() {
        int n = goods.size();
        int[] best = null;
        int all = 1;
        for (int g = 0; g < n; g++) {
            all *= people.size();
        }
        int[][] known = new int[people.size()][1 << n];
        for (int code = 0; code < all; code++) {
            int[] who = new int[n + 1];
            int left = code;
            for (int g = n - 1; g >= 0; g--) {
                who[g + 1] = left % people.size();
                left /= people.size();
            }
            if (fill(who, known) && (best == null || who[0] < best[0])) {
                best = who;
            }
        }
        return best;
    }

    private boolean fill(int[] who, int[][] known) {
        int latest = 0;
        for (int g = 0; g < goods.size(); g++) {
            if (lie[g] != goods.get(g)[2] && !carries(who[g + 1], g)) {
                return false;
            }
        }
        for (int p = 0; p < people.size(); p++) {
            List<Integer> load = new ArrayList<>();
            int bits = 0;
            for (int g = 0; g < goods.size(); g++) {
                if (lie[g] != goods.get(g)[2] && who[g + 1] == p) {
                    load.add(g);
                    bits |= 1 << g;
                }
            }
            if (!load.isEmpty()) {
                if (known[p][bits] == 0) {
                    known[p][bits] = lead(people.get(p)[1], load);
                }
                latest = Math.max(latest, known[p][bits]);
            }
        }
        who[0] = latest;
        return true;
    }

    int alone(int p) {
        List<Integer> load = new ArrayList<>();
        for (int g = 0; g < goods.size(); g++) {
            if (lie[g] != goods.get(g)[2] && carries(p, g)) {
                load.add(g);
            }
        }
        return lead(people.get(p)[1], load);
    }

    int stuck() {
        int bits = 0;
        for (int g = 0; g < goods.size(); g++) {
            boolean can = lie[g] == goods.get(g)[2];
            for (int p = 0; p < people.size(); p++) {
                can |= carries(p, g);
            }
            bits |= can ? 0 : 1 << g;
        }
        return bits;
    }

    boolean passes(int g, int h) {
        return goods.get(g)[0] <= door - sills.get(h);
    }

    int hands(int g) {
        int[] steps = new int[sills.size()];
        Arrays.fill(steps, -2);
        steps[lie[g]] = 0;
        ArrayDeque<Integer> open = new ArrayDeque<>();
        open.add(lie[g]);
        while (!open.isEmpty()) {
            int h = open.remove();
            for (int next = 0; next < sills.size(); next++) {
                if (steps[next] == -2 && lane(h, next) > 0 && passes(g, h) && passes(g, next)) {
                    steps[next] = steps[h] + 1;
                    open.add(next);
                }
            }
        }
        return steps[goods.get(g)[2]];
    }

    int round(int start, int at, List<Integer> left) {
        if (left.isEmpty()) {
            return far(at, start);
        }
        int best = Integer.MAX_VALUE;
        for (int i = 0; i < left.size(); i++) {
            List<Integer> others = new ArrayList<>(left);
            int next = others.remove(i);
            best = Math.min(best, far(at, next) + round(start, next, others));
        }
        return best;
    }

    int round(int h) {
        List<Integer> left = new ArrayList<>();
        for (int g = 0; g < sills.size(); g++) {
            if (g != h && far(h, g) >= 0) {
                left.add(g);
            }
        }
        return round(h, h, left);
    }

    int pieces(int g) {
        int[] one = goods.get(g);
        int gap = Math.min(door - sills.get(one[1]), door - sills.get(one[2]));
        int cut = 1;
        while ((one[0] + cut - 1) / cut > gap) {
            cut++;
        }
        return cut;
    }

    // ---- prints

    List<int[]> rows() {
        List<int[]> rows = new ArrayList<>();
        int all = 1;
        for (int k = 0; k < prints.size(); k++) {
            all *= people.size();
        }
        for (int code = 0; code < all; code++) {
            int[] row = new int[prints.size()];
            int left = code;
            for (int k = 0; k < row.length; k++) {
                row[k] = left % people.size();
                left /= people.size();
            }
            if (fit(row)) {
                rows.add(row);
            }
        }
        return rows;
    }

    private boolean fit(int[] row) {
        for (int k = 0; k < row.length; k++) {
            int[] one = people.get(row[k]);
            if (one[0] == 2 || one[1] == prints.get(k)[0] || !looks.get(row[k]).endsWith(feet.get(k))) {
                return false;
            }
            for (int j = 0; j < k; j++) {
                if (row[j] == row[k] && prints.get(j)[1] == prints.get(k)[1]) {
                    return false;
                }
            }
        }
        return true;
    }

    // ---- shops, days

    int[] shop(int one, int other) {
        int[] come = new int[2];
        int even = 0;
        for (int p = 0; p < people.size(); p++) {
            int a = Integer.bitCount(seenOver(p, 10 + 10 * one, true));
            int b = Integer.bitCount(seenOver(p, 10 + 10 * other, true));
            if (a == b) {
                even++;
            } else {
                come[a > b ? 0 : 1]++;
            }
        }
        return new int[] {3 * (come[0] + even / 2) + 2 * one, 3 * (come[1] + even / 2) + 2 * other};
    }

    List<Integer> rests() {
        List<Integer> found = new ArrayList<>();
        for (int a = 0; a < 6; a++) {
            for (int b = 0; b < 6; b++) {
                boolean rest = true;
                for (int x = 0; x < 6; x++) {
                    rest &= shop(x, b)[0] <= shop(a, b)[0] && shop(a, x)[1] <= shop(a, b)[1];
                }
                if (rest) {
                    found.add(10 * a + b);
                }
            }
        }
        return found;
    }

    /** The fines of each person in some days. */
    int[] days(long seed, int n) {
        int[] sums = new int[people.size()];
        for (int d = 0; d < n; d++) {
            for (int hour = dawn; hour < dusk; hour++) {
                seed = (75 * seed + 74) % 65537;
                int p = (int) (seed % people.size());
                seed = (75 * seed + 74) % 65537;
                sums[p] += fine(p, sills.get((int) (seed % sills.size())), true);
            }
        }
        return sums;
    }

    // ---- acts

    private int[] state() {
        int[] s = new int[at.length + lie.length + 2];
        System.arraycopy(at, 0, s, 0, at.length);
        System.arraycopy(lie, 0, s, at.length, lie.length);
        s[s.length - 2] = hour;
        s[s.length - 1] = day;
        return s;
    }

    private void restore(int[] s) {
        System.arraycopy(s, 0, at, 0, at.length);
        System.arraycopy(s, at.length, lie, 0, lie.length);
        hour = s[s.length - 2];
        day = s[s.length - 1];
    }

    private void keep() {
        past.add(state());
        if (past.size() > 16) {
            past.remove(0);
        }
    }

    boolean go(int p, int h) {
        if (at[p] == h || far(at[p], h) < 0) {
            return false;
        }
        keep();
        at[p] = h;
        return true;
    }

    boolean hand(int g, int h) {
        if (lane(lie[g], h) == 0 || light(hour) && !(passes(g, lie[g]) && passes(g, h))) {
            return false;
        }
        keep();
        lie[g] = h;
        return true;
    }

    void hours(int n) {
        keep();
        for (int i = 0; i < n; i++) {
            hour++;
            if (hour == 24) {
                hour = 0;
                day++;
            }
        }
    }

    boolean undo() {
        if (past.isEmpty()) {
            return false;
        }
        restore(past.remove(past.size() - 1));
        return true;
    }

    void image() {
        images.add(state());
    }

    void back(int i) {
        restore(images.get(i));
        past.clear();
    }
}

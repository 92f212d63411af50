import java.util.Arrays;
import java.util.NoSuchElementException;

/** A town of half doors, told as a text: what is seen over its sills, carried by its lanes, printed by its feet. */
public final class HalfDoors {
    public static final int NONE = -1;

    // An answer, not a refusal: what was asked for does not exist.
    private static final int NOT_ANY = -2;
    private static final int SHOP_REFUSED = -100;

    private static final int MOST_BYTES = 1100;
    private static final int FED_BYTES = 20;
    private static final int MOST_HOUSES = 6;
    private static final int MOST_LANES = 9;
    private static final int MOST_PEOPLE = 6;
    private static final int MOST_GOODS = 5;
    private static final int MOST_VISITS = 8;
    private static final int MOST_PRINTS = 5;
    private static final int MOST_NAMES = MOST_HOUSES + MOST_PEOPLE + MOST_GOODS;
    private static final int MOST_LETTERS = 8;
    private static final int MOST_DIGITS = 3;

    private static final int ADULT = 0;
    private static final int CHILD = 1;
    private static final int MERMAID = 2;

    private static final int MARKS_ABOVE = 3;
    private static final int MARKS_BELOW = 2;
    private static final int MARKS = MARKS_ABOVE + MARKS_BELOW;
    private static final int ABOVE_BITS = 7;
    private static final int BELOW_BITS = 24;
    private static final int BARE_BITS = 28;

    private static final int HOURS_A_DAY = 24;
    private static final int FIRST_HOUR = 12;
    private static final int LEAST_SILL = 10;
    private static final int MOST_SILL = 59;
    private static final int TENS = 6;
    private static final int MOST_SEED = 65536;
    private static final int MOST_DAYS = 20;
    private static final int ACTS_KEPT = 16;
    private static final int MOST_IMAGES = 3;

    // Above every sum of minutes that a town can have.
    private static final int FAR = 1000000;

    private static final int NO_SUCH = 1;
    private static final int BAD_NUMBER = 2;
    private static final int NO_ROOM = 3;
    private static final int FAULTY = 4;
    private static final int NOT_SO = 5;
    private static final int EMPTY = 6;

    private static final int FORM = 1;
    private static final int UNTOLD = 2;
    private static final int AGAIN = 3;
    private static final int BOUNDS = 4;
    private static final int MANY = 5;
    private static final int LACKS = 6;
    private static final int LOOK = 7;

    private final byte[] tape = new byte[MOST_BYTES];
    private int tapeBytes = 0;
    private Town town = new Town();
    // A text is read into this one, so that a faulty text leaves the town as it was.
    private Town spare = new Town();
    private final Reader reader = new Reader();
    private final Present present = new Present();
    private final Carrying carrying = new Carrying();
    private final Rows rows = new Rows();
    private final Shops shops = new Shops();
    private int refusal = 0;
    private int faultNumber = 0;
    private int faultPlace = 0;

    public HalfDoors() {
    }

    // ---- the town

    public int feed(int a, int b, int c, int d, int e) {
        if (tapeBytes + FED_BYTES > MOST_BYTES) {
            return NONE;
        }
        putBytes(a);
        putBytes(b);
        putBytes(c);
        putBytes(d);
        putBytes(e);
        return tapeBytes;
    }

    private void putBytes(int number) {
        for (int shift = 24; shift >= 0; shift -= 8) {
            if (tapeBytes < MOST_BYTES) {
                tape[tapeBytes] = (byte) (number >> shift);
                tapeBytes++;
            }
        }
    }

    public int town(int n) {
        if (n < 0 || n > tapeBytes) {
            return refuse(BAD_NUMBER);
        }
        tapeBytes = 0;
        if (!reader.reads(tape, n, spare)) {
            faultNumber = reader.fault;
            faultPlace = reader.place;
            return refuse(FAULTY);
        }
        faultNumber = 0;
        Town told = spare;
        spare = town;
        town = told;
        town.lanes.measure();
        present.begin(town);
        return answer(town.people);
    }

    public int fault() {
        return faultNumber;
    }

    public int where() {
        return refusal == FAULTY ? faultPlace : NONE;
    }

    // ---- now

    public int house(int h, int what) {
        if (!isHouse(h) || what < 0 || what > 3) {
            return refuse(NO_SUCH);
        }
        if (what == 0) {
            return answer(town.sills[h]);
        }
        if (what == 1) {
            return answer(town.gap(h));
        }
        return answer(what == 2 ? present.peopleAt(h, town.people) : present.goodsAt(h, town.goods));
    }

    public int person(int p, int what) {
        if (!isPerson(p) || what < 0 || what > 4) {
            return refuse(NO_SUCH);
        }
        Person one = town.persons[p];
        switch (what) {
            case 0:
                return answer(one.kind);
            case 1:
                return answer(one.home);
            case 2:
                return answer(one.height);
            case 3:
                return answer(present.placeOf(p));
            default:
                return answer(one.strength());
        }
    }

    public int mark(int p, int i) {
        if (!isPerson(p) || i < 0 || i >= MARKS) {
            return refuse(NO_SUCH);
        }
        return answer(town.persons[p].marks[i]);
    }

    public int good(int g, int what) {
        if (!isGood(g) || what < 0 || what > 3) {
            return refuse(NO_SUCH);
        }
        Good one = town.wares[g];
        switch (what) {
            case 0:
                return answer(one.bulk);
            case 1:
                return answer(one.goal);
            case 2:
                return answer(present.placeOfGood(g));
            default:
                return answer(town.piecesOf(g));
        }
    }

    public int light(int hour) {
        if (!town.told) {
            return refuse(NO_SUCH);
        }
        if (!isHour(hour)) {
            return refuse(BAD_NUMBER);
        }
        return answer(town.isDay(hour) ? 1 : 0);
    }

    // ---- what is seen

    public int seen(int p, int h, int hour) {
        if (!isPerson(p) || !isHouse(h)) {
            return refuse(NO_SUCH);
        }
        if (!isHour(hour)) {
            return refuse(BAD_NUMBER);
        }
        return answer(town.persons[p].shows(town.sills[h], town.isDay(hour)));
    }

    public int taken(int p, int h, int hour) {
        if (!isPerson(p) || !isHouse(h)) {
            return refuse(NO_SUCH);
        }
        if (!isHour(hour)) {
            return refuse(BAD_NUMBER);
        }
        return answer(town.doublesOf(p, town.sills[h], town.isDay(hour)));
    }

    public int pairs(int h, int hour) {
        if (!isHouse(h)) {
            return refuse(NO_SUCH);
        }
        if (!isHour(hour)) {
            return refuse(BAD_NUMBER);
        }
        int doubles = 0;
        for (int p = 0; p < town.people; p++) {
            doubles += Integer.bitCount(town.doublesOf(p, town.sills[h], town.isDay(hour)));
        }
        // Each pair was counted from both its sides.
        return answer(doubles / 2);
    }

    public int knownAt(int p) {
        if (!isPerson(p)) {
            return refuse(NO_SUCH);
        }
        int bits = 0;
        for (int h = 0; h < town.houses; h++) {
            if (town.doublesOf(p, town.sills[h], true) == 0) {
                bits |= 1 << h;
            }
        }
        return answer(bits);
    }

    public int fine(int p, int h, int hour) {
        if (!isPerson(p) || !isHouse(h)) {
            return refuse(NO_SUCH);
        }
        if (!isHour(hour)) {
            return refuse(BAD_NUMBER);
        }
        return answer(town.persons[p].fineOver(town.sills[h], town.isDay(hour)));
    }

    public int visit(int v, int what) {
        if (!isVisit(v) || what < 0 || what > 4) {
            return refuse(NO_SUCH);
        }
        Visit one = town.calls[v];
        switch (what) {
            case 0:
                return answer(one.visitor);
            case 1:
                return answer(one.host);
            case 2:
                return answer(one.hour);
            case 3:
                return answer(town.shownAt(v));
            default:
                return answer(town.fineAt(v, LEAST_SILL));
        }
    }

    public int fines(int p) {
        if (!isPerson(p)) {
            return refuse(NO_SUCH);
        }
        int sum = 0;
        for (int v = 0; v < town.visits; v++) {
            if (town.calls[v].visitor == p) {
                sum += town.fineAt(v, LEAST_SILL);
            }
        }
        return answer(sum);
    }

    public int bares(int p) {
        if (!isPerson(p)) {
            return refuse(NO_SUCH);
        }
        int bits = 0;
        for (int v = 0; v < town.visits; v++) {
            if (town.calls[v].visitor == p && (town.shownAt(v) & BARE_BITS) != 0) {
                bits |= 1 << v;
            }
        }
        return answer(bits);
    }

    public int met(int v) {
        if (!isVisit(v)) {
            return refuse(NO_SUCH);
        }
        Visit one = town.calls[v];
        int bits = 0;
        for (int w = 0; w < town.visits; w++) {
            Visit other = town.calls[w];
            if (other.host == one.host && other.hour == one.hour) {
                bits |= 1 << other.visitor;
            }
        }
        return answer(bits);
    }

    public int busiest() {
        if (!town.told) {
            return refuse(NO_SUCH);
        }
        int first = NOT_ANY;
        int most = 0;
        for (int hour = 0; hour < HOURS_A_DAY; hour++) {
            int visits = town.visitsAt(hour);
            if (visits > most) {
                most = visits;
                first = hour;
            }
        }
        return answer(first);
    }

    public int apart(int p, int q) {
        if (!isPerson(p) || !isPerson(q) || p == q) {
            return refuse(NO_SUCH);
        }
        int bits = 0;
        for (int h = 0; h < town.houses; h++) {
            if (!town.persons[p].passesFor(town.persons[q], town.sills[h], true)) {
                bits |= 1 << h;
            }
        }
        return answer(bits);
    }

    public int tells() {
        if (!town.told) {
            return refuse(NO_SUCH);
        }
        for (int places = 0; places <= MARKS_ABOVE; places++) {
            for (int bits = 0; bits <= ABOVE_BITS; bits++) {
                if (Integer.bitCount(bits) == places && town.allUnlike(bits)) {
                    return answer(bits);
                }
            }
        }
        return answer(NOT_ANY);
    }

    public int another(int sill) {
        if (!town.told) {
            return refuse(NO_SUCH);
        }
        if (sill < LEAST_SILL || sill > MOST_SILL) {
            return refuse(BAD_NUMBER);
        }
        return answer(town.finesBy(sill));
    }

    public int leastSill() {
        if (!town.told) {
            return refuse(NO_SUCH);
        }
        for (int sill = LEAST_SILL; sill <= MOST_SILL; sill++) {
            if (town.finesBy(sill) == 0) {
                return answer(sill);
            }
        }
        return answer(NOT_ANY);
    }

    // ---- lanes, goods

    public int way(int h, int g) {
        if (!isHouse(h) || !isHouse(g)) {
            return refuse(NO_SUCH);
        }
        int minutes = town.lanes.between(h, g);
        return answer(minutes < FAR ? minutes : NOT_ANY);
    }

    public int wayAt(int h, int g, int i) {
        if (!isHouse(h) || !isHouse(g) || i < 0 || i >= MOST_HOUSES || town.lanes.between(h, g) >= FAR) {
            return refuse(NO_SUCH);
        }
        int at = h;
        for (int step = 0; step < i; step++) {
            at = town.lanes.next(at, g);
            if (at == NONE) {
                return refuse(NO_SUCH);
            }
        }
        return answer(at);
    }

    public int carried() {
        if (!town.told) {
            return refuse(NO_SUCH);
        }
        int minutes = carrying.soonestOf(town, present);
        return answer(minutes < FAR ? minutes : NOT_ANY);
    }

    public int carrier(int g) {
        if (!isGood(g)) {
            return refuse(NO_SUCH);
        }
        if (carrying.soonestOf(town, present) >= FAR) {
            return refuse(EMPTY);
        }
        return answer(carrying.best[g]);
    }

    public int alone(int p) {
        if (!isPerson(p) || town.persons[p].kind != CHILD) {
            return refuse(NO_SUCH);
        }
        return answer(carrying.minutesAlone(town, present, p));
    }

    public int stuck() {
        if (!town.told) {
            return refuse(NO_SUCH);
        }
        return answer(carrying.leftLying(town, present));
    }

    public int hands(int g) {
        if (!isGood(g)) {
            return refuse(NO_SUCH);
        }
        int steps = town.handsFrom(present.placeOfGood(g), g);
        return answer(steps < FAR ? steps : NOT_ANY);
    }

    public int round(int h) {
        if (!isHouse(h)) {
            return refuse(NO_SUCH);
        }
        return answer(town.lanes.shortestRound(h));
    }

    public int pieces() {
        if (!town.told) {
            return refuse(NO_SUCH);
        }
        int sum = 0;
        for (int g = 0; g < town.goods; g++) {
            sum += town.piecesOf(g);
        }
        return answer(sum);
    }

    // ---- prints

    public int fits() {
        if (!town.told) {
            return refuse(NO_SUCH);
        }
        if (town.prints == 0) {
            return refuse(EMPTY);
        }
        return answer(rows.count(town));
    }

    public int could(int k) {
        if (!isPrint(k)) {
            return refuse(NO_SUCH);
        }
        rows.count(town);
        return answer(rows.peopleOf(k));
    }

    public int surely(int k) {
        if (!isPrint(k)) {
            return refuse(NO_SUCH);
        }
        rows.count(town);
        return answer(rows.onlyOneOf(k));
    }

    public int ask() {
        if (!town.told) {
            return refuse(NO_SUCH);
        }
        if (town.prints == 0) {
            return refuse(EMPTY);
        }
        if (rows.count(town) == 0) {
            return answer(NOT_ANY);
        }
        int first = 0;
        for (int k = 1; k < town.prints; k++) {
            if (rows.mostLeft(k) < rows.mostLeft(first)) {
                first = k;
            }
        }
        return answer(first);
    }

    // ---- shops

    public int shop(int one, int other, boolean ofOther) {
        if (!town.told) {
            refuse(NO_SUCH);
            return SHOP_REFUSED;
        }
        if (one < 0 || one >= TENS || other < 0 || other >= TENS) {
            refuse(BAD_NUMBER);
            return SHOP_REFUSED;
        }
        return answer(ofOther ? Shops.gain(town, other, one) : Shops.gain(town, one, other));
    }

    public int rests() {
        if (!town.told) {
            return refuse(NO_SUCH);
        }
        shops.weigh(town);
        int count = 0;
        for (int one = 0; one < TENS; one++) {
            for (int other = 0; other < TENS; other++) {
                if (shops.isRest(one, other)) {
                    count++;
                }
            }
        }
        return answer(count);
    }

    public int rest() {
        if (!town.told) {
            return refuse(NO_SUCH);
        }
        shops.weigh(town);
        for (int one = 0; one < TENS; one++) {
            for (int other = 0; other < TENS; other++) {
                if (shops.isRest(one, other)) {
                    return answer(10 * one + other);
                }
            }
        }
        return answer(NOT_ANY);
    }

    // ---- days

    public int day(int seed) {
        if (!town.told) {
            return refuse(NO_SUCH);
        }
        if (!isSeed(seed)) {
            return refuse(BAD_NUMBER);
        }
        return answer(town.finesDrawn(NONE, seed, 1));
    }

    public int dayOf(int p, int seed, int n) {
        if (!isPerson(p)) {
            return refuse(NO_SUCH);
        }
        if (!isSeed(seed) || n < 1 || n > MOST_DAYS) {
            return refuse(BAD_NUMBER);
        }
        return answer(town.finesDrawn(p, seed, n));
    }

    // ---- acts

    public int go(int p, int h) {
        if (!isPerson(p) || !isHouse(h)) {
            return refuse(NO_SUCH);
        }
        int from = present.placeOf(p);
        int minutes = town.lanes.between(from, h);
        if (from == h || minutes >= FAR) {
            return refuse(NOT_SO);
        }
        present.keep();
        present.movePerson(p, h);
        return answer(minutes);
    }

    public boolean hand(int g, int h) {
        if (!isGood(g) || !isHouse(h)) {
            return denied(NO_SUCH);
        }
        int from = present.placeOfGood(g);
        boolean passes = !town.isDay(present.hour()) || town.passesBoth(town.wares[g].bulk, from, h);
        if (!town.lanes.join(from, h) || !passes) {
            return denied(NOT_SO);
        }
        present.keep();
        present.moveGood(g, h);
        return granted();
    }

    public int hours(int n) {
        if (!town.told) {
            return refuse(NO_SUCH);
        }
        if (n < 1 || n > HOURS_A_DAY) {
            return refuse(BAD_NUMBER);
        }
        present.keep();
        present.passHours(n);
        return answer(present.hour());
    }

    public boolean undo() {
        return present.takeBack() ? granted() : denied(EMPTY);
    }

    public int image() {
        if (!town.told) {
            return refuse(NO_SUCH);
        }
        if (present.images >= MOST_IMAGES) {
            return refuse(NO_ROOM);
        }
        return answer(present.draw());
    }

    public boolean back(int image) {
        return present.returnTo(image) ? granted() : denied(NO_SUCH);
    }

    // ---- what is told

    public int led(int i) throws NoSuchElementException {
        int left = i;
        for (int g = 0; g < town.goods; g++) {
            if (present.placeOfGood(g) == town.wares[g].goal) {
                if (left == 0) {
                    return g;
                }
                left--;
            }
        }
        throw new NoSuchElementException();
    }

    public int size(int what) {
        switch (what) {
            case 9:
                return town.told ? present.hour() : 0;
            case 10:
                return town.told ? present.dayNumber() : 0;
            case 11:
                return present.kept;
            case 12:
                return present.images;
            case 13:
                return tapeBytes;
            default:
                return toldSize(what);
        }
    }

    private int toldSize(int what) {
        switch (what) {
            case 0:
                return town.dawn;
            case 1:
                return town.dusk;
            case 2:
                return town.door;
            case 3:
                return town.houses;
            case 4:
                return town.lanes.count;
            case 5:
                return town.people;
            case 6:
                return town.goods;
            case 7:
                return town.visits;
            case 8:
                return town.prints;
            default:
                return NONE;
        }
    }

    public int trouble() {
        return refusal;
    }

    private int refuse(int number) {
        refusal = number;
        return NONE;
    }

    private int answer(int value) {
        refusal = 0;
        return value;
    }

    private boolean denied(int number) {
        refusal = number;
        return false;
    }

    private boolean granted() {
        refusal = 0;
        return true;
    }

    private boolean isHouse(int h) {
        return h >= 0 && h < town.houses;
    }

    private boolean isPerson(int p) {
        return p >= 0 && p < town.people;
    }

    private boolean isGood(int g) {
        return g >= 0 && g < town.goods;
    }

    private boolean isVisit(int v) {
        return v >= 0 && v < town.visits;
    }

    private boolean isPrint(int k) {
        return k >= 0 && k < town.prints;
    }

    private static boolean isHour(int hour) {
        return hour >= 0 && hour < HOURS_A_DAY;
    }

    private static boolean isSeed(int seed) {
        return seed >= 0 && seed <= MOST_SEED;
    }

    /** One of the town's people, as told. */
    private static final class Person {
        int kind = ADULT;
        int home = 0;
        int height = 0;
        final int[] marks = new int[MARKS];

        /** How big a good this one can carry. */
        int strength() {
            return kind == CHILD ? height / 3 : 0;
        }

        /** How many marks above lie higher than a sill: the higher ones come first. */
        int marksOver(int sill) {
            int count = 0;
            for (int i = 0; i < MARKS_ABOVE; i++) {
                if (height - 10 * i > sill) {
                    count++;
                }
            }
            return count;
        }

        /** The marks that are seen, as bits. */
        int shows(int sill, boolean byDay) {
            if (byDay) {
                return (1 << marksOver(sill)) - 1;
            }
            return kind == MERMAID ? ABOVE_BITS : ABOVE_BITS | BELOW_BITS;
        }

        boolean passesFor(Person other, int sill, boolean byDay) {
            int bits = shows(sill, byDay);
            return bits == other.shows(sill, byDay) && isLike(other, bits);
        }

        /** Whether all marks of these bits are the other one's, too. */
        boolean isLike(Person other, int bits) {
            for (int i = 0; i < MARKS; i++) {
                if ((bits >> i & 1) == 1 && marks[i] != other.marks[i]) {
                    return false;
                }
            }
            return true;
        }

        int fineOver(int sill, boolean byDay) {
            if (!byDay || kind == CHILD) {
                return 0;
            }
            return Math.max(0, height / 2 - sill);
        }

        /** The look below, of which a print tells. */
        int feet() {
            return 4 * marks[MARKS_ABOVE] + marks[MARKS_ABOVE + 1];
        }
    }

    /** One of the town's goods, as told. */
    private static final class Good {
        int bulk = 0;
        int start = 0;
        int goal = 0;
    }

    /** A visit, as told. */
    private static final class Visit {
        int visitor = 0;
        int host = 0;
        int hour = 0;
    }

    /** A print of feet, as told. */
    private static final class Print {
        int place = 0;
        int feet = 0;
        int night = 0;
    }

    /** The town as its text tells it: nothing here changes while it is the town. */
    private static final class Town {
        boolean told = false;
        int dawn = 0;
        int dusk = 0;
        int door = 0;
        int houses = 0;
        int people = 0;
        int goods = 0;
        int visits = 0;
        int prints = 0;
        final int[] sills = new int[MOST_HOUSES];
        final Lanes lanes = new Lanes();
        final Person[] persons = new Person[MOST_PEOPLE];
        final Good[] wares = new Good[MOST_GOODS];
        final Visit[] calls = new Visit[MOST_VISITS];
        final Print[] tracks = new Print[MOST_PRINTS];
        private final int[] steps = new int[MOST_HOUSES];

        Town() {
            for (int p = 0; p < MOST_PEOPLE; p++) {
                persons[p] = new Person();
            }
            for (int g = 0; g < MOST_GOODS; g++) {
                wares[g] = new Good();
            }
            for (int v = 0; v < MOST_VISITS; v++) {
                calls[v] = new Visit();
            }
            for (int k = 0; k < MOST_PRINTS; k++) {
                tracks[k] = new Print();
            }
        }

        void clear() {
            told = false;
            houses = 0;
            people = 0;
            goods = 0;
            visits = 0;
            prints = 0;
            lanes.clear();
        }

        boolean isDay(int hour) {
            return hour >= dawn && hour < dusk;
        }

        int gap(int h) {
            return door - sills[h];
        }

        boolean passesBoth(int bulk, int h, int g) {
            return bulk <= gap(h) && bulk <= gap(g);
        }

        int piecesOf(int g) {
            Good one = wares[g];
            for (int cut = 1; cut < one.bulk; cut++) {
                int biggest = (one.bulk + cut - 1) / cut;
                if (passesBoth(biggest, one.start, one.goal)) {
                    return cut;
                }
            }
            return one.bulk;
        }

        /** For whom one is taken, as bits. */
        int doublesOf(int p, int sill, boolean byDay) {
            int bits = 0;
            for (int q = 0; q < people; q++) {
                if (q != p && persons[p].passesFor(persons[q], sill, byDay)) {
                    bits |= 1 << q;
                }
            }
            return bits;
        }

        /** Whether no two people are alike in all of these marks. */
        boolean allUnlike(int bits) {
            for (int p = 0; p < people; p++) {
                for (int q = p + 1; q < people; q++) {
                    if (persons[p].isLike(persons[q], bits)) {
                        return false;
                    }
                }
            }
            return true;
        }

        int shownAt(int v) {
            Visit one = calls[v];
            return persons[one.visitor].shows(sills[one.host], isDay(one.hour));
        }

        /** The fine of a visit, its house's sill being this one if it is lower. */
        int fineAt(int v, int sill) {
            Visit one = calls[v];
            return persons[one.visitor].fineOver(Math.max(sill, sills[one.host]), isDay(one.hour));
        }

        int finesBy(int sill) {
            int sum = 0;
            for (int v = 0; v < visits; v++) {
                sum += fineAt(v, sill);
            }
            return sum;
        }

        int visitsAt(int hour) {
            int count = 0;
            for (int v = 0; v < visits; v++) {
                if (calls[v].hour == hour) {
                    count++;
                }
            }
            return count;
        }

        /** The fines of days by draws: of one person, or of all (NONE). */
        int finesDrawn(int who, int seed, int days) {
            if (people < 1 || houses < 1) {
                return 0;
            }
            int sum = 0;
            int drawn = seed;
            int hours = days * (dusk - dawn);
            for (int i = 0; i < hours; i++) {
                drawn = nextSeed(drawn);
                int p = drawn % people;
                drawn = nextSeed(drawn);
                int h = drawn % houses;
                if (who == NONE || who == p) {
                    sum += persons[p].fineOver(sills[h], true);
                }
            }
            return sum;
        }

        private static int nextSeed(int seed) {
            return (75 * seed + 74) % 65537;
        }

        /** How often a good must be handed by day to be where it must go; FAR if it can't. */
        int handsFrom(int place, int g) {
            int bulk = wares[g].bulk;
            Arrays.fill(steps, FAR);
            steps[place] = 0;
            // No house is more hands away than there are houses.
            for (int turn = 0; turn < houses; turn++) {
                for (int h = 0; h < houses; h++) {
                    for (int next = 0; next < houses; next++) {
                        if (lanes.join(h, next) && passesBoth(bulk, h, next)) {
                            steps[next] = Math.min(steps[next], steps[h] + 1);
                        }
                    }
                }
            }
            return steps[wares[g].goal];
        }
    }

    /** The lanes of a town, and the fewest minutes from each house to each. */
    private static final class Lanes {
        int count = 0;
        private final int[] minutes = new int[MOST_HOUSES * MOST_HOUSES];
        private final int[] fewest = new int[MOST_HOUSES * MOST_HOUSES];
        private int shortest = 0;

        void clear() {
            count = 0;
            Arrays.fill(minutes, 0);
        }

        void add(int h, int g, int length) {
            minutes[h * MOST_HOUSES + g] = length;
            minutes[g * MOST_HOUSES + h] = length;
            count++;
        }

        boolean join(int h, int g) {
            return minutes[h * MOST_HOUSES + g] > 0;
        }

        int between(int h, int g) {
            return fewest[h * MOST_HOUSES + g];
        }

        void measure() {
            for (int h = 0; h < MOST_HOUSES; h++) {
                for (int g = 0; g < MOST_HOUSES; g++) {
                    int lane = join(h, g) ? minutes[h * MOST_HOUSES + g] : FAR;
                    fewest[h * MOST_HOUSES + g] = h == g ? 0 : lane;
                }
            }
            for (int over = 0; over < MOST_HOUSES; over++) {
                for (int h = 0; h < MOST_HOUSES; h++) {
                    for (int g = 0; g < MOST_HOUSES; g++) {
                        int sum = between(h, over) + between(over, g);
                        fewest[h * MOST_HOUSES + g] = Math.min(between(h, g), sum);
                    }
                }
            }
        }

        /** The house behind this one on the way; NONE if it ends here. */
        int next(int at, int goal) {
            for (int g = 0; g < MOST_HOUSES; g++) {
                if (join(at, g) && minutes[at * MOST_HOUSES + g] + between(g, goal) == between(at, goal)) {
                    return g;
                }
            }
            return NONE;
        }

        int shortestRound(int h) {
            int others = 0;
            for (int g = 0; g < MOST_HOUSES; g++) {
                if (g != h && between(h, g) < FAR) {
                    others |= 1 << g;
                }
            }
            shortest = FAR;
            goRound(h, h, others, 0, 0);
            return shortest;
        }

        private void goRound(int start, int at, int others, int sum, int depth) {
            if (depth > MOST_HOUSES || sum >= shortest) {
                return;
            }
            if (others == 0) {
                shortest = Math.min(shortest, sum + between(at, start));
                return;
            }
            for (int g = 0; g < MOST_HOUSES; g++) {
                if ((others >> g & 1) == 1) {
                    goRound(start, g, others & ~(1 << g), sum + between(at, g), depth + 1);
                }
            }
        }
    }

    /** What changes in a town: where people and goods are, the hour and the day; acts kept, and images. */
    private static final class Present {
        private static final int GOODS_FROM = MOST_PEOPLE;
        private static final int HOUR = MOST_PEOPLE + MOST_GOODS;
        private static final int DAY = HOUR + 1;
        private static final int CELLS = DAY + 1;

        int kept = 0;
        int images = 0;
        private final int[] cells = new int[CELLS];
        // A ring: the oldest act makes room for the newest.
        private final int[] past = new int[ACTS_KEPT * CELLS];
        private int newest = 0;
        private final int[] drawn = new int[MOST_IMAGES * CELLS];

        void begin(Town town) {
            kept = 0;
            images = 0;
            for (int p = 0; p < town.people; p++) {
                cells[p] = town.persons[p].home;
            }
            for (int g = 0; g < town.goods; g++) {
                cells[GOODS_FROM + g] = town.wares[g].start;
            }
            cells[HOUR] = FIRST_HOUR;
            cells[DAY] = 0;
        }

        int placeOf(int p) {
            return cells[p];
        }

        int placeOfGood(int g) {
            return cells[GOODS_FROM + g];
        }

        int hour() {
            return cells[HOUR];
        }

        int dayNumber() {
            return cells[DAY];
        }

        int peopleAt(int h, int people) {
            int bits = 0;
            for (int p = 0; p < people; p++) {
                if (placeOf(p) == h) {
                    bits |= 1 << p;
                }
            }
            return bits;
        }

        int goodsAt(int h, int goods) {
            int bits = 0;
            for (int g = 0; g < goods; g++) {
                if (placeOfGood(g) == h) {
                    bits |= 1 << g;
                }
            }
            return bits;
        }

        void movePerson(int p, int h) {
            cells[p] = h;
        }

        void moveGood(int g, int h) {
            cells[GOODS_FROM + g] = h;
        }

        void passHours(int n) {
            int hours = cells[HOUR] + n;
            cells[DAY] += hours / HOURS_A_DAY;
            cells[HOUR] = hours % HOURS_A_DAY;
        }

        void keep() {
            newest = (newest + 1) % ACTS_KEPT;
            System.arraycopy(cells, 0, past, newest * CELLS, CELLS);
            kept = Math.min(kept + 1, ACTS_KEPT);
        }

        boolean takeBack() {
            if (kept == 0) {
                return false;
            }
            System.arraycopy(past, newest * CELLS, cells, 0, CELLS);
            newest = (newest + ACTS_KEPT - 1) % ACTS_KEPT;
            kept--;
            return true;
        }

        int draw() {
            System.arraycopy(cells, 0, drawn, images * CELLS, CELLS);
            images++;
            return images - 1;
        }

        boolean returnTo(int image) {
            if (image < 0 || image >= images) {
                return false;
            }
            System.arraycopy(drawn, image * CELLS, cells, 0, CELLS);
            kept = 0;
            return true;
        }
    }

    /** Which child carries which goods, so that all are soonest where they must go. */
    private static final class Carrying {
        private static final int LOADS = 1 << MOST_GOODS;

        final int[] best = new int[MOST_GOODS];
        private final int[] tried = new int[MOST_GOODS];
        private final int[] loads = new int[MOST_PEOPLE];
        // The fewest minutes by child and by the goods that he carries, as bits.
        private final int[] minutes = new int[MOST_PEOPLE * LOADS];
        private int soonest = 0;
        // It can't be sooner than this, so the search ends where it is as soon.
        private int bound = 0;

        int soonestOf(Town town, Present present) {
            weighAll(town, present);
            bound = 0;
            for (int g = 0; g < town.goods; g++) {
                if (mustGo(town, present, g)) {
                    bound = Math.max(bound, quickest(town.people, g));
                }
            }
            soonest = FAR;
            tryGood(town, present, 0, 0);
            return soonest;
        }

        int minutesAlone(Town town, Present present, int p) {
            weigh(town, present, p);
            int load = 0;
            for (int g = 0; g < town.goods; g++) {
                if (minutes[p * LOADS + (1 << g)] < FAR) {
                    load |= 1 << g;
                }
            }
            return minutes[p * LOADS + load];
        }

        int leftLying(Town town, Present present) {
            weighAll(town, present);
            int bits = 0;
            for (int g = 0; g < town.goods; g++) {
                if (mustGo(town, present, g) && quickest(town.people, g) >= FAR) {
                    bits |= 1 << g;
                }
            }
            return bits;
        }

        /** The minutes of the child by whom alone a good is soonest where it must go; FAR if no child can. */
        private int quickest(int people, int g) {
            int fewest = FAR;
            for (int p = 0; p < people; p++) {
                fewest = Math.min(fewest, minutes[p * LOADS + (1 << g)]);
            }
            return fewest;
        }

        private static boolean mustGo(Town town, Present present, int g) {
            return present.placeOfGood(g) != town.wares[g].goal;
        }

        private void weighAll(Town town, Present present) {
            for (int p = 0; p < town.people; p++) {
                weigh(town, present, p);
            }
        }

        private void weigh(Town town, Present present, int p) {
            for (int load = 0; load < LOADS; load++) {
                minutes[p * LOADS + load] = FAR;
            }
            if (town.persons[p].kind == CHILD) {
                carryOn(town, present, p, town.persons[p].home, 0, 0);
            }
        }

        /** A child who stands at a house, some goods carried already, carries each other one next. */
        private void carryOn(Town town, Present present, int p, int at, int load, int sum) {
            int row = p * LOADS + load;
            minutes[row] = Math.min(minutes[row], sum);
            for (int g = 0; g < town.goods; g++) {
                // A load only grows, so this goes no deeper than there are goods.
                if ((load >> g & 1) == 1 || !mustGo(town, present, g)) {
                    continue;
                }
                Good one = town.wares[g];
                int from = present.placeOfGood(g);
                int more = town.lanes.between(at, from) + town.lanes.between(from, one.goal);
                if (one.bulk <= town.persons[p].strength() && more < FAR) {
                    carryOn(town, present, p, one.goal, load | 1 << g, sum + more);
                }
            }
        }

        /** Goods from this one on are given to children in their order, so the first best is kept. */
        private void tryGood(Town town, Present present, int g, int latest) {
            if (latest >= soonest || bound >= soonest) {
                return;
            }
            if (g >= town.goods) {
                soonest = latest;
                System.arraycopy(tried, 0, best, 0, MOST_GOODS);
                return;
            }
            if (!mustGo(town, present, g)) {
                tried[g] = NOT_ANY;
                tryGood(town, present, g + 1, latest);
                return;
            }
            for (int p = 0; p < town.people; p++) {
                int before = loads[p];
                int behind = minutes[p * LOADS + (before | 1 << g)];
                if (behind < FAR) {
                    tried[g] = p;
                    loads[p] = before | 1 << g;
                    tryGood(town, present, g + 1, Math.max(latest, behind));
                    loads[p] = before;
                }
            }
        }
    }

    /** The rows of people whose prints those can be. */
    private static final class Rows {
        // In how many rows a print is a person's.
        private final int[] ways = new int[MOST_PRINTS * MOST_PEOPLE];
        // By the first print of each night; 1 at all others.
        private final int[] nightRows = new int[MOST_PRINTS];
        private int people = 0;

        /** Nights know nothing of each other, so rows are counted night by night and multiplied. */
        int count(Town town) {
            people = town.people;
            Arrays.fill(ways, 0);
            int all = 1;
            for (int k = 0; k < town.prints; k++) {
                nightRows[k] = isFirst(town, k) ? countNight(town, k, town.tracks[k].night, 0) : 1;
                all *= nightRows[k];
            }
            for (int k = 0; k < town.prints; k++) {
                spread(k, rowsOfOthers(town, town.tracks[k].night));
            }
            return all;
        }

        int peopleOf(int k) {
            int bits = 0;
            for (int p = 0; p < people; p++) {
                if (ways[k * MOST_PEOPLE + p] > 0) {
                    bits |= 1 << p;
                }
            }
            return bits;
        }

        /** The one person whose print it is in every row; NOT_ANY if there are more, or no rows. */
        int onlyOneOf(int k) {
            int bits = peopleOf(k);
            for (int p = 0; p < people; p++) {
                if (bits == 1 << p) {
                    return p;
                }
            }
            return NOT_ANY;
        }

        /** How many rows are left at most once it is told whose print it is. */
        int mostLeft(int k) {
            int most = 0;
            for (int p = 0; p < people; p++) {
                most = Math.max(most, ways[k * MOST_PEOPLE + p]);
            }
            return most;
        }

        private static boolean isFirst(Town town, int k) {
            for (int j = 0; j < k; j++) {
                if (town.tracks[j].night == town.tracks[k].night) {
                    return false;
                }
            }
            return true;
        }

        private int rowsOfOthers(Town town, int night) {
            int product = 1;
            for (int k = 0; k < town.prints; k++) {
                if (town.tracks[k].night != night) {
                    product *= nightRows[k];
                }
            }
            return product;
        }

        private void spread(int k, int factor) {
            for (int p = 0; p < people; p++) {
                ways[k * MOST_PEOPLE + p] *= factor;
            }
        }

        /** How many rows a night's prints have from this print on, these people being out. */
        private int countNight(Town town, int from, int night, int out) {
            int k = from;
            while (k < town.prints && town.tracks[k].night != night) {
                k++;
            }
            if (k >= town.prints) {
                return 1;
            }
            int sum = 0;
            for (int p = 0; p < people; p++) {
                if ((out >> p & 1) == 0 && suits(town.persons[p], town.tracks[k])) {
                    int behind = countNight(town, k + 1, night, out | 1 << p);
                    ways[k * MOST_PEOPLE + p] += behind;
                    sum += behind;
                }
            }
            return sum;
        }

        private static boolean suits(Person one, Print print) {
            return one.kind != MERMAID && one.feet() == print.feet && one.home != print.place;
        }
    }

    /** Two shops, whose owners choose their sills by tens. */
    private static final class Shops {
        private final int[] gains = new int[TENS * TENS];
        // The most that an owner can have against the other one's tens.
        private final int[] mosts = new int[TENS];

        /** What an owner has by his tens, the other one having chosen his. */
        static int gain(Town town, int own, int others) {
            int comers = 0;
            int wavering = 0;
            for (int p = 0; p < town.people; p++) {
                int here = town.persons[p].marksOver(LEAST_SILL + 10 * own);
                int there = town.persons[p].marksOver(LEAST_SILL + 10 * others);
                if (here > there) {
                    comers++;
                } else if (here == there) {
                    wavering++;
                }
            }
            return 3 * (comers + wavering / 2) + 2 * own;
        }

        void weigh(Town town) {
            Arrays.fill(mosts, 0);
            for (int own = 0; own < TENS; own++) {
                for (int others = 0; others < TENS; others++) {
                    int has = gain(town, own, others);
                    gains[own * TENS + others] = has;
                    mosts[others] = Math.max(mosts[others], has);
                }
            }
        }

        boolean isRest(int one, int other) {
            return gains[one * TENS + other] == mosts[other] && gains[other * TENS + one] == mosts[one];
        }
    }

    /** Reads the text of a town from the left and stops at the first fault. */
    private static final class Reader {
        private static final int END = 0;
        private static final int WORD = 1;
        private static final int WHOLE = 2;
        private static final int PARTER = 3;
        private static final int NO_TOKEN = 4;

        private static final int TOWN_LINE = 0;
        private static final int HOUSE_LINE = 1;
        private static final int LANE_LINE = 2;
        private static final int PERSON_LINE = 3;
        private static final int GOOD_LINE = 4;
        private static final int VISIT_LINE = 5;
        private static final int PRINT_LINE = 6;
        private static final int LINE_SORTS = 7;

        int fault = 0;
        int place = 0;
        private byte[] text = new byte[0];
        private int end = 0;
        // The token at hand: where it begins, where it ends, its sort, and what it holds.
        private int at = 0;
        private int behind = 0;
        private int sort = END;
        private long held = 0;
        // What the latest token that was looked at meant.
        private int got = 0;
        private final long[] lineWords = new long[LINE_SORTS];
        private final long[] names = new long[MOST_NAMES];
        // By the line that told the name.
        private final int[] nameSorts = new int[MOST_NAMES];
        private final int[] nameNumbers = new int[MOST_NAMES];
        private int namesTold = 0;

        Reader() {
            lineWords[TOWN_LINE] = code("town");
            lineWords[HOUSE_LINE] = code("house");
            lineWords[LANE_LINE] = code("lane");
            lineWords[PERSON_LINE] = code("person");
            lineWords[GOOD_LINE] = code("good");
            lineWords[VISIT_LINE] = code("visit");
            lineWords[PRINT_LINE] = code("print");
        }

        boolean reads(byte[] bytes, int length, Town town) {
            text = bytes;
            end = Math.min(length, bytes.length);
            behind = 0;
            namesTold = 0;
            town.clear();
            step();
            // Each line has a byte at least.
            for (int line = 0; line < end; line++) {
                if (!readsLine(town)) {
                    return false;
                }
                if (sort == END) {
                    return endsWell(town);
                }
                if (sort != PARTER) {
                    return fails(FORM);
                }
                step();
            }
            return fails(FORM);
        }

        private boolean endsWell(Town town) {
            if (town.houses == 0 || town.people == 0) {
                return fails(LACKS);
            }
            return true;
        }

        private boolean fails(int number) {
            fault = number;
            place = at;
            return false;
        }

        private void step() {
            at = behind;
            while (at < end && text[at] == ' ') {
                at++;
            }
            behind = at;
            held = 0;
            if (at >= end) {
                sort = END;
            } else if (isLetter(text[at])) {
                stepWord();
            } else if (isDigit(text[at])) {
                stepWhole();
            } else {
                sort = text[at] == ';' ? PARTER : NO_TOKEN;
                behind = at + 1;
            }
        }

        private void stepWord() {
            while (behind < end && isLetter(text[behind])) {
                held = 32 * held + (text[behind] - 'a' + 1);
                behind++;
            }
            sort = behind - at <= MOST_LETTERS ? WORD : NO_TOKEN;
        }

        private void stepWhole() {
            while (behind < end && isDigit(text[behind])) {
                held = 10 * held + (text[behind] - '0');
                behind++;
            }
            sort = behind - at <= MOST_DIGITS ? WHOLE : NO_TOKEN;
        }

        private static boolean isLetter(byte sign) {
            return sign >= 'a' && sign <= 'z';
        }

        private static boolean isDigit(byte sign) {
            return sign >= '0' && sign <= '9';
        }

        /** What a token that is this word holds. */
        private static long code(String word) {
            long sum = 0;
            for (int i = 0; i < word.length(); i++) {
                sum = 32 * sum + (word.charAt(i) - 'a' + 1);
            }
            return sum;
        }

        private boolean spells(String word) {
            return sort == WORD && held == code(word);
        }

        /** The sort of line that the token at hand begins; NONE if it begins none. */
        private int lineSort() {
            for (int i = 0; i < LINE_SORTS; i++) {
                if (sort == WORD && held == lineWords[i]) {
                    return i;
                }
            }
            return NONE;
        }

        private boolean readsLine(Town town) {
            int line = lineSort();
            if (line == NONE) {
                return fails(FORM);
            }
            if (line == TOWN_LINE) {
                return town.told ? fails(AGAIN) : readsTown(town);
            }
            if (!town.told) {
                return fails(LACKS);
            }
            switch (line) {
                case HOUSE_LINE:
                    return town.houses < MOST_HOUSES ? readsHouse(town) : fails(MANY);
                case LANE_LINE:
                    return town.lanes.count < MOST_LANES ? readsLane(town) : fails(MANY);
                case PERSON_LINE:
                    return town.people < MOST_PEOPLE ? readsPerson(town) : fails(MANY);
                case GOOD_LINE:
                    return town.goods < MOST_GOODS ? readsGood(town) : fails(MANY);
                case VISIT_LINE:
                    return town.visits < MOST_VISITS ? readsVisit(town) : fails(MANY);
                default:
                    return town.prints < MOST_PRINTS ? readsPrint(town) : fails(MANY);
            }
        }

        private boolean readsTown(Town town) {
            step();
            if (!takesWord("dawn") || !takesWhole(4, 11)) {
                return false;
            }
            town.dawn = got;
            if (!takesWord("dusk") || !takesWhole(12, 22)) {
                return false;
            }
            town.dusk = got;
            if (!takesWord("door") || !takesWhole(60, 120)) {
                return false;
            }
            town.door = got;
            town.told = true;
            return true;
        }

        private boolean readsHouse(Town town) {
            step();
            if (!takesNewName(HOUSE_LINE, town.houses) || !takesWord("sill")
                    || !takesWhole(LEAST_SILL, MOST_SILL)) {
                return false;
            }
            town.sills[town.houses] = got;
            town.houses++;
            return true;
        }

        private boolean readsLane(Town town) {
            step();
            if (!takesName(HOUSE_LINE)) {
                return false;
            }
            int one = got;
            if (!findsName(HOUSE_LINE)) {
                return false;
            }
            int other = got;
            if (other == one || town.lanes.join(one, other)) {
                return fails(AGAIN);
            }
            step();
            if (!takesWord("minutes") || !takesWhole(1, 60)) {
                return false;
            }
            town.lanes.add(one, other, got);
            return true;
        }

        private boolean readsPerson(Town town) {
            Person one = town.persons[town.people];
            step();
            if (!takesNewName(PERSON_LINE, town.people) || !takesKind()) {
                return false;
            }
            one.kind = got;
            if (!takesWord("of") || !takesName(HOUSE_LINE)) {
                return false;
            }
            one.home = got;
            if (!takesWord("tall") || !takesWhole(20, 99)) {
                return false;
            }
            one.height = got;
            if (!takesWord("upper") || !takesLook(MARKS_ABOVE)) {
                return false;
            }
            spreadLook(got, one.marks, 0, MARKS_ABOVE);
            if (!takesWord("lower") || !takesLook(MARKS_BELOW)) {
                return false;
            }
            spreadLook(got, one.marks, MARKS_ABOVE, MARKS_BELOW);
            town.people++;
            return true;
        }

        private boolean readsGood(Town town) {
            Good one = town.wares[town.goods];
            step();
            if (!takesNewName(GOOD_LINE, town.goods) || !takesWord("size") || !takesWhole(1, 150)) {
                return false;
            }
            one.bulk = got;
            if (!takesWord("at") || !takesName(HOUSE_LINE)) {
                return false;
            }
            one.start = got;
            if (!takesWord("to") || !findsName(HOUSE_LINE)) {
                return false;
            }
            if (got == one.start) {
                return fails(AGAIN);
            }
            one.goal = got;
            step();
            town.goods++;
            return true;
        }

        private boolean readsVisit(Town town) {
            Visit one = town.calls[town.visits];
            step();
            if (!takesName(PERSON_LINE)) {
                return false;
            }
            one.visitor = got;
            if (!takesName(HOUSE_LINE)) {
                return false;
            }
            one.host = got;
            if (!takesWord("hour") || !takesWhole(0, HOURS_A_DAY - 1)) {
                return false;
            }
            one.hour = got;
            town.visits++;
            return true;
        }

        private boolean readsPrint(Town town) {
            Print one = town.tracks[town.prints];
            step();
            if (!takesName(HOUSE_LINE)) {
                return false;
            }
            one.place = got;
            if (!takesLook(MARKS_BELOW)) {
                return false;
            }
            one.feet = got;
            if (!takesWord("night") || !takesWhole(0, 20)) {
                return false;
            }
            one.night = got;
            town.prints++;
            return true;
        }

        private boolean takesWord(String word) {
            if (!spells(word)) {
                return fails(FORM);
            }
            step();
            return true;
        }

        private boolean takesWhole(int least, int most) {
            if (sort != WHOLE) {
                return fails(FORM);
            }
            if (held < least || held > most) {
                return fails(BOUNDS);
            }
            got = (int) held;
            step();
            return true;
        }

        private boolean takesKind() {
            if (spells("adult")) {
                got = ADULT;
            } else if (spells("child")) {
                got = CHILD;
            } else if (spells("mermaid")) {
                got = MERMAID;
            } else {
                return fails(FORM);
            }
            step();
            return true;
        }

        /** A look is got as a number of base four. */
        private boolean takesLook(int length) {
            if (sort != WORD) {
                return fails(FORM);
            }
            if (behind - at != length) {
                return fails(LOOK);
            }
            int look = 0;
            for (int i = at; i < behind; i++) {
                if (text[i] > 'd') {
                    return fails(LOOK);
                }
                look = 4 * look + (text[i] - 'a');
            }
            got = look;
            step();
            return true;
        }

        private static void spreadLook(int look, int[] marks, int from, int length) {
            int left = look;
            for (int i = from + length - 1; i >= from; i--) {
                marks[i] = left % 4;
                left /= 4;
            }
        }

        private boolean takesNewName(int nameSort, int number) {
            if (!isName()) {
                return fails(FORM);
            }
            if (indexOfName() != NONE || namesTold >= MOST_NAMES) {
                return fails(AGAIN);
            }
            names[namesTold] = held;
            nameSorts[namesTold] = nameSort;
            nameNumbers[namesTold] = number;
            namesTold++;
            step();
            return true;
        }

        private boolean takesName(int nameSort) {
            if (!findsName(nameSort)) {
                return false;
            }
            step();
            return true;
        }

        /** Looks whom or what the token at hand names, but does not step behind it. */
        private boolean findsName(int nameSort) {
            if (!isName()) {
                return fails(FORM);
            }
            int i = indexOfName();
            if (i == NONE || nameSorts[i] != nameSort) {
                return fails(UNTOLD);
            }
            got = nameNumbers[i];
            return true;
        }

        private boolean isName() {
            return sort == WORD && lineSort() == NONE;
        }

        private int indexOfName() {
            for (int i = 0; i < namesTold; i++) {
                if (names[i] == held) {
                    return i;
                }
            }
            return NONE;
        }
    }
}

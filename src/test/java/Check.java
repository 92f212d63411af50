import java.nio.charset.StandardCharsets;

/** What the tests share: counting wrong answers, feeding texts. */
final class Check {
    private static int wrong = 0;
    private static int asked = 0;
    // The test at hand, so that a wrong answer tells whose it is.
    private static String test = "";

    private Check() {
    }

    static void begins(String name) {
        test = name + ": ";
    }

    static void due(String call, long got, long want) {
        asked++;
        if (got != want) {
            wrong++;
            if (wrong <= 50) {
                System.out.println(test + call + " answered " + got + ", due is " + want);
            }
        }
    }

    static void due(String call, boolean got, boolean want) {
        due(call, got ? 1 : 0, want ? 1 : 0);
    }

    /** An answer that is no refusal: trouble is 0 behind it. */
    static void answers(HalfDoors x, String call, long got, long want) {
        due(call, got, want);
        due(call + ", trouble()", x.trouble(), 0);
    }

    static void answers(HalfDoors x, String call, boolean got, boolean want) {
        answers(x, call, got ? 1 : 0, want ? 1 : 0);
    }

    /** A refused call: NONE and a number. */
    static void refused(HalfDoors x, String call, long got, int number) {
        due(call, got, -1);
        due(call + ", trouble()", x.trouble(), number);
    }

    static void refused(HalfDoors x, String call, boolean got, int number) {
        due(call, got ? 1 : 0, 0);
        due(call + ", trouble()", x.trouble(), number);
    }

    /** A text that is refused: its fault stands where the second part begins. */
    static void faultyAt(String ahead, String at, int fault) {
        HalfDoors x = new HalfDoors();
        refused(x, ahead + at, tell(x, ahead + at), 4);
        due("fault of " + ahead + at, x.fault(), fault);
        due("where of " + ahead + at, x.where(), ahead.length());
    }

    /** A text that tells a town. */
    static void tells(String text) {
        HalfDoors x = new HalfDoors();
        answers(x, text, tell(x, text) > 0, true);
    }

    static void throwsNoSuch(HalfDoors x, int i) {
        int thrown = 0;
        try {
            x.led(i);
        } catch (java.util.NoSuchElementException e) {
            thrown = 1;
        }
        due("led(" + i + ") throws", thrown, 1);
    }

    /** Feeds a text, blanks behind it up to twenty bytes; answers how long it is. */
    static int feed(HalfDoors x, String text) {
        byte[] bytes = text.getBytes(StandardCharsets.ISO_8859_1);
        int[] numbers = new int[(bytes.length + 19) / 20 * 5];
        for (int i = 0; i < numbers.length * 4; i++) {
            int b = i < bytes.length ? bytes[i] & 255 : 32;
            numbers[i / 4] = numbers[i / 4] << 8 | b;
        }
        for (int i = 0; i < numbers.length; i += 5) {
            x.feed(numbers[i], numbers[i + 1], numbers[i + 2], numbers[i + 3], numbers[i + 4]);
        }
        return bytes.length;
    }

    static int tell(HalfDoors x, String text) {
        return x.town(feed(x, text));
    }

    /** A new object with this town. */
    static HalfDoors town(String text) {
        HalfDoors x = new HalfDoors();
        int people = tell(x, text);
        if (people < 1) {
            due("fault " + x.fault() + " at " + x.where() + " of " + text, people, 1);
        }
        return x;
    }

    static void end(String name) {
        System.out.println(name + ": " + asked + " answers, " + wrong + " not as due");
        if (wrong != 0) {
            System.exit(1);
        }
    }
}

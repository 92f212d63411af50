import java.util.ArrayList;
import java.util.Arrays;
import java.util.HashMap;
import java.util.List;
import java.util.Map;
import java.util.Random;
import java.util.regex.Matcher;
import java.util.regex.Pattern;

/** Texts of towns by draws, spoilt by draws: the fault and its place are those that a reader by a table finds. */
public final class FaultsTest {
    private static final Pattern TOKEN = Pattern.compile("[a-z]+|[0-9]+|[^ ]", Pattern.DOTALL);
    private static final List<String> LINES = List.of("town", "house", "lane", "person", "good", "visit", "print");
    private static final int[] ROOM = {99, 6, 9, 6, 5, 8, 5};
    /** +sort: a new name; @sort: a name told, ! unlike; #: a whole; ?: a look; | one of some words. */
    private static final String[] FORMS = {
        "dawn #4-11 dusk #12-22 door #60-120", "+house sill #10-59", "@house !house minutes #1-60",
        "+person adult|child|mermaid of @house tall #20-99 upper ?3 lower ?2", "+good size #1-150 at @house to !house",
        "@person @house hour #0-23", "@house ?2 night #0-20"
    };
    private static final String[] POOL = {
        "town", "house", "lane", "person", "good", "visit", "print", "dawn", "sill", "of", "at", "to", "ha", "hb",
        "hc", "pa", "pb", "ga", "gb", "x", "abc", "ab", "abcd", "abe", "0", "1", "5", "9", "10", "12", "20", "21",
        "24", "59", "60", "61", "99", "100", "120", "121", "150", "151", "0020", "abcdefgh", "abcdefghi", ";", ";;",
        "?", "A", "adult", "child", "mermaid", "minutes", "night", "hour"
    };

    public static void main(String[] args) {
        Random r = new Random(7);
        int[] found = new int[8];
        for (int i = 0; i < 60000; i++) {
            String text = Plain.draw(r).text();
            for (int n = r.nextInt(3); n >= 0; n--) {
                text = spoil(r, text);
            }
            if (text.length() <= 1100) {
                found[compare(text)]++;
            }
        }
        for (int fault = 0; fault < 8; fault++) {
            Check.due("texts of fault " + fault + " are drawn", found[fault] > 100, true);
        }
        Check.end("FaultsTest");
    }

    private static int compare(String text) {
        int[] due = read(text);
        HalfDoors x = new HalfDoors();
        int got = Check.tell(x, text);
        Check.due("town: " + text, got, due[0] == 0 ? due[1] : -1);
        Check.due("fault: " + text, x.fault(), due[0]);
        Check.due("where: " + text, x.where(), due[0] == 0 ? -1 : due[1]);
        return due[0];
    }

    private static String spoil(Random r, String text) {
        List<String> lines = new ArrayList<>(Arrays.asList(text.split(";", -1)));
        int i = r.nextInt(lines.size());
        switch (r.nextInt(8)) {
            case 0:
                return text.substring(0, r.nextInt(text.length() + 1));
            case 1:
                int at = r.nextInt(text.length() + 1);
                return text.substring(0, at) + (char) r.nextInt(256) + text.substring(Math.min(text.length(), at + 1));
            case 2:
                lines.add(r.nextInt(lines.size() + 1), lines.get(i));
                break;
            case 3:
                lines.remove(i);
                break;
            case 4:
                lines.add(r.nextInt(lines.size()), lines.remove(i));
                break;
            case 5:
                for (int n = r.nextInt(9); n >= 0; n--) {
                    lines.add(lines.get(i).replace(" ha", " h" + (char) ('b' + n)));
                }
                break;
            default:
                List<String> parts = new ArrayList<>(Arrays.asList(lines.get(i).split(" ")));
                int part = r.nextInt(parts.size());
                String other = POOL[r.nextInt(POOL.length)];
                if (r.nextInt(3) > 0) {
                    parts.set(part, other);
                } else if (r.nextBoolean()) {
                    parts.add(part, other);
                } else {
                    parts.remove(part);
                }
                lines.set(i, String.join(" ", parts));
        }
        return String.join(";", lines);
    }

    /** Fault and place; 0 and how many people without one. */
    private static int[] read(String text) {
        List<String> tokens = new ArrayList<>();
        List<Integer> places = new ArrayList<>();
        Matcher m = TOKEN.matcher(text);
        while (m.find()) {
            tokens.add(m.group().matches("[a-z]{9,}|[0-9]{4,}") ? "?" : m.group());
            places.add(m.start());
        }
        tokens.add("");
        places.add(text.length());
        int[] counts = new int[7];
        Map<String, String> told = new HashMap<>();
        List<String> lanes = new ArrayList<>();
        int i = 0;
        while (true) {
            int line = LINES.indexOf(tokens.get(i));
            int fault = line < 0 ? 1 : line == 0 && counts[0] > 0 ? 3 : line > 0 && counts[0] == 0 ? 6
                    : counts[line] == ROOM[line] ? 5 : 0;
            if (fault > 0) {
                return new int[] {fault, places.get(i)};
            }
            counts[line]++;
            String first = "";
            for (String part : FORMS[line].split(" ")) {
                i++;
                String token = tokens.get(i);
                fault = faultOf(part, token, told, first, line == 2 ? lanes : List.of());
                if (fault > 0) {
                    return new int[] {fault, places.get(i)};
                }
                if (part.startsWith("+")) {
                    told.put(token, part.substring(1));
                } else if (part.startsWith("@")) {
                    first = token;
                } else if (part.startsWith("!")) {
                    lanes.add(line == 2 ? first + " " + token : "");
                }
            }
            i++;
            if (tokens.get(i).isEmpty()) {
                return counts[1] == 0 || counts[3] == 0 ? new int[] {6, text.length()} : new int[] {0, counts[3]};
            }
            if (!tokens.get(i).equals(";")) {
                return new int[] {1, places.get(i)};
            }
            i++;
        }
    }

    private static int faultOf(String part, String token, Map<String, String> told, String first, List<String> lanes) {
        boolean word = token.matches("[a-z]+");
        String rest = part.substring(1);
        switch (part.charAt(0)) {
            case '+':
                return !word || LINES.contains(token) ? 1 : told.containsKey(token) ? 3 : 0;
            case '@':
                return !word || LINES.contains(token) ? 1 : rest.equals(told.get(token)) ? 0 : 2;
            case '!':
                int fault = faultOf("@" + rest, token, told, first, lanes);
                boolean again = token.equals(first) || lanes.contains(first + " " + token)
                        || lanes.contains(token + " " + first);
                return fault > 0 ? fault : again ? 3 : 0;
            case '#':
                if (!token.matches("[0-9]+")) {
                    return 1;
                }
                String[] ends = rest.split("-");
                int whole = Integer.parseInt(token);
                return whole < Integer.parseInt(ends[0]) || whole > Integer.parseInt(ends[1]) ? 4 : 0;
            case '?':
                return !word ? 1 : token.matches("[abcd]{" + rest + "}") ? 0 : 7;
            default:
                return Arrays.asList(part.split("\\|")).contains(token) ? 0 : 1;
        }
    }
}

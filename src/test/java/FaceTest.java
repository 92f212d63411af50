import java.lang.reflect.Constructor;
import java.lang.reflect.Field;
import java.lang.reflect.Method;
import java.lang.reflect.Modifier;
import java.util.Arrays;
import java.util.Set;
import java.util.TreeSet;

/** The public face is the document's, and there is nothing else to be seen of the class. */
public final class FaceTest {
    private static final String[] FACE = {
        "int feed(int,int,int,int,int)", "int town(int)", "int fault()", "int where()",
        "int house(int,int)", "int person(int,int)", "int mark(int,int)", "int good(int,int)", "int light(int)",
        "int seen(int,int,int)", "int taken(int,int,int)", "int pairs(int,int)", "int knownAt(int)",
        "int fine(int,int,int)", "int visit(int,int)", "int fines(int)", "int bares(int)", "int met(int)",
        "int busiest()", "int apart(int,int)", "int tells()", "int another(int)", "int leastSill()",
        "int way(int,int)", "int wayAt(int,int,int)", "int carried()", "int carrier(int)", "int alone(int)",
        "int stuck()", "int hands(int)", "int round(int)", "int pieces()",
        "int fits()", "int could(int)", "int surely(int)", "int ask()",
        "int shop(int,int,boolean)", "int rests()", "int rest()", "int day(int)", "int dayOf(int,int,int)",
        "int go(int,int)", "boolean hand(int,int)", "int hours(int)", "boolean undo()", "int image()",
        "boolean back(int)", "int led(int)", "int size(int)", "int trouble()"
    };

    public static void main(String[] args) throws Exception {
        Class<?> face = HalfDoors.class;
        Check.due("final", Modifier.isFinal(face.getModifiers()), true);
        Set<String> found = new TreeSet<>();
        Set<String> hidden = new TreeSet<>();
        for (Method m : face.getDeclaredMethods()) {
            if (Modifier.isPrivate(m.getModifiers())) {
                hidden.add(m.getName());
            } else {
                Check.due(m.getName() + " is public", Modifier.isPublic(m.getModifiers()), true);
                found.add(told(m));
            }
        }
        Set<String> due = new TreeSet<>(Arrays.asList(FACE));
        Check.due("the methods " + found, found.equals(due), true);
        for (String call : FACE) {
            String name = call.substring(call.indexOf(' ') + 1, call.indexOf('('));
            Check.due("private " + name, hidden.contains(name), false);
        }
        for (Field f : face.getDeclaredFields()) {
            boolean open = !Modifier.isPrivate(f.getModifiers());
            Check.due("field " + f.getName(), open, f.getName().equals("NONE"));
        }
        Constructor<?>[] made = face.getDeclaredConstructors();
        Check.due("constructors", made.length, 1);
        Check.due("its parameters", made[0].getParameterCount(), 0);
        Check.due("NONE", HalfDoors.NONE, -1);
        for (Class<?> inside : face.getDeclaredClasses()) {
            int m = inside.getModifiers();
            Check.due(inside.getName() + " static, not public",
                    Modifier.isStatic(m) && !Modifier.isPublic(m) && !Modifier.isProtected(m), true);
        }
        Check.end("FaceTest");
    }

    private static String told(Method m) {
        StringBuilder s = new StringBuilder();
        for (Class<?> c : m.getParameterTypes()) {
            s.append(s.length() > 0 ? "," : "").append(c.getName());
        }
        return m.getReturnType().getName() + " " + m.getName() + "(" + s + ")";
    }
}

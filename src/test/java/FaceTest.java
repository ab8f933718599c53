import java.lang.reflect.Constructor;
import java.lang.reflect.Field;
import java.lang.reflect.Method;
import java.lang.reflect.Modifier;
import java.util.Set;
import java.util.TreeSet;

/** The public face of the document, and what LANGUAGE.md says of members and classes (rules 1, 2, 5, 11). */
public final class FaceTest {
    private static final Due DUE = new Due("FaceTest");
    private static final String[] FACE = {"letter 1", "kitchen 0", "place 2", "law 1", "may 2", "turn 2", "inOrder 0",
        "gaps 0", "least 0", "cheapest 0", "ways 0", "far 1", "worst 1", "before 1", "next 1", "rule 1", "row 1",
        "path 0", "judge 0", "blind 0", "fewest 1", "match 0", "shuffled 2", "sights 2", "image 0", "on 0", "count 1"};

    public static void main(String[] args) {
        face();
        members(TopTurned.class, true);
        Class<?>[] inside = TopTurned.class.getDeclaredClasses();
        DUE.holds("at most some twelve classes", inside.length <= 11);
        for (Class<?> c : inside) {
            DUE.holds(c + " is static, and not public", Modifier.isStatic(c.getModifiers())
                    && !Modifier.isPublic(c.getModifiers()) && !Modifier.isProtected(c.getModifiers()));
            members(c, false);
        }
        DUE.end();
    }

    private static void face() {
        DUE.holds("public and final", TopTurned.class.getModifiers() == (Modifier.PUBLIC | Modifier.FINAL));
        Set<String> found = new TreeSet<>();
        for (Method m : TopTurned.class.getDeclaredMethods()) {
            if (Modifier.isPublic(m.getModifiers())) {
                found.add(m.getName() + " " + m.getParameterCount());
                DUE.holds(m + " answers an int", m.getReturnType() == int.class);
            }
        }
        DUE.holds("the face is " + found, found.equals(new TreeSet<>(Set.of(FACE))));
        Constructor<?>[] makers = TopTurned.class.getDeclaredConstructors();
        DUE.holds("one public constructor", makers.length == 1 && Modifier.isPublic(makers[0].getModifiers())
                && makers[0].getParameterCount() == 0);
    }

    private static void members(Class<?> c, boolean outer) {
        Set<String> names = new TreeSet<>();
        for (String name : FACE) {
            names.add(name.substring(0, name.indexOf(' ')));
        }
        int fields = 0;
        for (Field f : c.getDeclaredFields()) {
            boolean isStatic = Modifier.isStatic(f.getModifiers());
            fields += isStatic ? 0 : 1;
            DUE.holds(f + " is final, if static", !isStatic || Modifier.isFinal(f.getModifiers()));
            DUE.holds(f + " is private", !outer || Modifier.isPrivate(f.getModifiers()));
        }
        DUE.holds(c + " has at most some twenty fields", fields <= 20);
        for (Method m : c.getDeclaredMethods()) {
            boolean ofFace = outer && Modifier.isPublic(m.getModifiers());
            DUE.holds(m + " is private", !outer || ofFace || Modifier.isPrivate(m.getModifiers()));
            DUE.holds(m + " has a name of its own", ofFace || !names.contains(m.getName()));
            DUE.holds(m + " takes at most seven", m.getParameterCount() <= 7);
        }
    }
}

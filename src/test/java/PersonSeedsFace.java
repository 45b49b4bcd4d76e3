import java.lang.reflect.Constructor;
import java.lang.reflect.Field;
import java.lang.reflect.Member;
import java.lang.reflect.Method;
import java.lang.reflect.Modifier;
import java.util.Arrays;
import java.util.Set;
import java.util.TreeSet;
import java.util.stream.Collectors;

/** The class shows the document's face, and nothing else of it can be seen from outside. */
public final class PersonSeedsFace {
    private static final String[] FACE = {
        "NONE int",
        "PersonSeeds(long)",
        "room(int) int IllegalArgumentException IllegalStateException",
        "door(int, int, int) int IllegalArgumentException IllegalStateException",
        "arrives(int, int) int IllegalArgumentException IllegalStateException",
        "draw(int, int, int) int IllegalArgumentException",
        "run(int) int IllegalArgumentException IllegalStateException",
        "person(int, int) int IllegalArgumentException",
        "at(int) int IllegalArgumentException",
        "was(int, int) int IllegalArgumentException",
        "waited(int) int IllegalArgumentException",
        "in(int, int) int IllegalArgumentException",
        "inThen(int, int) int IllegalArgumentException",
        "through(int, boolean) int IllegalArgumentException",
        "distance(int, int) int IllegalArgumentException",
        "met(int, int) int IllegalArgumentException",
        "entered(boolean) int",
    };
    private static int wrong = 0;

    public static void main(String[] args) {
        Class<?> face = PersonSeeds.class;
        Set<String> due = new TreeSet<>(Arrays.asList(FACE));
        Set<String> seen = new TreeSet<>();
        for (Field f : face.getDeclaredFields()) {
            if (isSeen(f)) {
                seen.add(f.getName() + " " + f.getType().getSimpleName());
            }
        }
        for (Constructor<?> c : face.getDeclaredConstructors()) {
            if (isSeen(c)) {
                seen.add(c.getName() + names(c.getParameterTypes()));
            }
        }
        for (Method m : face.getDeclaredMethods()) {
            if (isSeen(m)) {
                seen.add(told(m));
            }
        }
        tell("the class is public and final", face.getModifiers() == (Modifier.PUBLIC | Modifier.FINAL));
        for (String line : due) {
            tell("the face has " + line, seen.contains(line));
        }
        for (String line : seen) {
            tell("the document has " + line, due.contains(line));
        }
        checkMembers(face);
        for (Class<?> inside : face.getDeclaredClasses()) {
            tell(inside + " is static", Modifier.isStatic(inside.getModifiers()));
            tell(inside + " is not public", !Modifier.isPublic(inside.getModifiers()));
            checkMembers(inside);
        }
        System.out.println(wrong == 0 ? "the face is as due" : wrong + " faults of the face");
        if (wrong != 0) {
            System.exit(1);
        }
    }

    /** Static fields are final, and private methods have names of their own. */
    private static void checkMembers(Class<?> kind) {
        Set<String> names = Arrays.stream(PersonSeeds.class.getMethods()).map(Method::getName)
            .collect(Collectors.toSet());
        for (Field f : kind.getDeclaredFields()) {
            tell(f + " is final", !Modifier.isStatic(f.getModifiers()) || Modifier.isFinal(f.getModifiers()));
        }
        for (Method m : kind.getDeclaredMethods()) {
            tell(m + " has its own name", Modifier.isPublic(m.getModifiers()) || !names.contains(m.getName()));
        }
    }

    private static boolean isSeen(Member m) {
        return !Modifier.isPrivate(m.getModifiers());
    }

    private static String names(Class<?>[] types) {
        return Arrays.stream(types).map(Class::getSimpleName).collect(Collectors.joining(", ", "(", ")"));
    }

    private static String told(Method m) {
        StringBuilder text = new StringBuilder(m.getName()).append(names(m.getParameterTypes()));
        text.append(' ').append(m.getReturnType().getSimpleName());
        for (Class<?> e : m.getExceptionTypes()) {
            text.append(' ').append(e.getSimpleName());
        }
        return text.toString();
    }

    private static void tell(String what, boolean holds) {
        if (!holds) {
            wrong++;
            System.out.println("does not hold: " + what);
        }
    }
}

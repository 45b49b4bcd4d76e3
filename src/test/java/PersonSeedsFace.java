import java.lang.reflect.Field;
import java.lang.reflect.Member;
import java.lang.reflect.Method;
import java.lang.reflect.Modifier;
import java.util.Arrays;
import java.util.Set;
import java.util.TreeSet;
import java.util.stream.Collectors;

/** The class shows the document's face, and nothing else of it can be seen from outside. */
public final class PersonSeedsFace {
    private static final String[] FACE = {
        "public static final int NONE",
        "public PersonSeeds(long)",
        "public int room(int) throws IllegalArgumentException,IllegalStateException",
        "public int door(int,int,int) throws IllegalArgumentException,IllegalStateException",
        "public int arrives(int,int) throws IllegalArgumentException,IllegalStateException",
        "public int draw(int,int,int) throws IllegalArgumentException",
        "public int run(int) throws IllegalArgumentException,IllegalStateException",
        "public int person(int,int) throws IllegalArgumentException",
        "public int at(int) throws IllegalArgumentException",
        "public int was(int,int) throws IllegalArgumentException",
        "public int waited(int) throws IllegalArgumentException",
        "public int in(int,int) throws IllegalArgumentException",
        "public int inThen(int,int) throws IllegalArgumentException",
        "public int through(int,boolean) throws IllegalArgumentException",
        "public int distance(int,int) throws IllegalArgumentException",
        "public int met(int,int) throws IllegalArgumentException",
        "public int entered(boolean)",
    };
    private static int wrong = 0;

    public static void main(String[] args) {
        Class<?> face = PersonSeeds.class;
        Set<String> due = new TreeSet<>(Arrays.asList(FACE));
        Set<String> seen = new TreeSet<>();
        addSeen(seen, face.getDeclaredFields());
        addSeen(seen, face.getDeclaredConstructors());
        addSeen(seen, face.getDeclaredMethods());
        tell("the class is public and final", face.getModifiers() == (Modifier.PUBLIC | Modifier.FINAL));
        for (String line : due) {
            tell("the face has " + line, seen.contains(line));
        }
        for (String line : seen) {
            tell("the document has " + line, due.contains(line));
        }
        checkMembers(face);
        for (Class<?> inside : face.getDeclaredClasses()) {
            tell(inside + " is static", Modifier.isStatic(inside.getModifiers()));
            tell(inside + " is private or package-visible",
                (inside.getModifiers() & (Modifier.PUBLIC | Modifier.PROTECTED)) == 0);
            checkMembers(inside);
        }
        System.out.println(wrong == 0 ? "the face is as due" : wrong + " faults of the face");
        if (wrong != 0) {
            System.exit(1);
        }
    }

    /** Static fields are final, and private methods have names of their own. */
    private static void checkMembers(Class<?> kind) {
        Set<String> names = Arrays.stream(PersonSeeds.class.getMethods()).map(Method::getName)
            .collect(Collectors.toSet());
        for (Field f : kind.getDeclaredFields()) {
            tell(f + " is final", !Modifier.isStatic(f.getModifiers()) || Modifier.isFinal(f.getModifiers()));
        }
        for (Method m : kind.getDeclaredMethods()) {
            tell(m + " has its own name", Modifier.isPublic(m.getModifiers()) || !names.contains(m.getName()));
        }
    }

    /** Each with its modifiers: a test of the same package could call what is not public too. */
    private static void addSeen(Set<String> seen, Member[] members) {
        for (Member m : members) {
            if (!Modifier.isPrivate(m.getModifiers())) {
                seen.add(m.toString().replace("PersonSeeds.", "").replace("java.lang.", ""));
            }
        }
    }

    private static void tell(String what, boolean holds) {
        if (!holds) {
            wrong++;
            System.out.println("does not hold: " + what);
        }
    }
}

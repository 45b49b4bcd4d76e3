import java.io.IOException;
import java.lang.reflect.InvocationTargetException;
import java.lang.reflect.Method;
import java.lang.reflect.Modifier;
import java.nio.file.Files;
import java.nio.file.Path;
import java.util.HashMap;
import java.util.HashSet;
import java.util.List;
import java.util.Map;
import java.util.Set;
import java.util.regex.Matcher;
import java.util.regex.Pattern;

/** README.md's example, read from there and called line by line, answers as it says; no call is left out. */
public final class PersonSeedsReadme extends DueAnswers {
    private static final Pattern MADE = Pattern.compile("PersonSeeds house = new PersonSeeds\\((-?\\d+)L\\);");
    private static final Pattern CALLED =
        Pattern.compile("(?:int (\\w+) = )?house\\.(\\w+)\\(([^)]*)\\); +// (-?\\w+)(?:,.*)?");

    private static final Map<String, Integer> names = new HashMap<>();
    private static final Set<String> called = new HashSet<>();
    private static PersonSeeds house;

    public static void main(String[] args) throws IOException {
        List<String> lines = Files.readAllLines(Path.of("README.md"));
        int begin = lines.indexOf("```java");
        int length = begin < 0 ? 0 : lines.subList(begin, lines.size()).indexOf("```");
        for (String line : lines.subList(begin + 1, begin + Math.max(length, 1))) {
            callLine(line);
        }
        for (Method m : PersonSeeds.class.getDeclaredMethods()) {
            if (Modifier.isPublic(m.getModifiers())) {
                checkTold(m, lines);
            }
        }
        end();
    }

    private static void callLine(String line) {
        Matcher made = MADE.matcher(line);
        Matcher call = CALLED.matcher(line);
        if (made.matches()) {
            house = new PersonSeeds(Long.parseLong(made.group(1)));
        } else if (house == null || !call.matches()) {
            tellWrong("README.md has a line that this test can't call: " + line);
        } else {
            checkCall(call);
        }
    }

    private static void checkCall(Matcher call) {
        String got = answerOf(call.group(2), call.group(3).split(", "));
        if (!got.equals(call.group(4))) {
            tellWrong("README.md: " + call.group() + " answered " + got);
        } else if (call.group(1) != null) {
            names.put(call.group(1), Integer.parseInt(got));
        }
        called.add(call.group(2));
    }

    private static String answerOf(String name, String[] words) {
        try {
            return String.valueOf(method(name).invoke(house, numbers(words)));
        } catch (InvocationTargetException e) {
            return e.getCause().getClass().getSimpleName();
        } catch (IllegalAccessException e) {
            return e.toString();
        }
    }

    private static Method method(String name) {
        for (Method m : PersonSeeds.class.getDeclaredMethods()) {
            if (Modifier.isPublic(m.getModifiers()) && m.getName().equals(name)) {
                return m;
            }
        }
        throw new IllegalStateException("README.md calls " + name + ", which the class has not");
    }

    private static Object[] numbers(String[] words) {
        Object[] found = new Object[words.length];
        for (int i = 0; i < words.length; i++) {
            String word = words[i];
            if (word.equals("true") || word.equals("false")) {
                found[i] = word.equals("true");
            } else {
                found[i] = names.containsKey(word) ? names.get(word) : Integer.parseInt(word);
            }
        }
        return found;
    }

    private static void checkTold(Method m, List<String> lines) {
        if (!called.contains(m.getName())) {
            tellWrong("README.md's example does not call " + m.getName());
        }
        Pattern row = Pattern.compile("\\| `" + m.getName() + "\\([^)]*\\)` \\|.*");
        if (lines.stream().noneMatch(line -> row.matcher(line).matches())) {
            tellWrong("README.md's calls have no row of " + m.getName());
        }
    }
}

import java.lang.reflect.Method;
import java.lang.reflect.Modifier;
import java.nio.file.Files;
import java.nio.file.Path;
import java.util.Set;
import java.util.TreeSet;
import java.util.regex.Matcher;
import java.util.regex.Pattern;

/** README.md shows each call of the face, and what it says they answer is so. */
public final class ReadmeTest {
    private static final Pattern SHOWN = Pattern.compile("x\\.(\\w+)\\(([^)]*)\\); +// (-?\\d+): .*");

    public static void main(String[] args) throws Exception {
        Due due = new Due();
        due.about("README.md");
        Run run = new Run(due);
        Set<String> shown = new TreeSet<>();
        for (String line : Files.readAllLines(Path.of("README.md"))) {
            Matcher m = SHOWN.matcher(line);
            due.holds(m.matches() || !line.startsWith("x."), "what it answers is told: " + line);
            if (!m.matches()) continue;
            shown.add(m.group(1));
            run.is(m.group(1) + "(" + m.group(2).replace("L", "") + ")", Long.parseLong(m.group(3)));
        }
        for (Method m : SmallMakers.class.getDeclaredMethods()) {
            if (Modifier.isPublic(m.getModifiers())) due.holds(shown.contains(m.getName()), m.getName() + " is shown");
        }
        due.end();
    }
}

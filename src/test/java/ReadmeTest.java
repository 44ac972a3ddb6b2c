import java.io.IOException;
import java.lang.reflect.Method;
import java.nio.file.Files;
import java.nio.file.Path;
import java.util.HashSet;
import java.util.List;
import java.util.Set;
import java.util.regex.Matcher;
import java.util.regex.Pattern;

/** Makes the calls that README.md shows, and holds what they answer against what it says there. */
public final class ReadmeTest {
    private static final Check c = new Check("readme");
    private static final Pattern CALL = Pattern.compile("x\\.(\\w+)\\(([^)]*)\\);\\s*// (-?\\d+)\\b.*");
    private static final Pattern TAPE = Pattern.compile("tape\\(x, \"([^\"]*)\"\\);");
    private static final Set<String> shown = new HashSet<>();
    private static CarriedWorks x;
    private static int made;

    public static void main(String[] args) throws Exception {
        int calls = 0;
        for (String line : codeOf(Path.of("README.md"))) {
            if (line.equals("CarriedWorks x = new CarriedWorks();")) {
                x = new CarriedWorks();
                made++;
            } else if (line.startsWith("x.")) {
                call(line);
                calls++;
            } else if (line.startsWith("tape(x,")) {
                Matcher told = TAPE.matcher(line);
                c.holds(line, told.matches() && x != null);
                tape(x, told.group(1));
            }
        }
        c.due("objects made", made, 1);
        c.holds("the method tape() as it stands here", tapeMethod("README.md", "").equals(tapeMethod("src/test/java/ReadmeTest.java", "    private ")));
        c.holds("calls enough", calls > 80);
        for (Method m : CarriedWorks.class.getMethods()) {
            if (m.getDeclaringClass() == CarriedWorks.class) {
                c.holds(m.getName() + " is shown", shown.contains(m.getName()));
            }
        }
        c.close();
    }

    /** Lines of the blocks of Java; those of the method there are indented, so none of them is a call. */
    private static List<String> codeOf(Path page) throws IOException {
        boolean[] inside = {false};
        return Files.readAllLines(page).stream().filter(line -> {
            if (line.startsWith("```")) {
                inside[0] = line.equals("```java");
                return false;
            }
            return inside[0];
        }).toList();
    }

    // As README.md has it, so that what stands there is compiled and run.
    private static void tape(CarriedWorks x, String text) {
        int[] fours = new int[5];
        x.end(0);
        for (int from = 0; from < text.length(); from += 20) {
            for (int i = 0; i < 20; i++) {
                int sign = from + i < text.length() ? text.charAt(from + i) : ' ';
                fours[i / 4] = fours[i / 4] << 8 | sign;
            }
            x.feed(fours[0], fours[1], fours[2], fours[3], fours[4]);
        }
        x.end(text.length());
    }

    /** The words of the method from its first line to where it empties the rest, blanks aside. */
    private static String tapeMethod(String page, String ahead) throws IOException {
        String text = Files.readString(Path.of(page));
        int from = text.indexOf(ahead + "static void tape(CarriedWorks x, String text) {") + ahead.length();
        int past = text.indexOf("x.end(text.length());", from);
        return past < 0 ? page : text.substring(from, past).replaceAll("\\s+", " ");
    }

    private static void call(String line) throws Exception {
        Matcher told = CALL.matcher(line);
        c.holds(line, told.matches());
        if (!told.matches()) {
            return;
        }
        Method method = named(told.group(1));
        Class<?>[] types = method.getParameterTypes();
        String[] words = types.length == 0 ? new String[0] : told.group(2).split(", ");
        c.due(line + " has so many arguments", words.length, types.length);
        Object[] values = new Object[types.length];
        for (int i = 0; i < types.length; i++) {
            long value = Long.decode(words[i]);
            values[i] = types[i] == long.class ? (Object) value : (Object) (int) value;
        }
        shown.add(method.getName());
        c.due(line, (int) method.invoke(x, values), Long.parseLong(told.group(3)));
    }

    private static Method named(String name) {
        for (Method m : CarriedWorks.class.getMethods()) {
            if (m.getName().equals(name)) {
                return m;
            }
        }
        throw new IllegalStateException("no method " + name);
    }
}

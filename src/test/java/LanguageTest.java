import java.io.IOException;
import java.lang.reflect.Constructor;
import java.lang.reflect.Field;
import java.lang.reflect.Method;
import java.lang.reflect.Modifier;
import java.nio.file.Files;
import java.nio.file.Path;
import java.util.ArrayList;
import java.util.Arrays;
import java.util.HashMap;
import java.util.HashSet;
import java.util.List;
import java.util.Map;
import java.util.Set;
import java.util.TreeSet;
import java.util.regex.Matcher;
import java.util.regex.Pattern;

/** The face as the document has it, and those rules of LANGUAGE.md that can be seen from the text. */
public final class LanguageTest {
    private static final Check c = new Check("language");
    private static final String FACE = "feed(int,int,int,int,int) end(int) old(int) renew(int) fault(int) span(int,int,int,int)"
            + " run(int,int) runNew(int,int) field(int) did() ways(int) way(int,int,int) rule(int,int,int) dead() kinds()"
            + " make(int) wish(int,int,int,int) casing(int,int,int,int,int) unlike(int) parts(int,int) where(int,int)"
            + " night(int,int) heaps() heap(int,int) judge(int,int) calls(int,int,int) needs(int,int) live(int) back(int)"
            + " retire(int) state(int) plan(int) planned(int) form(int,int) put(int,int,int) lead(int) row(int,int) check()"
            + " count(int) keep(int) restore(int) sheet(int,int,int) write(int,int,long) paste(int,int,int,int,int)";

    public static void main(String[] args) throws IOException {
        face();
        classes();
        depth();
        String source = Files.readString(Path.of("src/main/java/CarriedWorks.java"));
        words(source);
        library(source);
        methods(source);
        c.close();
    }

    private static String signature(Method m) {
        StringBuilder text = new StringBuilder(m.getName()).append("(");
        for (Class<?> type : m.getParameterTypes()) {
            text.append(text.charAt(text.length() - 1) == '(' ? "" : ",").append(type.getName());
        }
        return text.append(")").toString();
    }

    private static void face() {
        Set<String> seen = new TreeSet<>();
        Set<String> names = new HashSet<>();
        for (Method m : CarriedWorks.class.getDeclaredMethods()) {
            if (Modifier.isPublic(m.getModifiers())) {
                seen.add(signature(m));
                names.add(m.getName());
                c.holds(m + " answers an int", m.getReturnType() == int.class);
                c.holds(m + " is of an object", !Modifier.isStatic(m.getModifiers()));
            } else {
                c.holds(m + " is private", Modifier.isPrivate(m.getModifiers()));
            }
        }
        Set<String> want = new TreeSet<>(Arrays.asList(FACE.split(" ")));
        if (!seen.equals(want)) {
            System.out.println("seen " + seen + "\nwant " + want);
        }
        c.holds("the face", seen.equals(want));
        for (Class<?> type : allClasses()) {
            for (Method m : type.getDeclaredMethods()) {
                boolean ofTheFace = type == CarriedWorks.class && Modifier.isPublic(m.getModifiers());
                c.holds(type + " " + m.getName() + " has a name of its own", ofTheFace || !names.contains(m.getName()));
            }
        }
        for (Field f : CarriedWorks.class.getDeclaredFields()) {
            boolean none = f.getName().equals("NONE") && Modifier.isPublic(f.getModifiers());
            c.holds(f + " is private", none || Modifier.isPrivate(f.getModifiers()));
        }
        Constructor<?>[] made = CarriedWorks.class.getDeclaredConstructors();
        c.due("constructors", made.length, 1);
        c.holds("public, of nothing", Modifier.isPublic(made[0].getModifiers()) && made[0].getParameterCount() == 0);
        c.holds("public and final", Modifier.isPublic(CarriedWorks.class.getModifiers()) && Modifier.isFinal(CarriedWorks.class.getModifiers()));
    }

    private static List<Class<?>> allClasses() {
        List<Class<?>> all = new ArrayList<>();
        all.add(CarriedWorks.class);
        all.addAll(Arrays.asList(CarriedWorks.class.getDeclaredClasses()));
        return all;
    }

    private static void classes() {
        c.holds("twelve classes at most", allClasses().size() <= 12);
        for (Class<?> type : allClasses()) {
            int fields = 0;
            for (Field f : type.getDeclaredFields()) {
                if (Modifier.isStatic(f.getModifiers())) {
                    c.holds(f + " is final", Modifier.isFinal(f.getModifiers()));
                } else {
                    fields++;
                }
            }
            c.holds(type + " has twenty fields at most", fields <= 20);
            for (Method m : type.getDeclaredMethods()) {
                c.holds(m + " has seven parameters at most", m.getParameterCount() <= 7);
            }
            if (type != CarriedWorks.class) {
                c.holds(type + " is static and not public", Modifier.isStatic(type.getModifiers())
                        && !Modifier.isPublic(type.getModifiers()) && !Modifier.isProtected(type.getModifiers()));
                c.due(type + " has no classes", type.getDeclaredClasses().length, 0);
            }
        }
    }

    /** The longest chain of calls, the public method its first; a chain that comes back to itself never ends. */
    private static void depth() {
        Map<String, List<String>> called = new HashMap<>();
        for (Class<?> type : allClasses()) {
            called.putAll(new ClassCode(type).called());
        }
        int deepest = 0;
        for (String method : called.keySet()) {
            deepest = Math.max(deepest, depthOf(method, called, 0));
        }
        c.holds("calls go eight deep at most: " + deepest, deepest <= 8);
        c.holds("calls were seen: " + deepest, deepest > 3);
    }

    private static int depthOf(String method, Map<String, List<String>> called, int above) {
        int deepest = 0;
        if (above > 20) {
            return above;
        }
        for (String other : called.getOrDefault(method, List.of())) {
            deepest = Math.max(deepest, depthOf(other, called, above + 1));
        }
        return deepest + 1;
    }

    private static String bare(String source) {
        String noText = source.replaceAll("(?s)/\\*.*?\\*/", " ").replaceAll("//[^\n]*", " ");
        return noText.replaceAll("\"[^\"\n]*\"", "\"\"").replaceAll("'(\\\\.|[^'\\\\])'", "'x'");
    }

    private static void words(String source) {
        String code = bare(source);
        for (String word : new String[] {"throw", "throws", "try", "catch", "finally", "synchronized", "assert", "volatile",
                "package", "native", "Exception", "Random", "Thread", "Object", "Iterator", "var", "hashCode", "toString",
                "addExact", "double", "float", "instanceof"}) {
            c.holds("no " + word, !Pattern.compile("\\b" + word + "\\b").matcher(code).find());
        }
        c.holds("no lambda", !code.contains("->"));
        c.holds("no method reference", !code.contains("::"));
        c.holds("no joining by +", !code.contains("\" +") && !code.contains("+ \""));
        c.holds("no static block", !Pattern.compile("static\\s*\\{").matcher(code).find());
        c.holds("no loop without an end", !Pattern.compile("while\\s*\\(\\s*true|for\\s*\\(\\s*;\\s*;").matcher(code).find());
        c.holds("signs of 1 to 127", source.chars().allMatch(sign -> sign > 0 && sign < 128));
    }

    private static void library(String source) {
        String code = bare(source);
        Matcher imports = Pattern.compile("import ([\\w.]+)").matcher(code);
        while (imports.find()) {
            c.holds("import " + imports.group(1), imports.group(1).equals("java.util.Arrays"));
        }
        Set<String> allowed = Set.of("Arrays.fill", "Arrays.copyOf", "Arrays.copyOfRange", "System.arraycopy", "Math.min", "Math.max",
                "Math.floorDiv", "Math.floorMod", "Math.abs", "Integer.bitCount");
        Matcher uses = Pattern.compile("\\b(?:Arrays|System|Math|Integer|Long|String)\\.\\w+").matcher(code);
        while (uses.find()) {
            c.holds(uses.group() + " of the library", allowed.contains(uses.group()) || code.contains("import java.util." + uses.group()));
        }
    }

    private static void methods(String source) {
        int lines = 0;
        String name = "";
        boolean inside = false;
        for (String line : source.split("\n")) {
            Matcher head = Pattern.compile("^(?: {4}| {8})(?:[\\w\\[\\]]+ )*(\\w+)\\(.*\\{$").matcher(line);
            if (!inside && head.matches()) {
                inside = true;
                name = head.group(1);
                lines = 0;
            }
            lines++;
            if (inside && line.matches("^(?: {4}| {8})\\}$")) {
                inside = false;
                c.holds(name + " has sixty lines at most: " + lines, lines <= 60);
            }
        }
    }
}

import java.util.Arrays;
import java.util.List;
import java.util.Map;
import java.util.Set;

/**
 * Rule 12 of LANGUAGE.md, for all calls in all states: no method has an instruction that makes an
 * object or an array, and none calls one of the library that may. Constructors alone make rows.
 */
public final class MakesNothingTest {
    private static final Check c = new Check("makes nothing");

    /** Those of the library that are known to make nothing. */
    private static final Set<String> MAKE_NOTHING = Set.of(
            "java/util/Arrays.fill([II)V", "java/lang/System.arraycopy(Ljava/lang/Object;ILjava/lang/Object;II)V",
            "java/lang/Math.min(II)I", "java/lang/Math.max(II)I", "java/lang/Math.floorDiv(II)I", "java/lang/Math.floorMod(II)I",
            "java/lang/Integer.bitCount(I)I");

    /** What this test must see, each by a method of its own. */
    private static final class Sample {
        private final int[] row = {1, 2};

        int[] array() {
            return new int[3];
        }

        String[] arrayOfObjects() {
            return new String[3];
        }

        int[][] arrayOfArrays(int n) {
            return new int[n][2];
        }

        Object object() {
            return new Object();
        }

        int text(int i) {
            return "constant".charAt(i);
        }

        String joined(int i) {
            return i + "" + row.length;
        }

        Runnable lambda() {
            return () -> row[0]++;
        }

        Integer boxed(int i) {
            return i;
        }

        int[] copied() {
            return Arrays.copyOf(row, 1);
        }

        int[] cloned() {
            return row.clone();
        }

        int nothing(int i) {
            Arrays.fill(row, i);
            switch (i) {
                case 1: return Math.min(row[0], i);
                case 2: return nothing(1);
                case 700000: return row.length;
                default: return i + 100000;
            }
        }
    }

    public static void main(String[] args) {
        seesWhatIsMade();
        classMakesNothing();
        c.close();
    }

    private static boolean isMaker(String method) {
        return method.contains(".<init>") || method.contains(".<clinit>");
    }

    private static String madeBy(ClassCode code, String method) {
        StringBuilder made = new StringBuilder();
        for (String what : code.making().get(method)) {
            made.append(' ').append(what);
        }
        for (String other : code.called().get(method)) {
            boolean own = other.startsWith("CarriedWorks") || other.startsWith("MakesNothingTest$Sample");
            if (own ? isMaker(other) : !MAKE_NOTHING.contains(other)) {
                made.append(' ').append(other);
            }
        }
        return made.toString();
    }

    private static void seesWhatIsMade() {
        ClassCode code = new ClassCode(Sample.class);
        int seen = 0;
        for (String method : code.making().keySet()) {
            boolean makes = !method.contains(".nothing(") && !method.contains("lambda$") && !isMaker(method);
            if (!isMaker(method)) {
                c.holds(method + " makes:" + madeBy(code, method), makes != madeBy(code, method).isEmpty());
                seen++;
            }
        }
        c.due("methods of the sample", seen, 12);
    }

    private static void classMakesNothing() {
        int seen = looksAt(CarriedWorks.class);
        c.holds("the whole face was looked at", seen >= 45);
        for (Class<?> type : CarriedWorks.class.getDeclaredClasses()) {
            c.holds(type + " was looked at", looksAt(type) > 0);
        }
    }

    private static int looksAt(Class<?> type) {
        ClassCode code = new ClassCode(type);
        int seen = 0;
        for (Map.Entry<String, List<String>> method : code.making().entrySet()) {
            seen++;
            if (!isMaker(method.getKey())) {
                c.holds(method.getKey() + " makes:" + madeBy(code, method.getKey()), madeBy(code, method.getKey()).isEmpty());
            }
        }
        return seen;
    }
}

import java.lang.reflect.InvocationTargetException;
import java.lang.reflect.Method;
import java.lang.reflect.Modifier;
import java.util.Arrays;
import java.util.Comparator;

/** Compares answers with those that are due; used by every test. */
final class Due {
    private static final int MOST_TOLD = 40;

    private int wrong = 0;
    private int right = 0;
    /** The name of the test that is running, told ahead of what it finds. */
    private String test = "";

    void is(String call, long got, long want) {
        if (got == want) {
            right++;
            return;
        }
        tell(call + " answered " + got + ", due is " + want);
    }

    /** For what an object tells as a whole: stateOf() and its like. */
    void same(String what, String got, String want) {
        if (got.equals(want)) {
            right++;
            return;
        }
        tell(what + ": there is\n" + got + "\ndue is\n" + want);
    }

    private void tell(String fault) {
        wrong++;
        if (wrong <= MOST_TOLD) {
            System.out.println(test + fault);
        }
    }

    boolean allRight() {
        return wrong == 0;
    }

    void end() {
        System.out.println(right + " answers as due, " + wrong + " not");
        if (wrong != 0 || right == 0) {
            System.exit(1);
        }
    }

    /**
     * Runs each method of a class whose name begins with "promise", and ends. So no test can be written and
     * then forgotten in a list, and those behind one that fails are run, too.
     */
    static void runAll(Class<?> tests, Due due) throws IllegalAccessException {
        Method[] methods = tests.getDeclaredMethods();
        Arrays.sort(methods, Comparator.comparing(Method::getName));
        int run = 0;
        for (Method method : methods) {
            if (method.getName().startsWith("promise") && Modifier.isStatic(method.getModifiers())) {
                due.runOne(method);
                run++;
            }
        }
        System.out.print(run + " tests, ");
        due.end();
    }

    private void runOne(Method method) throws IllegalAccessException {
        test = method.getName() + ": ";
        int before = right + wrong;
        method.setAccessible(true);
        try {
            method.invoke(null);
        } catch (InvocationTargetException e) {
            tell("ended with " + e.getCause());
        }
        if (right + wrong == before) {
            tell("compared nothing");
        }
        test = "";
    }

    /** Puts a text on the pad, up to eight characters a call; answers what the last call did. */
    static int putText(CopyPlates x, String text) {
        int answer = 0;
        for (int from = 0; from < text.length(); from += 8) {
            answer = x.put(pack(text.substring(from, Math.min(from + 8, text.length()))));
        }
        return answer;
    }

    static long pack(String text) {
        long packed = 0;
        for (int i = 0; i < text.length(); i++) {
            packed = packed << 8 | text.charAt(i);
        }
        return packed;
    }

    /** Everything that can be asked about a night but its pad, as one text. */
    static String stateOf(CopyPlates x) {
        StringBuilder all = new StringBuilder();
        all.append(countsOf(x));
        int pieces = x.count(1);
        for (int piece = 0; piece < pieces; piece++) {
            all.append('\n');
            for (int what = 0; what <= 10; what++) {
                all.append(x.ofPiece(piece, what)).append(' ');
            }
        }
        int plates = x.count(2);
        for (int plate = 0; plate < plates; plate++) {
            all.append('\n');
            for (int what = 0; what <= 4; what++) {
                all.append(x.ofPlate(plate, what)).append(' ');
            }
        }
        return all.toString();
    }

    /** The counts of a night without its pad and its history; fewer calls than stateOf(). */
    static String countsOf(CopyPlates x) {
        StringBuilder all = new StringBuilder();
        for (int what = 0; what <= 13; what++) {
            all.append(x.count(what)).append(' ');
        }
        return all.toString();
    }
}

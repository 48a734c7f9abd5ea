import java.lang.reflect.Constructor;
import java.lang.reflect.Field;
import java.lang.reflect.Method;
import java.lang.reflect.Modifier;
import java.nio.file.Files;
import java.nio.file.Path;
import java.util.Set;
import java.util.TreeSet;
import java.util.regex.Matcher;
import java.util.regex.Pattern;

/** What a test can see of ../shared/LANGUAGE.md; its argument is the path of the program. */
public final class LanguageTest {
    private static final String[] BANNED = {
        "\\b(throw|try|catch|finally|synchronized|assert|throws|import|package)\\b", "->", "::", "\\bvar\\b",
        "\\bprotected\\b", "Exact\\b", "\\bobject\\b", "\\bObject\\b", "\\.(equals|hashCode|toString)\\b",
        "\\b(Random|Thread|File|System\\.(?!arraycopy\\b))", "\\bwhile\\s*\\(\\s*true", "\\bfor\\s*\\(\\s*;"};
    private static final Set<String> METHODS = Set.of("set int int", "piece int int int int", "plate int", "hold int",
        "kill int", "pass int", "ofPiece int int", "ofPlate int int", "count int", "why int int", "plateNow",
        "readyIn int", "leastRoom", "nextPlate", "put long", "wipe", "fault", "carryOut", "undo", "save int",
        "restore int");
    private static final String[] CONSTANTS = {"NO_SUCH", "BAD_VALUE", "BAD_TEXT", "TOO_MANY", "NOT_POSSIBLE", "NONE",
        "EDIT", "LEGAL", "ROOM", "DELAY"};
    private static final int[] VALUES = {-1, -2, -3, -4, -5, -6, 0, 1, 2, 3};
    private static final Due due = new Due();

    public static void main(String[] args) throws Exception {
        String program = Files.readString(Path.of(args[0]));
        nothingBanned(withoutComments(program));
        lengths(program);
        publicMethods();
        publicConstants();
        classesInside();
        due.end();
    }

    private static String withoutComments(String program) {
        return program.replaceAll("(?s)/\\*.*?\\*/", "").replaceAll("//[^\\n]*", "");
    }

    private static void nothingBanned(String code) {
        for (String banned : BANNED) {
            Matcher m = Pattern.compile(banned).matcher(code);
            due.is("LANGUAGE.md: " + banned, m.find() ? 1 : 0, 0);
        }
        due.is("LANGUAGE.md: signs 1 to 127 alone", code.chars().filter(c -> c < 1 || c > 127).count(), 0);
    }

    /** A method is taken to begin at a brace behind a parenthesis and to end at the brace of the same indent. */
    private static void lengths(String program) {
        String[] lines = program.split("\n");
        for (int i = 0; i < lines.length; i++) {
            if (lines[i].matches("( {4}| {8})(\\w.*)?\\w+\\(.*\\) \\{")) {
                String indent = lines[i].substring(0, lines[i].length() - lines[i].stripLeading().length());
                int end = i;
                while (!lines[end].equals(indent + "}")) {
                    end++;
                }
                due.is("LANGUAGE.md: lines of" + lines[i], end - i <= 60 ? 1 : 0, 1);
            }
        }
    }

    private static String signature(Method method) {
        StringBuilder text = new StringBuilder(method.getName());
        for (Class<?> type : method.getParameterTypes()) {
            text.append(' ').append(type.getName());
        }
        return text.toString();
    }

    private static void publicMethods() {
        Set<String> found = new TreeSet<>();
        Set<String> names = new TreeSet<>();
        for (Method method : CopyPlates.class.getDeclaredMethods()) {
            if (Modifier.isPublic(method.getModifiers())) {
                found.add(signature(method));
                names.add(method.getName());
                due.is("face: " + method + " returns int", method.getReturnType() == int.class ? 1 : 0, 1);
                due.is("face: " + method, method.getModifiers(), Modifier.PUBLIC);
            }
        }
        due.is("face: methods as in the document", found.equals(METHODS) ? 1 : 0, 1);
        for (Method method : CopyPlates.class.getDeclaredMethods()) {
            boolean isPrivate = Modifier.isPrivate(method.getModifiers());
            boolean isPublic = Modifier.isPublic(method.getModifiers());
            due.is("face: " + method + " is private or public", isPrivate || isPublic ? 1 : 0, 1);
            due.is("face: " + method + " has its own name", isPrivate && names.contains(method.getName()) ? 1 : 0, 0);
        }
        Constructor<?>[] constructors = CopyPlates.class.getDeclaredConstructors();
        due.is("face: constructors", constructors.length, 1);
        due.is("face: constructor without arguments", constructors[0].getParameterCount(), 0);
        due.is("face: public and final", CopyPlates.class.getModifiers(), Modifier.PUBLIC | Modifier.FINAL);
    }

    private static void publicConstants() throws Exception {
        int found = 0;
        for (Field field : CopyPlates.class.getDeclaredFields()) {
            if (Modifier.isPublic(field.getModifiers())) {
                found++;
                due.is("face: " + field, field.getModifiers(), Modifier.PUBLIC | Modifier.STATIC | Modifier.FINAL);
            } else {
                due.is("face: " + field + " is private", Modifier.isPrivate(field.getModifiers()) ? 1 : 0, 1);
            }
        }
        due.is("face: constants", found, CONSTANTS.length);
        for (int i = 0; i < CONSTANTS.length; i++) {
            due.is("face: " + CONSTANTS[i], CopyPlates.class.getField(CONSTANTS[i]).getInt(null), VALUES[i]);
        }
    }

    private static void classesInside() {
        Class<?>[] inside = CopyPlates.class.getDeclaredClasses();
        due.is("LANGUAGE.md: at most twelve classes", inside.length <= 11 ? 1 : 0, 1);
        for (Class<?> one : inside) {
            due.is("LANGUAGE.md: " + one + " is static", Modifier.isStatic(one.getModifiers()) ? 1 : 0, 1);
            due.is("LANGUAGE.md: " + one + " is not public", Modifier.isPublic(one.getModifiers()) ? 1 : 0, 0);
            due.is("LANGUAGE.md: fields of " + one, one.getDeclaredFields().length <= 20 ? 1 : 0, 1);
            for (Field field : one.getDeclaredFields()) {
                boolean isStatic = Modifier.isStatic(field.getModifiers());
                due.is("LANGUAGE.md: " + field + " is final if it is static",
                    isStatic && !Modifier.isFinal(field.getModifiers()) ? 1 : 0, 0);
            }
        }
    }
}

import java.io.IOException;
import java.lang.reflect.Constructor;
import java.lang.reflect.Field;
import java.lang.reflect.Method;
import java.lang.reflect.Modifier;
import java.nio.file.Files;
import java.nio.file.Path;
import java.util.List;
import java.util.Set;
import java.util.TreeSet;
import java.util.regex.Matcher;
import java.util.regex.Pattern;

/** The document's face, and those rules of LANGUAGE.md that can be seen from outside. */
public final class RulesTest {
    private static final Due DUE = new Due();

    private static final Set<String> FACE = new TreeSet<>(List.of(
        "int guest(int)", "int guests(int,int,int)", "int mend(int,int,int)", "int of(int,int)",
        "int think(int,int)", "int feed(int)", "int law()", "int putIn(int,int)", "long mean(int,int,int)",
        "int bestMean(int)", "int rest(int)", "int rests(int)", "int turns(int)", "int agree(int,int)",
        "int dish(int)", "int joy(int,int)", "int ordered(int,int)", "int thought(int,int,int)",
        "int given(int)", "long stranger(int,int,int)", "int night()", "int drawn(int,int,int,int)",
        "int judge(int)", "int fits(int)", "int fair(int)", "int image()", "int back()", "int undo()",
        "int redo()", "int body(int)", "int act(int,int,int)", "int trace(int)", "int keep(int,int)",
        "int row(int,int,int)", "int put(int,int,long)", "long element(int,int)",
        "int shift(int,int,int,int,int)", "int taken(int,int)", "int count(int)"));

    public static void main(String[] args) throws IOException {
        face();
        Class<?>[] inside = LeastPays.class.getDeclaredClasses();
        DUE.holds("some twelve classes at most", inside.length + 1 <= 12);
        for (Class<?> c : inside) {
            DUE.holds(c + " is static and not public", Modifier.isStatic(c.getModifiers())
                && !Modifier.isPublic(c.getModifiers()) && !Modifier.isProtected(c.getModifiers()));
            shape(c);
        }
        shape(LeastPays.class);
        source(Files.readString(Path.of(System.getProperty("source", "src/main/java/LeastPays.java"))));
        DUE.end();
    }

    private static void face() {
        int modifiers = LeastPays.class.getModifiers();
        DUE.holds("public and final", Modifier.isPublic(modifiers) && Modifier.isFinal(modifiers));
        Set<String> found = new TreeSet<>();
        for (Method m : LeastPays.class.getDeclaredMethods()) {
            boolean isPublic = Modifier.isPublic(m.getModifiers());
            DUE.holds(m + " is public or private", isPublic || Modifier.isPrivate(m.getModifiers()));
            if (isPublic) {
                StringBuilder types = new StringBuilder();
                for (Class<?> type : m.getParameterTypes()) {
                    types.append(types.length() > 0 ? "," : "").append(type);
                }
                found.add(m.getReturnType() + " " + m.getName() + "(" + types + ")");
            }
        }
        DUE.holds("the face is " + FACE + " and not " + found, found.equals(FACE));
        Set<String> constants = new TreeSet<>();
        for (Field f : LeastPays.class.getDeclaredFields()) {
            boolean isPublic = Modifier.isPublic(f.getModifiers());
            DUE.holds(f + " is public or private", isPublic || Modifier.isPrivate(f.getModifiers()));
            if (isPublic) {
                constants.add(f.getName());
            }
        }
        DUE.holds("the constants", constants.equals(Set.of("BAD", "NOT", "FULL", "STATE", "VOID")));
        Constructor<?>[] made = LeastPays.class.getDeclaredConstructors();
        DUE.holds("one constructor", made.length == 1 && made[0].getParameterCount() == 0);
        DUE.is("BAD", LeastPays.BAD, -1);
        DUE.is("NOT", LeastPays.NOT, -2);
        DUE.is("FULL", LeastPays.FULL, -3);
        DUE.is("STATE", LeastPays.STATE, -5);
        DUE.is("VOID", LeastPays.VOID, -2000000000);
    }

    private static void shape(Class<?> c) {
        Set<String> names = new TreeSet<>();
        FACE.forEach(call -> names.add(call.substring(call.indexOf(' ') + 1, call.indexOf('('))));
        int fields = 0;
        for (Field f : c.getDeclaredFields()) {
            boolean isStatic = Modifier.isStatic(f.getModifiers());
            DUE.holds(f + ": static fields are final", !isStatic || Modifier.isFinal(f.getModifiers()));
            fields += isStatic ? 0 : 1;
        }
        DUE.holds(c + " has some twenty fields at most", fields <= 20);
        for (Method m : c.getDeclaredMethods()) {
            DUE.holds(m + " takes seven at most", m.getParameterCount() <= 7);
            boolean ofTheFace = c == LeastPays.class && Modifier.isPublic(m.getModifiers());
            DUE.holds(m + " bears no name of the face", ofTheFace || !names.contains(m.getName()));
        }
    }

    private static void source(String text) {
        String code = text.replaceAll("(?s)/\\*.*?\\*/", "").replaceAll("//[^\n]*", "");
        String[] banned = {"\\bthrow\\b", "\\bthrows\\b", "\\btry\\b", "\\bcatch\\b", "\\bsynchronized\\b",
            "\\bassert\\b", "->", "::", "\\bpackage\\b", "\\bprotected\\b", "Exact\\b", "\\bdouble\\b",
            "\\bfloat\\b", "\\bhashCode\\b", "\\btoString\\b", "static \\{", "\\bvar\\b", "\\bRandom\\b",
            "\\bThread\\b", "\\bSystem\\.(?!arraycopy\\b)", "\\bMath\\.(?!min\\b|max\\b)", "\\bLong\\b", "\\bInteger\\b",
            "\\bimport (?!java\\.util\\.Arrays;)", "\\bArrays\\.(?!fill\\b)"};
        for (String word : banned) {
            Matcher m = Pattern.compile(word).matcher(code);
            DUE.holds("no " + word + " in the source", !m.find());
        }
        DUE.holds("signs 1 to 127 alone", text.chars().allMatch(c -> c > 0 && c < 128));
        lengths(text);
    }

    private static void lengths(String text) {
        String[] lines = text.split("\n");
        int began = -1;
        String indent = "";
        for (int i = 0; i < lines.length; i++) {
            Matcher m = Pattern.compile("^( {4}| {8})\\w[^;=]*\\(.*\\) \\{$").matcher(lines[i]);
            if (m.find()) {
                began = i;
                indent = m.group(1);
            } else if (began >= 0 && lines[i].equals(indent + "}")) {
                DUE.holds("line " + (began + 1) + ": a method of " + (i - began + 1) + " lines", i - began < 60);
                began = -1;
            }
        }
    }
}

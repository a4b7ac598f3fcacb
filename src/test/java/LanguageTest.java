import java.lang.reflect.Constructor;
import java.lang.reflect.Field;
import java.lang.reflect.Method;
import java.lang.reflect.Modifier;
import java.nio.file.Files;
import java.nio.file.Path;
import java.util.ArrayList;
import java.util.List;
import java.util.Set;
import java.util.TreeSet;
import java.util.regex.Matcher;
import java.util.regex.Pattern;

/** The public face, and those rules of LANGUAGE.md that can be seen from the text or by reflection. */
public final class LanguageTest {
    private static final String FACE = "feed(int) line() fault() told(int) wire(int,int) cell(int,int) place(int) "
        + "gate(int,int) tick(int) drive(boolean) cut(int) brief(int) mend(int) piece(int,int) end(int,int) ohms(int) "
        + "quiet() drift(int) undo(int) volts(int,int,int) rest(int) sees(int,int,int) noNoise(int,int) "
        + "see(int,int,boolean) couldBe(int) look() write(int,int) judge() tear() seed(int) keep(int) goBack(int)";

    public static void main(String[] args) throws Exception {
        String path = args.length > 0 ? args[0] : "src/main/java/EdgeEchoes.java";
        String source = Files.readString(Path.of(path));
        constants();
        face();
        classesInside();
        words(bare(source));
        lengths(source);
        Due.end();
    }

    private static void constants() {
        Due.is("NONE", EdgeEchoes.NONE, -1);
        Due.is("UNKNOWN", EdgeEchoes.UNKNOWN, -1000000001);
        Due.is("OUTSIDE", EdgeEchoes.OUTSIDE, -1000000002);
        Due.is("NOT", EdgeEchoes.NOT, -1000000003);
        Due.is("FULL", EdgeEchoes.FULL, -1000000004);
    }

    private static String signature(Method m) {
        List<String> types = new ArrayList<>();
        for (Class<?> t : m.getParameterTypes()) {
            types.add(t.getSimpleName());
        }
        return m.getName() + "(" + String.join(",", types) + ")";
    }

    private static void face() {
        Class<?> c = EdgeEchoes.class;
        Due.holds("public and final", Modifier.isPublic(c.getModifiers()) && Modifier.isFinal(c.getModifiers()));
        Set<String> due = new TreeSet<>(List.of(FACE.split(" ")));
        Set<String> found = new TreeSet<>();
        Set<String> names = new TreeSet<>();
        for (Method m : c.getDeclaredMethods()) {
            if (Modifier.isPublic(m.getModifiers())) {
                found.add(signature(m));
                names.add(m.getName());
                Due.holds(m + " answers an int", m.getReturnType() == int.class && !Modifier.isStatic(m.getModifiers()));
            } else {
                Due.holds(m + " is private", Modifier.isPrivate(m.getModifiers()));
            }
        }
        Due.holds("the face's methods: " + found, found.equals(due));
        Set<String> constants = new TreeSet<>();
        for (Field f : c.getDeclaredFields()) {
            if (Modifier.isPublic(f.getModifiers())) {
                constants.add(f.getName());
            } else {
                Due.holds(f + " is private", Modifier.isPrivate(f.getModifiers()));
            }
        }
        Due.holds("the face's constants", constants.equals(Set.of("NONE", "UNKNOWN", "OUTSIDE", "NOT", "FULL")));
        Constructor<?>[] made = c.getDeclaredConstructors();
        Due.holds("one public constructor", made.length == 1 && Modifier.isPublic(made[0].getModifiers())
            && made[0].getParameterCount() == 0);
        noNameTwice(c, names);
    }

    private static void noNameTwice(Class<?> outer, Set<String> names) {
        for (Class<?> c : outer.getDeclaredClasses()) {
            for (Method m : c.getDeclaredMethods()) {
                Due.holds(m + " bears a name of the face", !names.contains(m.getName()));
            }
        }
        for (Method m : outer.getDeclaredMethods()) {
            Due.holds(m + " bears a name of the face", !Modifier.isPrivate(m.getModifiers()) || !names.contains(m.getName()));
        }
    }

    private static void classesInside() {
        Class<?>[] inside = EdgeEchoes.class.getDeclaredClasses();
        Due.holds("some twelve classes", inside.length < 12);
        for (Class<?> c : inside) {
            Due.holds(c + " is static", Modifier.isStatic(c.getModifiers()));
            int fields = 0;
            for (Field f : c.getDeclaredFields()) {
                boolean fixed = Modifier.isStatic(f.getModifiers());
                fields += fixed ? 0 : 1;
                Due.holds(f + ": static is final", !fixed || Modifier.isFinal(f.getModifiers()));
            }
            Due.holds(c + " has some twenty fields", fields <= 20);
            for (Method m : c.getDeclaredMethods()) {
                Due.holds(m + " takes at most seven", m.getParameterCount() <= 7);
            }
        }
    }

    /** The source without comments and without what stands in quotes. */
    private static String bare(String source) {
        return source.replaceAll("(?s)/\\*.*?\\*/", " ").replaceAll("//[^\n]*", " ")
            .replaceAll("\"[^\"\n]*\"", "\"\"").replaceAll("'.'", "0");
    }

    private static void words(String bare) {
        for (String word : List.of("throw", "throws", "try", "catch", "finally", "synchronized", "assert", "package",
            "protected", "Object", "Exception", "System.out", "Random", "Thread", "Integer.MAX_VALUE", "volatile",
            "transient", "native", "strictfp", "super", "hashCode", "toString", "extends", "var")) {
            Due.holds("no " + word, !Pattern.compile("\\b" + Pattern.quote(word) + "\\b").matcher(bare).find());
        }
        for (String sign : List.of("->", "::", "static {", "...", "Exact(", "@")) {
            Due.holds("no " + sign, !bare.contains(sign));
        }
        Matcher imports = Pattern.compile("import ([^;]*);").matcher(bare);
        while (imports.find()) {
            Due.holds("import " + imports.group(1), imports.group(1).equals("java.util.Arrays"));
        }
        Matcher calls = Pattern.compile("\\b(Math|Arrays|System|Integer|Long|String)\\.(\\w+)").matcher(bare);
        Set<String> listed = Set.of("Math.max", "Math.min", "Math.abs", "Math.floorMod", "Arrays.fill", "System.arraycopy");
        while (calls.find()) {
            Due.holds("the library has " + calls.group(), listed.contains(calls.group()));
        }
        for (int i = 0; i < bare.length(); i++) {
            if (bare.charAt(i) > 126) {
                Due.holds("plain signs at " + i, false);
            }
        }
    }

    private static void lengths(String source) {
        String[] lines = source.split("\n");
        for (int i = 0; i < lines.length; i++) {
            Matcher head = Pattern.compile("^( {4}| {8})[a-z].*\\) \\{$").matcher(lines[i]);
            if (head.matches()) {
                int k = i;
                while (k < lines.length && !lines[k].equals(head.group(1) + "}")) {
                    k++;
                }
                Due.holds("line " + (i + 1) + ": a short method", k - i < 60);
            }
        }
    }
}

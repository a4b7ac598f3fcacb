import java.lang.reflect.Method;
import java.nio.file.Files;
import java.nio.file.Path;
import java.util.regex.Matcher;
import java.util.regex.Pattern;

/** README.md's own calls, made one behind the other: each answers the number behind its two strokes. */
public final class ReadmeTest {
    public static void main(String[] args) throws Exception {
        String readme = Files.readString(Path.of("README.md"));
        Matcher text = Pattern.compile("for \\(char c : \"([^\"]*)\"\\.toCharArray\\(\\)\\) x\\.feed\\(c\\);").matcher(readme);
        Due.holds("a text is fed", text.find());
        EdgeEchoes x = new EdgeEchoes();
        Due.feed(x, text.group(1));
        Matcher calls = Pattern.compile("(?m)^x\\.(\\w+)\\((.*)\\); +// (-?\\d+)\\b").matcher(readme);
        int made = 0;
        while (calls.find()) {
            String call = calls.group(1) + "(" + calls.group(2) + ")";
            Due.is(call, answer(x, calls.group(1), calls.group(2)), Integer.parseInt(calls.group(3)));
            made++;
        }
        Due.is("calls told", made, Pattern.compile("(?m)^x\\.").matcher(readme).results().count());
        for (Method m : EdgeEchoes.class.getDeclaredMethods()) {
            if (java.lang.reflect.Modifier.isPublic(m.getModifiers())) {
                Due.holds("the README names " + m.getName(), readme.contains("`" + m.getName() + "("));
            }
        }
        Due.end();
    }

    private static int answer(EdgeEchoes x, String name, String told) throws ReflectiveOperationException {
        String[] words = told.isEmpty() ? new String[0] : told.split(", ");
        for (Method m : EdgeEchoes.class.getDeclaredMethods()) {
            if (m.getName().equals(name)) {
                Object[] values = new Object[words.length];
                for (int k = 0; k < words.length; k++) {
                    boolean bit = m.getParameterTypes()[k] == boolean.class;
                    values[k] = bit ? (Object) Boolean.valueOf(words[k]) : (Object) Integer.valueOf(words[k]);
                }
                return (int) m.invoke(x, values);
            }
        }
        return Integer.MIN_VALUE;
    }
}

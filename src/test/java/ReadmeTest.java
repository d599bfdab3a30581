import java.io.IOException;
import java.lang.reflect.Method;
import java.lang.reflect.Modifier;
import java.nio.file.Files;
import java.nio.file.Path;
import java.util.regex.Matcher;
import java.util.regex.Pattern;

/** README.md: its example answers what it says, and every call and constant is named. */
public final class ReadmeTest {
    private static final Pattern COURT = Pattern.compile("String court = \"([^\"]*)\";");
    private static final Pattern CALL = Pattern.compile("x\\.(\\w+)\\(([-0-9, ]*)\\); *// (-?\\d+)(.*)");
    private static final Pattern FRACTION = Pattern.compile("upper\\(\\) by lower\\(\\) is (\\d+) by (\\d+)");
    private static final Pattern ASKED = Pattern.compile("asked\\(\\) is (-?\\d+)");

    public static void main(String[] args) throws IOException, ReflectiveOperationException {
        String readme = Files.readString(Path.of("README.md"));
        int start = readme.indexOf("```java");
        int end = readme.indexOf("```", start + 3);
        Check.holds("there is an example", start >= 0 && end > start);
        if (start >= 0 && end > start) goThrough(readme.substring(start, end));
        for (Method m : EveningFalls.class.getDeclaredMethods()) {
            if (Modifier.isPublic(m.getModifiers())) Check.holds(m.getName() + " is named", readme.contains("`" + m.getName() + "`"));
        }
        for (String name : new String[] {"BAD", "FULL", "FINDING", "STATE", "NONE"}) {
            Check.holds(name + " is named", readme.contains("`" + name + "`"));
        }
        Check.end();
    }

    private static void goThrough(String example) throws ReflectiveOperationException {
        EveningFalls x = new EveningFalls();
        Matcher court = COURT.matcher(example);
        Check.holds("it has a COURT", court.find());
        Check.write(x, 0, court.group(1));
        Matcher call = CALL.matcher(example);
        int calls = 0;
        while (call.find()) {
            Check.due("README: " + call.group(0), answer(x, call.group(1), call.group(2)), Long.parseLong(call.group(3)));
            lookAtTold(x, call.group(4));
            calls++;
        }
        Check.holds("it has calls", calls >= 5);
    }

    private static void lookAtTold(EveningFalls x, String comment) {
        Matcher fraction = FRACTION.matcher(comment);
        if (fraction.find()) {
            Check.due("README: upper()", x.upper(), Long.parseLong(fraction.group(1)));
            Check.due("README: lower()", x.lower(), Long.parseLong(fraction.group(2)));
        }
        Matcher asked = ASKED.matcher(comment);
        if (asked.find()) Check.due("README: asked()", x.asked(), Long.parseLong(asked.group(1)));
    }

    private static long answer(EveningFalls x, String name, String list) throws ReflectiveOperationException {
        String[] words = list.isBlank() ? new String[0] : list.split(", *");
        Object[] numbers = new Object[words.length];
        Class<?>[] types = new Class<?>[words.length];
        for (int i = 0; i < words.length; i++) {
            numbers[i] = Integer.valueOf(words[i].trim());
            types[i] = int.class;
        }
        return ((Number) EveningFalls.class.getMethod(name, types).invoke(x, numbers)).longValue();
    }
}

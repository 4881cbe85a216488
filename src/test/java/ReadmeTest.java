import java.lang.reflect.Method;
import java.nio.file.Files;
import java.nio.file.Path;
import java.util.regex.Matcher;
import java.util.regex.Pattern;

/** What README.md shows holds: its calls answer what stands behind them, its text has no FAULT (promises 2 to 21). */
public final class ReadmeTest {
    private static final Pattern CALL = Pattern.compile("school\\.(\\w+)\\((.*)\\); +// (true|false|-?[0-9]+):.*");
    private static final int CALLS = 20;

    private static int wrong;

    private ReadmeTest() {
    }

    public static void main(String[] args) throws Exception {
        String readme = Files.readString(Path.of("README.md"));
        calls(block(readme, "java"));
        text(block(readme, "text"));
        System.out.println(wrong == 0 ? "README.md holds" : wrong + " things in README.md do not hold");
        if (wrong != 0) {
            System.exit(1);
        }
    }

    private static String block(String readme, String kind) {
        int from = readme.indexOf("```" + kind + "\n") + kind.length() + 4;
        return readme.substring(from, readme.indexOf("```", from));
    }

    private static void say(boolean isGood, String what) {
        if (!isGood) {
            wrong++;
            System.out.println(what);
        }
    }

    private static void calls(String block) throws Exception {
        SchoolLosing school = new SchoolLosing();
        int calls = 0;
        for (String line : block.split("\n")) {
            Matcher matcher = CALL.matcher(line);
            if (matcher.matches()) {
                calls++;
                String got = String.valueOf(answer(school, matcher.group(1), matcher.group(2)));
                say(got.equals(matcher.group(3)), line + " answered " + got);
            } else {
                say(line.equals("SchoolLosing school = new SchoolLosing();"), "no call: " + line);
            }
        }
        say(calls >= CALLS, "only " + calls + " calls");
    }

    private static Object answer(SchoolLosing school, String name, String written) throws Exception {
        for (Method method : SchoolLosing.class.getMethods()) {
            if (method.getName().equals(name)) {
                String[] pieces = written.isEmpty() ? new String[0] : written.split(", ");
                Object[] arguments = new Object[pieces.length];
                for (int i = 0; i < pieces.length; i++) {
                    boolean isBoolean = method.getParameterTypes()[i] == boolean.class;
                    arguments[i] = isBoolean ? (Object) Boolean.valueOf(pieces[i]) : (Object) Integer.decode(pieces[i]);
                }
                return method.invoke(school, arguments);
            }
        }
        return "no such call";
    }

    private static void text(String block) {
        SchoolLosing school = new SchoolLosing();
        int fault = Texts.read(school, block);
        say(fault == 0, "fault " + fault + " at " + school.place() + " of " + block);
        say(school.count(0) == 3 && school.count(2) == 2 && school.pays(2) == 6, "the text tells other things");
    }
}

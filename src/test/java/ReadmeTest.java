import java.io.File;
import java.io.IOException;
import java.lang.reflect.InvocationTargetException;
import java.lang.reflect.Method;
import java.lang.reflect.Modifier;
import java.nio.file.Files;
import java.nio.file.Path;
import java.util.Arrays;
import java.util.Set;
import java.util.TreeSet;
import java.util.regex.MatchResult;
import java.util.regex.Matcher;
import java.util.regex.Pattern;

/** README.md: its example answers as it says, its tables name each call of the face and each test there is. */
public final class ReadmeTest {
    private static final Pattern EXAMPLE_CALL = Pattern.compile("chain\\.(\\w+)\\((.*)\\); +// (\\S+): \\S.*");
    private static final Pattern ROW_OF_CALLS =
        Pattern.compile("^\\| (`\\w+\\(.*?) \\|.*?\\| *(\\S*) *\\|$", Pattern.MULTILINE);
    private static final Pattern NAMED_CALL = Pattern.compile("`(\\w+)\\(([^)]*)\\)`");
    private static final Pattern ROW_OF_TESTS = Pattern.compile("^\\| (\\w+Test) \\|", Pattern.MULTILINE);

    public static void main(String[] args) throws IOException, IllegalAccessException, InvocationTargetException {
        String readme = Files.readString(Path.of("README.md"));
        example(readme);
        callsOfTheFace(readme);
        testsThereAre(readme);
        Due.end();
    }

    private static Method callNamed(String name) {
        for (Method method : TicketChain.class.getDeclaredMethods()) {
            if (method.getName().equals(name)) {
                return method;
            }
        }
        throw new IllegalArgumentException("README.md names a call that is none: " + name);
    }

    private static void example(String readme) throws IllegalAccessException, InvocationTargetException {
        String[] lines = readme.split("```java\n")[1].split("```")[0].split("\n");
        Due.is("the example's first line", lines[0], "TicketChain chain = new TicketChain();");
        TicketChain chain = new TicketChain();
        for (String line : Arrays.copyOfRange(lines, 1, lines.length)) {
            Matcher call = EXAMPLE_CALL.matcher(line);
            Due.is("a call with its answer: " + line, call.matches(), true);
            Due.is(line, answer(chain, callNamed(call.group(1)), call.group(2)), call.group(3));
        }
        StringBuilder form = new StringBuilder();
        for (int i = 0; chain.print(0, i) != TicketChain.NONE; i++) {
            form.append((char) chain.print(0, i));
        }
        Due.is("the printed form stands there", readme.contains("\"" + form + "\""), true);
    }

    private static String answer(TicketChain chain, Method call, String written)
            throws IllegalAccessException, InvocationTargetException {
        String[] parts = written.split(", ");
        Object[] arguments = new Object[parts.length];
        for (int k = 0; k < parts.length; k++) {
            long value = Long.parseLong(parts[k]);
            if (call.getParameterTypes()[k] == int.class) {
                arguments[k] = Math.toIntExact(value);
            } else {
                arguments[k] = value;
            }
        }
        return String.valueOf(call.invoke(chain, arguments));
    }

    private static void callsOfTheFace(String readme) {
        Set<String> named = new TreeSet<>();
        for (MatchResult row : ROW_OF_CALLS.matcher(readme).results().toList()) {
            Matcher name = NAMED_CALL.matcher(row.group(1));
            while (name.find()) {
                named.add(name.group(1));
                refusedAs(callNamed(name.group(1)), name.group(2), row.group(2));
            }
        }
        Set<String> due = new TreeSet<>();
        for (Method method : TicketChain.class.getDeclaredMethods()) {
            if (Modifier.isPublic(method.getModifiers())) {
                due.add(method.getName());
            }
        }
        Due.is("the calls that README.md names", named.toString(), due.toString());
    }

    /** The page's last column against what a new object answers when all arguments are -9. */
    private static void refusedAs(Method call, String parameters, String refused) {
        int count = parameters.isEmpty() ? 0 : parameters.split(", ").length;
        Due.is("how many arguments " + call.getName() + " takes", count, call.getParameterCount());
        if (count == 0) {
            Due.is("what " + call.getName() + " refuses", refused, "");
            return;
        }
        String[] wrong = new String[count];
        Arrays.fill(wrong, "-9");
        String due;
        try {
            due = answer(new TicketChain(), call, String.join(", ", wrong)).replace("-1", "`NONE`");
        } catch (InvocationTargetException | IllegalAccessException e) {
            due = e.getCause() instanceof ArrayIndexOutOfBoundsException ? "throws" : "fails";
        }
        Due.is("how " + call.getName() + " refuses", refused, due);
    }

    private static void testsThereAre(String readme) {
        Set<String> named = new TreeSet<>();
        ROW_OF_TESTS.matcher(readme).results().forEach(row -> named.add(row.group(1)));
        Set<String> due = new TreeSet<>();
        String[] files = new File("src/test/java").list();
        for (String file : files == null ? new String[0] : files) {
            if (file.endsWith("Test.java")) {
                due.add(file.replace(".java", ""));
            }
        }
        Due.is("the tests that README.md names", named.toString(), due.toString());
    }
}

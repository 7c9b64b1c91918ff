import java.io.IOException;
import java.lang.reflect.InvocationTargetException;
import java.lang.reflect.Method;
import java.nio.file.Files;
import java.nio.file.Path;
import java.util.List;

/** The session that README.md shows is what the class answers. */
public final class ReadmeTest {
    private static final String ARROW = "->";

    public static void main(String[] args) throws IOException, IllegalAccessException {
        SnippetShell shell = new SnippetShell();
        List<String> readme = Files.readAllLines(Path.of("README.md"));
        int start = readme.indexOf("```session");
        Check.due("README.md has a session", start >= 0 ? 1 : 0, 1);
        int rows = 0;
        for (int i = start + 1; start >= 0 && !readme.get(i).equals("```"); i++) {
            dueRow(shell, readme.get(i));
            rows++;
        }
        Check.due("whether the session has rows", rows > 0 ? 1 : 0, 1);
        Check.end();
    }

    private static void dueRow(SnippetShell shell, String row) throws IllegalAccessException {
        int arrow = row.lastIndexOf(ARROW);
        String asked = row.substring(0, arrow);
        String want = row.substring(arrow + ARROW.length()).trim();
        boolean isCall = asked.startsWith(" ");
        String got = isCall ? call(shell, asked.trim()) : String.valueOf(Check.run(shell, asked.trim()));
        Check.due("README.md, " + row.trim() + " (answered: " + got + "): whether it holds", got.equals(want) ? 1 : 0, 1);
    }

    private static String call(SnippetShell shell, String told) throws IllegalAccessException {
        int open = told.indexOf('(');
        Method method = methodOf(told.substring(0, open));
        try {
            return String.valueOf(method.invoke(shell, numbers(method, told.substring(open + 1, told.length() - 1))));
        } catch (InvocationTargetException e) {
            return e.getCause().getClass().getSimpleName();
        }
    }

    private static Method methodOf(String name) {
        for (Method method : SnippetShell.class.getMethods()) {
            if (method.getName().equals(name)) {
                return method;
            }
        }
        throw new IllegalArgumentException("README.md calls " + name + ", which the class has not");
    }

    private static Object[] numbers(Method method, String told) {
        String[] parts = told.isEmpty() ? new String[0] : told.split(", *");
        Object[] numbers = new Object[parts.length];
        for (int i = 0; i < parts.length; i++) {
            if (method.getParameterTypes()[i] == long.class) {
                numbers[i] = Check.word(parts[i].replace("\"", ""));
            } else {
                numbers[i] = Integer.parseInt(parts[i]);
            }
        }
        return numbers;
    }
}

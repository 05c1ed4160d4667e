import java.io.IOException;
import java.lang.reflect.Method;
import java.lang.reflect.Modifier;
import java.nio.file.Files;
import java.nio.file.Path;
import java.util.regex.Matcher;
import java.util.regex.Pattern;

/** README.md holds: its calls answer what it says behind them, and it tells of every call there is. */
public final class ReadmeTest {
  private static final Pattern CALL = Pattern.compile("hill\\.(\\w+)\\((.*?)\\); *// (-?\\d+): .*");
  private static final Pattern LINE = Pattern.compile("line\\(hill, \"(.*)\"\\); *// (-?\\d+): .*");

  private static PushedUp hill;
  private static int calls = 0;

  public static void main(String[] args) throws ReflectiveOperationException, IOException {
    String text = Files.readString(Path.of(System.getProperty("pushedup.home"), "README.md"));
    boolean inJava = false;
    for (String row : text.split("\n")) {
      if (row.startsWith("```")) {
        inJava = row.equals("```java");
      } else if (inJava) {
        look(row);
      }
    }
    Check.holds("README.md has calls", calls > 0);
    allCallsAreTold(text);
    Check.holds("README.md tells how the tests are run", text.contains(".ci/run"));
    Check.end("ReadmeTest");
  }

  private static void look(String row) throws ReflectiveOperationException {
    Matcher call = CALL.matcher(row);
    Matcher line = LINE.matcher(row);
    if (row.equals("PushedUp hill = new PushedUp();")) {
      hill = new PushedUp();
    } else if (call.matches()) {
      calls++;
      Check.same("README: " + row, answer(call.group(1), call.group(2)), Long.parseLong(call.group(3)));
    } else if (line.matches()) {
      calls++;
      Check.same("README: " + row, Check.line(hill, line.group(1)), Long.parseLong(line.group(2)));
    } else {
      Check.holds("a row that is looked at: " + row, !row.contains("//"));
    }
  }

  private static int answer(String name, String arguments) throws ReflectiveOperationException {
    String[] told = arguments.isEmpty() ? new String[0] : arguments.split(", ");
    for (Method m : PushedUp.class.getDeclaredMethods()) {
      if (Modifier.isPublic(m.getModifiers()) && m.getName().equals(name) && m.getParameterCount() == told.length) {
        Object[] values = new Object[told.length];
        for (int i = 0; i < told.length; i++) {
          values[i] = value(m.getParameterTypes()[i], told[i]);
        }
        return (Integer) m.invoke(hill, values);
      }
    }
    Check.holds("a call of the face: " + name + "(" + arguments + ")", false);
    return 0;
  }

  private static Object value(Class<?> kind, String told) {
    if (kind == boolean.class) {
      return told.equals("true");
    }
    if (kind == long.class) {
      return Long.decode(told.replace("L", ""));
    }
    return Integer.decode(told);
  }

  private static void allCallsAreTold(String text) {
    for (Method m : PushedUp.class.getDeclaredMethods()) {
      if (Modifier.isPublic(m.getModifiers())) {
        Check.holds("README.md tells of " + m.getName(), text.contains("`" + m.getName() + "("));
      }
    }
  }
}

import java.lang.reflect.InvocationTargetException;
import java.lang.reflect.Method;
import java.nio.file.Files;
import java.nio.file.Path;
import java.util.regex.Matcher;
import java.util.regex.Pattern;

/** The example in README.md: each call answers what stands behind it. */
public final class ReadmeTest {
  // A call of whole numbers, and its answer as it would stand in Java.
  private static final Pattern CALL =
      Pattern.compile("garden\\.(\\w+)\\(([-\\d, ]*)\\); +// (\"[^\"]*\"|[-\\w]+)");

  public static void main(String[] args) throws Exception {
    String readme = Files.readString(Path.of("README.md"));
    int begin = readme.indexOf("```java\n");
    int end = readme.indexOf("```", begin + 3);
    Check.due("README.md has an example", true, () -> begin >= 0 && end > begin);
    String[] lines = readme.substring(begin, end).split("\n");
    Check.due("it makes a garden", "Pagegarden garden = new Pagegarden();", () -> lines[1]);
    Pagegarden garden = new Pagegarden();
    for (int i = 2; i < lines.length; i++) {
      Matcher call = CALL.matcher(lines[i]);
      boolean isCall = call.lookingAt();
      Check.due("a call with its answer: " + lines[i], true, () -> isCall);
      if (isCall) {
        Check.due(lines[i], call.group(3), () -> answer(garden, call.group(1), call.group(2)));
      }
    }
    Check.end("ReadmeTest");
  }

  private static Object answer(Pagegarden garden, String name, String told) {
    String[] numbers = told.isEmpty() ? new String[0] : told.split(", ");
    Object[] arguments = new Object[numbers.length];
    for (int i = 0; i < numbers.length; i++) {
      arguments[i] = Integer.valueOf(numbers[i]);
    }
    try {
      Object got = method(name).invoke(garden, arguments);
      return got instanceof String text ? "\"" + text.replace("\n", "\\n") + "\"" : "" + got;
    } catch (InvocationTargetException | IllegalAccessException e) {
      return "throws." + e.getCause();
    }
  }

  private static Method method(String name) {
    for (Method m : Pagegarden.class.getDeclaredMethods()) {
      if (m.getName().equals(name)) {
        return m;
      }
    }
    throw new IllegalStateException(name);
  }
}

import java.io.IOException;
import java.lang.reflect.Method;
import java.lang.reflect.Modifier;
import java.nio.file.Files;
import java.nio.file.Path;
import java.util.regex.Matcher;
import java.util.regex.Pattern;

/** README.md is there, names every call and .ci/run, and its example answers what it says. */
public final class ReadmeTest {
  private static final Path README = Path.of("README.md");
  private static final Pattern EXAMPLE =
      Pattern.compile("(?m)^x\\.(\\w+)\\(([^)]*)\\); *// (-?\\w+):");

  private static final Due due = new Due();

  private static String textUnder(String readme, String heading) {
    for (String part : readme.split("(?m)^## ")) {
      if (part.startsWith(heading + "\n")) {
        return part;
      }
    }
    return "";
  }

  private static void namesEveryCall(String use) {
    for (Method method : IssueTimes.class.getDeclaredMethods()) {
      if (Modifier.isPublic(method.getModifiers())) {
        boolean named = use.contains("| `" + method.getName() + "(");
        due.is("README.md tells of " + method.getName(), named, true);
      }
    }
  }

  private static Object argument(Class<?> type, String text) {
    return type == boolean.class ? (Object) Boolean.valueOf(text) : (Object) Integer.valueOf(text);
  }

  private static String answer(IssueTimes x, String name, String[] texts)
      throws ReflectiveOperationException {
    for (Method method : IssueTimes.class.getMethods()) {
      Class<?>[] types = method.getParameterTypes();
      if (method.getName().equals(name) && types.length == texts.length) {
        Object[] arguments = new Object[types.length];
        for (int k = 0; k < types.length; k++) {
          arguments[k] = argument(types[k], texts[k]);
        }
        return String.valueOf(method.invoke(x, arguments));
      }
    }
    return "no such call";
  }

  private static void exampleHolds(String use) throws ReflectiveOperationException {
    IssueTimes x = new IssueTimes();
    Matcher line = EXAMPLE.matcher(use);
    int found = 0;
    while (line.find()) {
      String[] texts = line.group(2).isEmpty() ? new String[0] : line.group(2).split(", *");
      String got = answer(x, line.group(1), texts);
      due.is(line.group() + " in README.md, got " + got, got.equals(line.group(3)), true);
      found++;
    }
    due.is("README.md has an example", found > 0, true);
    int written = use.split("(?m)^x\\.", -1).length - 1;
    due.is("lines of the example that were read", found, written);
  }

  public static void main(String[] args) throws IOException, ReflectiveOperationException {
    boolean there = Files.isRegularFile(README);
    due.is("README.md is there", there, true);
    if (there) {
      String readme = Files.readString(README);
      String use = textUnder(readme, "Use");
      namesEveryCall(use);
      exampleHolds(use);
      due.is("README.md tells how to run the tests",
          textUnder(readme, "Tests").contains(".ci/run"), true);
    }
    due.end("ReadmeTest");
  }
}

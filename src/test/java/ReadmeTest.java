import java.io.IOException;
import java.lang.reflect.InvocationTargetException;
import java.lang.reflect.Method;
import java.lang.reflect.Modifier;
import java.nio.file.Files;
import java.nio.file.Path;
import java.util.ArrayList;
import java.util.List;
import java.util.regex.Matcher;
import java.util.regex.Pattern;
import java.util.stream.Stream;

/** README.md: its example answers what it says there, and its lists leave nothing out. */
public final class ReadmeTest {
  private static final Path README = Path.of("README.md");
  private static final Path TESTS = Path.of("src/test/java");
  private static final String MAKE = "AlertIndex index = new AlertIndex();";
  private static final Pattern CALL = Pattern.compile(
      "(?:int question = )?index\\.(\\w+)\\((.*)\\); +// ((?:throws )?-?\\w+): .+");
  private static final Pattern ITEM = Pattern.compile("- `(\\w+)\\((.*?)\\)` .+");
  private static final Pattern EXCEPTION = Pattern.compile("\\w+Exception");

  private static final Check check = new Check();

  public static void main(String[] args) throws IOException, IllegalAccessException {
    String page = Files.readString(README);
    example(page);
    listOfCalls(page);
    tableOfTests(page);
    check.end();
  }

  private static void example(String page) throws IllegalAccessException {
    check.promise("the example of README.md");
    int begin = page.indexOf("```java\n" + MAKE + "\n");
    check.due("begins with a new object", true, begin >= 0);
    String code = page.substring(begin).split("```")[1];
    AlertIndex index = new AlertIndex();
    for (String line : code.split("\n")) {
      if (!line.isEmpty() && !line.equals("java") && !line.equals(MAKE)) {
        exampleLine(index, line);
      }
    }
  }

  private static void exampleLine(AlertIndex index, String line) throws IllegalAccessException {
    Matcher call = CALL.matcher(line);
    check.due(line + ": a call with its answer", true, call.matches());
    check.due(line, call.group(3), answered(index, call.group(1), call.group(2)));
  }

  private static String answered(AlertIndex index, String name, String arguments)
      throws IllegalAccessException {
    Object[] given = Stream.of(arguments.split(", ")).filter(one -> !one.isEmpty())
        .map(ReadmeTest::value).toArray();
    try {
      return String.valueOf(faceMethod(name).invoke(index, given));
    } catch (InvocationTargetException e) {
      return "throws " + e.getCause().getClass().getSimpleName();
    }
  }

  /** The example's only variable is the number of its first question. */
  private static Object value(String argument) {
    if (argument.equals("true") || argument.equals("false")) {
      return Boolean.valueOf(argument);
    }
    return argument.equals("question") ? Integer.valueOf(0) : Integer.valueOf(argument);
  }

  private static void listOfCalls(String page) {
    check.promise("the list of calls in README.md");
    List<String> found = new ArrayList<>();
    for (String part : page.split("\n(?=- |\n)")) {
      String item = part.replaceAll("\\s+", " ").strip();
      Matcher call = ITEM.matcher(item);
      if (call.matches()) {
        found.add(call.group(1));
        listedCall(call.group(1), call.group(2), item);
      }
    }
    List<String> want = new ArrayList<>();
    for (Method method : faceMethods()) {
      want.add(method.getName());
    }
    check.due("the calls", sorted(want), sorted(found));
  }

  private static void listedCall(String name, String parameters, String item) {
    Method method = faceMethod(name);
    int count = parameters.isEmpty() ? 0 : parameters.split(", ").length;
    check.due(name + " is given", method.getParameterCount(), count);
    List<String> want = new ArrayList<>();
    for (Class<?> type : method.getExceptionTypes()) {
      want.add(type.getSimpleName());
    }
    List<String> found = new ArrayList<>();
    Matcher exception = EXCEPTION.matcher(item);
    while (exception.find()) {
      found.add(exception.group());
    }
    check.due(name + " throws", want.toString(), found.toString());
    check.due(name + " is told to answer", true, item.contains(" answers "));
  }

  private static void tableOfTests(String page) throws IOException {
    check.promise("how the tests are run in README.md");
    check.due("the script", true, page.contains("\n    .ci/run\n"));
    try (Stream<Path> files = Files.list(TESTS)) {
      for (Path file : files.toList()) {
        String name = file.getFileName().toString().replace(".java", "");
        boolean isTold = page.contains("\n| " + name + " | ");
        check.due(name + " stands in the table", name.endsWith("Test"), isTold);
      }
    }
  }

  private static List<Method> faceMethods() {
    return Stream.of(AlertIndex.class.getDeclaredMethods())
        .filter(method -> Modifier.isPublic(method.getModifiers())).toList();
  }

  private static Method faceMethod(String name) {
    return faceMethods().stream().filter(method -> method.getName().equals(name)).findFirst()
        .orElseThrow(() -> new IllegalArgumentException("no call " + name));
  }

  private static String sorted(List<String> names) {
    return names.stream().sorted().toList().toString();
  }
}

import java.io.IOException;
import java.lang.reflect.Method;
import java.nio.file.Files;
import java.nio.file.Path;
import java.util.List;
import java.util.Set;
import java.util.TreeSet;
import java.util.regex.Matcher;
import java.util.regex.Pattern;

/** What README.md shows is true: each call of its examples answers what stands behind it, and its tables are whole. */
public final class ReadmeTest {
  private static final Pattern CALL = Pattern.compile("x\\.(\\w+)\\((.*?)\\); +// (-?\\d+)(: .*)?");
  private static final Pattern CALL_ROW = Pattern.compile("\\| `(\\w+)\\((.*?)\\)` \\|.*");
  private static final Pattern CODE_ROW = Pattern.compile("\\| `(\\w+)` \\| (-\\d+) \\|.*");
  private static final Pattern CAUSE_ROW = Pattern.compile("\\| (\\w+) \\| (\\d) \\| (-\\d+) \\|.*");
  private static final String NEW_OBJECT = "ObjectLoads x = new ObjectLoads();";
  private static final String CAUSES = "[1 NULL, 2 INDEX, 3 CAST, 4 ARITHMETIC, 5 STORE, 6 DOUBLE]";
  private static final String CODES = "[NONE -1000009, OUTSIDE -1000002, ROOM -1000004, STATE -1000003, UNKNOWN -1000001]";

  private static int wrong = 0;

  private static void due(String what, Object got, Object want) {
    if (!got.equals(want)) {
      wrong++;
      System.out.println("README.md, " + what + ": " + got + ", due is " + want);
    }
  }

  private static Object argument(String text) {
    return text.equals("true") || text.equals("false") ? Boolean.valueOf(text) : Integer.valueOf(text);
  }

  private static String[] parts(String list) {
    return list.isEmpty() ? new String[0] : list.split(", ");
  }

  private static Method method(String name) {
    for (Method method : ObjectLoads.class.getMethods()) {
      if (method.getDeclaringClass() == ObjectLoads.class && method.getName().equals(name)) {
        return method;
      }
    }
    throw new IllegalArgumentException("README.md names a call that there is not: " + name);
  }

  private static Object answer(ObjectLoads x, Matcher call) throws ReflectiveOperationException {
    String[] texts = parts(call.group(2));
    Object[] arguments = new Object[texts.length];
    for (int i = 0; i < texts.length; i++) {
      arguments[i] = argument(texts[i]);
    }
    return method(call.group(1)).invoke(x, arguments);
  }

  private static void examples(List<String> lines) throws ReflectiveOperationException {
    ObjectLoads x = null;
    boolean inside = false;
    int calls = 0;
    for (String line : lines) {
      if (line.startsWith("```")) {
        inside = line.equals("```java");
      } else if (line.equals(NEW_OBJECT)) {
        x = new ObjectLoads();
      } else if (inside) {
        Matcher call = CALL.matcher(line);
        boolean isCall = call.matches();
        due("an example's line with a call and its answer: " + line, isCall, true);
        if (isCall) {
          due(line, answer(x, call), Integer.valueOf(call.group(3)));
          calls++;
        }
      }
    }
    due("there are examples", calls > 0, true);
  }

  private static void calls(List<String> lines) {
    Set<String> named = new TreeSet<>();
    for (String line : lines) {
      Matcher row = CALL_ROW.matcher(line);
      if (row.matches()) {
        named.add(row.group(1) + " of " + parts(row.group(2)).length);
      }
    }
    Set<String> there = new TreeSet<>();
    for (Method method : ObjectLoads.class.getMethods()) {
      if (method.getDeclaringClass() == ObjectLoads.class) {
        there.add(method.getName() + " of " + method.getParameterCount());
      }
    }
    due("calls", named, there);
  }

  private static void codes(List<String> lines) throws ReflectiveOperationException {
    Set<String> named = new TreeSet<>();
    for (String line : lines) {
      Matcher row = CODE_ROW.matcher(line);
      if (row.matches()) {
        named.add(row.group(1) + " " + row.group(2));
        due(row.group(1), Integer.valueOf(row.group(2)), ObjectLoads.class.getField(row.group(1)).get(null));
      }
    }
    due("codes", named.toString(), CODES);
  }

  private static void causes(List<String> lines) {
    Set<String> named = new TreeSet<>();
    for (String line : lines) {
      Matcher row = CAUSE_ROW.matcher(line);
      if (row.matches()) {
        named.add(row.group(2) + " " + row.group(1));
        due(row.group(1), Integer.valueOf(row.group(3)), -1000010 - Integer.parseInt(row.group(2)));
      }
    }
    due("causes", named.toString(), CAUSES);
  }

  public static void main(String[] args) throws IOException, ReflectiveOperationException {
    List<String> lines = Files.readAllLines(Path.of("README.md"));
    examples(lines);
    calls(lines);
    codes(lines);
    causes(lines);
    System.out.println(wrong == 0 ? "README.md is true" : wrong + " things in README.md are not as due");
    if (wrong != 0) {
      System.exit(1);
    }
  }
}

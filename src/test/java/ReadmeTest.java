import java.io.IOException;
import java.lang.reflect.InvocationTargetException;
import java.lang.reflect.Method;
import java.lang.reflect.Modifier;
import java.nio.file.Files;
import java.nio.file.Path;
import java.util.List;
import java.util.regex.Matcher;
import java.util.regex.Pattern;

/** What README.md says: the answers in its examples, and the exceptions in its table of calls. */
public final class ReadmeTest {
  private static final Pattern MADE = Pattern.compile("= new MeshRouting\\((\\d+)\\);");
  private static final Pattern CALLED =
      Pattern.compile("^ *mesh\\.(\\w+)\\(([^)]*)\\); *// (?:= (-?\\d+)|throws (\\w+))");
  private static final Pattern ROW = Pattern.compile("\\| `(\\w+)\\(([^)]*)\\)` \\|.*\\|([^|]*)\\|");
  // As many as the two examples of the document have that the page shows.
  private static final int CALLS_SHOWN = 15;

  public static void main(String[] args) throws IOException {
    List<String> page = Files.readAllLines(Path.of("README.md"));
    examples(page);
    table(page);
    Check.end("ReadmeTest");
  }

  private static void examples(List<String> page) {
    Check.part("the examples of README.md");
    MeshRouting mesh = null;
    int shown = 0;
    for (String line : page) {
      Matcher made = MADE.matcher(line);
      Matcher called = CALLED.matcher(line);
      if (made.find()) {
        mesh = new MeshRouting(Integer.parseInt(made.group(1)));
      } else if (called.find()) {
        shown++;
        String want = called.group(3) != null ? called.group(3) : called.group(4);
        Check.due(line.strip(), outcome(mesh, called.group(1), called.group(2)), want);
      }
    }
    Check.due("calls that are shown", shown, CALLS_SHOWN);
  }

  private static void table(List<String> page) {
    Check.part("the table of calls in README.md");
    int rows = 0;
    for (String line : page) {
      Matcher row = ROW.matcher(line);
      if (row.matches()) {
        rows++;
        Method call = callNamed(row.group(1), arguments(row.group(2)).length);
        Check.due(row.group(1) + " is a call", call != null, true);
        Check.due("what " + row.group(1) + " throws", row.group(3).strip(), thrownBy(call));
      }
    }
    int calls = 0;
    for (Method call : MeshRouting.class.getDeclaredMethods()) {
      calls += Modifier.isPublic(call.getModifiers()) ? 1 : 0;
    }
    Check.due("calls in the table", rows, calls);
  }

  private static String[] arguments(String list) {
    return list.isEmpty() ? new String[0] : list.split(", ");
  }

  private static Method callNamed(String name, int count) {
    for (Method call : MeshRouting.class.getDeclaredMethods()) {
      if (Modifier.isPublic(call.getModifiers()) && call.getName().equals(name)
          && call.getParameterCount() == count) {
        return call;
      }
    }
    return null;
  }

  private static String thrownBy(Method call) {
    StringBuilder names = new StringBuilder();
    if (call != null) {
      for (Class<?> thrown : call.getExceptionTypes()) {
        names.append(names.length() == 0 ? "" : ", ");
        names.append('`').append(thrown.getSimpleName()).append('`');
      }
    }
    return names.toString();
  }

  /** The answer of a call, or the name of the exception that it throws. */
  private static String outcome(MeshRouting mesh, String name, String list) {
    String[] texts = arguments(list);
    Object[] values = new Object[texts.length];
    for (int k = 0; k < texts.length; k++) {
      values[k] = Integer.valueOf(texts[k]);
    }
    Method call = callNamed(name, values.length);
    if (mesh == null || call == null) {
      return "no such call";
    }
    try {
      return String.valueOf(call.invoke(mesh, values));
    } catch (InvocationTargetException e) {
      return e.getCause().getClass().getSimpleName();
    } catch (IllegalAccessException e) {
      return "not open";
    }
  }
}

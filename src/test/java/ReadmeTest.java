import java.lang.reflect.InvocationTargetException;
import java.lang.reflect.Method;
import java.lang.reflect.Modifier;
import java.nio.file.Files;
import java.nio.file.Path;
import java.util.Set;
import java.util.TreeSet;

/** What README.md says about the calls holds: the rows of its table are run on one new book. */
public final class ReadmeTest {
  private static final TrainingBook book = new TrainingBook();
  private static final Set<String> missing = new TreeSet<>();

  public static void main(String[] args) throws Exception {
    for (Method m : TrainingBook.class.getDeclaredMethods()) {
      if (Modifier.isPublic(m.getModifiers())) missing.add(m.getName());
    }
    boolean inTable = false;
    for (String line : Files.readAllLines(Path.of("README.md"))) {
      String[] cells = line.split(" *\\| *");
      if (line.startsWith("| call |")) inTable = true;
      if (line.isEmpty()) inTable = false;
      if (inTable && line.startsWith("| `")) dueRow(bare(cells[1]), bare(cells[2]));
    }
    Check.due("calls of which README.md says nothing, " + missing + ",", missing.size(), 0);
    Check.finish();
  }

  private static String bare(String cell) {
    return cell.substring(1, cell.length() - 1);
  }

  private static void dueRow(String call, String want) throws Exception {
    if (call.startsWith("\"")) {
      Check.put(book, bare(call));
      return;
    }
    String got = answer(call);
    Check.due("README.md: " + call + " answered " + got + ", due is " + want + ":", got.equals(want), true);
  }

  private static String answer(String call) throws Exception {
    int open = call.indexOf('(');
    String name = call.substring(0, open);
    String inside = call.substring(open + 1, call.length() - 1);
    String[] parts = inside.isEmpty() ? new String[0] : inside.split(", ");
    missing.remove(name);
    for (Method m : TrainingBook.class.getDeclaredMethods()) {
      if (m.getName().equals(name) && m.getParameterCount() == parts.length) return answer(m, parts);
    }
    return "that there is no such call";
  }

  private static String answer(Method m, String[] parts) throws Exception {
    Object[] values = new Object[parts.length];
    for (int i = 0; i < parts.length; i++) {
      if (m.getParameterTypes()[i] == boolean.class) values[i] = Boolean.valueOf(parts[i]);
      else values[i] = Long.decode(parts[i]).intValue();
    }
    try {
      return String.valueOf(m.invoke(book, values));
    } catch (InvocationTargetException e) {
      return e.getCause().getClass().getSimpleName();
    }
  }
}

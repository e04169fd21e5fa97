import java.lang.reflect.Constructor;
import java.lang.reflect.Field;
import java.lang.reflect.Method;
import java.lang.reflect.Modifier;
import java.util.Arrays;
import java.util.NoSuchElementException;
import java.util.Set;
import java.util.TreeSet;

/** The public face is the document's and no other; rules 1, 5 and 11 of LANGUAGE.md as far as one can see them from outside. */
public final class FaceTest {
  private static final String[] FACE = {
    "int feed(int, int, int, int, int)", "boolean end(int)", "int tell()", "int fault()", "int group(int, int)",
    "boolean load(int, int)", "boolean set(int, int)", "int camp(int, int)", "int strike(int)", "int plan(int, int, int, int)",
    "int undo()", "int count(int)", "int camped(int, boolean)", "int day(int, int, int)", "int form(int, int)",
    "int week(int, int)", "int injured(int, int, int)", "int peak(int, int, int)", "int taper(int, int)",
    "int best(int, int, int, int)", "int team(int, int)", "int safe(int, int)", "int row(int, int, int)",
    "int swap(int, int, int, int)", "int without(int, int, int)", "int ahead(int, int, int)"};

  public static void main(String[] args) throws Exception {
    Class<?> book = TrainingBook.class;
    Check.due("public and final", book.getModifiers(), Modifier.PUBLIC | Modifier.FINAL);
    Check.due("no package", book.getPackageName().isEmpty(), true);
    methods(book);
    constants(book);
    Constructor<?>[] made = book.getDeclaredConstructors();
    Check.due("one constructor", made.length, 1);
    Check.due("public, of none", Modifier.isPublic(made[0].getModifiers()) && made[0].getParameterCount() == 0, true);
    Class<?>[] thrown = book.getMethod("camped", int.class, boolean.class).getExceptionTypes();
    Check.due("camped throws", thrown.length == 1 && thrown[0] == NoSuchElementException.class, true);
    Set<String> names = new TreeSet<>();
    for (String line : FACE) names.add(line.substring(line.indexOf(' ') + 1, line.indexOf('(')));
    inside(book, names);
    Check.due("some twelve classes", book.getDeclaredClasses().length <= 11, true);
    for (Class<?> c : book.getDeclaredClasses()) {
      Check.due(c + " is private and static", Modifier.isPrivate(c.getModifiers()) && Modifier.isStatic(c.getModifiers()), true);
      inside(c, names);
      for (Method m : c.getDeclaredMethods()) Check.due(m + " bears no public name", names.contains(m.getName()), false);
    }
    Check.finish();
  }

  private static void methods(Class<?> book) {
    Set<String> found = new TreeSet<>();
    for (Method m : book.getDeclaredMethods()) {
      if (Modifier.isPrivate(m.getModifiers())) continue;
      Check.due(m + " is public alone", m.getModifiers(), Modifier.PUBLIC);
      String types = Arrays.toString(Arrays.stream(m.getParameterTypes()).map(Class::getName).toArray());
      found.add(m.getReturnType().getName() + " " + m.getName() + "(" + types.substring(1, types.length() - 1) + ")");
    }
    Set<String> want = new TreeSet<>(Arrays.asList(FACE));
    Check.due("the face " + found, found.equals(want), true);
  }

  private static void constants(Class<?> book) throws Exception {
    for (Field f : book.getDeclaredFields()) {
      if (Modifier.isPrivate(f.getModifiers())) continue;
      Check.due(f + " is a constant of the document", f.getName().equals("NONE") || f.getName().equals("NO_FORM"), true);
    }
    Check.due("NONE", book.getField("NONE").getInt(null), -1);
    Check.due("NO_FORM", book.getField("NO_FORM").getInt(null), -1000000000);
  }

  private static void inside(Class<?> c, Set<String> names) {
    int fields = 0;
    for (Field f : c.getDeclaredFields()) {
      boolean constant = Modifier.isStatic(f.getModifiers());
      if (!constant) fields++;
      if (constant) Check.due(f + " is final", Modifier.isFinal(f.getModifiers()), true);
      if (constant) Check.due(f + " is a number or a row of them", f.getType() == int.class || f.getType() == int[].class, true);
    }
    Check.due(c + " has some twenty fields", fields <= 20, true);
    for (Method m : c.getDeclaredMethods()) {
      Check.due(m + " takes seven at most", m.getParameterCount() <= 7, true);
      if (Modifier.isPrivate(m.getModifiers())) Check.due(m + " bears no public name", names.contains(m.getName()), false);
    }
  }
}

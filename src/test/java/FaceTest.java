import java.lang.reflect.Constructor;
import java.lang.reflect.Field;
import java.lang.reflect.Method;
import java.lang.reflect.Modifier;
import java.util.ArrayList;
import java.util.Arrays;
import java.util.List;
import java.util.TreeSet;

/** The public face is the document's, and nothing else is seen from outside. */
public final class FaceTest {
  private static boolean hidden(int modifiers) {
    return Modifier.isPrivate(modifiers);
  }

  public static void main(String[] args) {
    Due due = new Due();
    TreeSet<String> want = new TreeSet<>(Arrays.asList(
        "int put[int, int, int, int]", "int branch[int, boolean, int, int]", "boolean fail[]",
        "boolean drop[int]", "void clear[]", "int again[int, int]", "int time[int, int]",
        "int of[int, int]", "int stage[int, int]", "int many[int, int]", "int look[int]",
        "new[]", "int NONE"));
    TreeSet<String> got = new TreeSet<>();
    List<String> privateNames = new ArrayList<>();
    for (Method m : IssueTimes.class.getDeclaredMethods()) {
      if (hidden(m.getModifiers())) {
        privateNames.add(m.getName());
      } else {
        got.add(m.getReturnType() + " " + m.getName() + Arrays.toString(m.getParameterTypes()));
        due.is("public alone: " + m, m.getModifiers(), Modifier.PUBLIC);
      }
    }
    for (Constructor<?> c : IssueTimes.class.getDeclaredConstructors()) {
      got.add("new" + Arrays.toString(c.getParameterTypes()));
      due.is("public: " + c, Modifier.isPublic(c.getModifiers()), true);
    }
    for (Field f : IssueTimes.class.getDeclaredFields()) {
      if (!hidden(f.getModifiers())) {
        got.add(f.getType() + " " + f.getName());
      }
      boolean changing = Modifier.isStatic(f.getModifiers()) && !Modifier.isFinal(f.getModifiers());
      due.is("static and not final: " + f, changing, false);
    }
    due.is("the face " + got, got.equals(want), true);
    for (String name : privateNames) {
      boolean taken = want.stream().anyMatch(w -> w.contains(" " + name + "["));
      due.is("a private method bears a public name: " + name, taken, false);
    }
    due.is("final", Modifier.isFinal(IssueTimes.class.getModifiers()), true);
    due.is("NONE", IssueTimes.NONE, -1);
    due.end("FaceTest");
  }
}

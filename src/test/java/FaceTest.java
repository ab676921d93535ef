import java.lang.reflect.Constructor;
import java.lang.reflect.Field;
import java.lang.reflect.Method;
import java.lang.reflect.Modifier;
import java.util.ArrayList;
import java.util.Arrays;
import java.util.Collections;
import java.util.HashSet;
import java.util.List;
import java.util.Set;

/** The public face: just the document's members, and what LANGUAGE.md says of the others. */
public final class FaceTest {
  private static final Check check = new Check();
  private static final String[] FACE = {
    "int question() IllegalStateException",
    "int product(int) IndexOutOfBoundsException IllegalStateException",
    "int test(int int int int boolean) IndexOutOfBoundsException IllegalArgumentException"
        + " IllegalStateException",
    "int drop(int) IndexOutOfBoundsException",
    "int setQuiet(int int) IndexOutOfBoundsException IllegalArgumentException",
    "int set(int int) IndexOutOfBoundsException IllegalArgumentException",
    "int come()",
    "int advance(int) IllegalArgumentException IllegalStateException",
    "boolean satisfies(int) IndexOutOfBoundsException",
    "int matching()",
    "int matchingByIndex()",
    "int sizeOf(int) IndexOutOfBoundsException",
    "int withSize(int)",
    "int pieces(int int) IllegalArgumentException",
    "int pieceAt(int int int) IndexOutOfBoundsException IllegalArgumentException",
    "int minute()",
    "boolean isQuiet(int) IndexOutOfBoundsException",
    "int alerts(int) IndexOutOfBoundsException",
    "int batch(int) IndexOutOfBoundsException",
  };

  public static void main(String[] args) {
    check.promise("the public face");
    methods();
    constructors();
    fields();
    namesOfPrivateMethods();
    check.end();
  }

  private static void methods() {
    List<String> found = new ArrayList<>();
    for (Method method : AlertIndex.class.getDeclaredMethods()) {
      if (!Modifier.isPrivate(method.getModifiers())) {
        check.due(method + " is public", true, Modifier.isPublic(method.getModifiers()));
        found.add(told(method));
      }
    }
    List<String> want = new ArrayList<>(Arrays.asList(FACE));
    Collections.sort(want);
    Collections.sort(found);
    check.due("methods", want.toString(), found.toString());
  }

  private static String told(Method method) {
    StringBuilder text = new StringBuilder();
    text.append(method.getReturnType()).append(' ').append(method.getName()).append('(');
    for (Class<?> type : method.getParameterTypes()) {
      text.append(text.charAt(text.length() - 1) == '(' ? "" : " ").append(type);
    }
    text.append(')');
    for (Class<?> type : method.getExceptionTypes()) {
      text.append(' ').append(type.getSimpleName());
    }
    return text.toString();
  }

  private static void constructors() {
    Constructor<?>[] made = AlertIndex.class.getDeclaredConstructors();
    check.due("constructors", 1, made.length);
    check.due("constructor", "public AlertIndex()", made[0].toString());
    check.due("class", "public final", Modifier.toString(AlertIndex.class.getModifiers()));
  }

  private static void fields() {
    for (Field field : AlertIndex.class.getDeclaredFields()) {
      boolean isNone = field.getName().equals("NONE");
      String want = isNone ? "public static final" : "private";
      check.due(field.toString(), true, Modifier.toString(field.getModifiers()).startsWith(want));
    }
  }

  private static void namesOfPrivateMethods() {
    Set<String> face = new HashSet<>();
    for (Method method : AlertIndex.class.getMethods()) {
      face.add(method.getName());
    }
    List<Class<?>> classes = new ArrayList<>(Arrays.asList(AlertIndex.class.getDeclaredClasses()));
    classes.add(AlertIndex.class);
    for (Class<?> one : classes) {
      for (Method method : one.getDeclaredMethods()) {
        boolean isFace = one == AlertIndex.class && Modifier.isPublic(method.getModifiers());
        check.due(method + " has its own name", true, isFace || !face.contains(method.getName()));
      }
    }
  }
}

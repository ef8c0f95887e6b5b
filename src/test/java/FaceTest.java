import java.lang.reflect.Constructor;
import java.lang.reflect.Field;
import java.lang.reflect.Method;
import java.lang.reflect.Modifier;
import java.util.ArrayList;
import java.util.Collections;
import java.util.List;
import java.util.Set;
import java.util.TreeSet;

/** The public face: just what the document shows, with its exceptions, and nothing else. */
public final class FaceTest {
  private static final String[] FACE = {
    "int setLink(int, int, int) bounds argument",
    "int link(int, int) bounds",
    "int setParameter(int, int) bounds argument",
    "int send(int, int) bounds argument state",
    "int step()",
    "int run(int) argument",
    "int time()",
    "int nextEvent()",
    "int inFlight(int) bounds",
    "int sent(int) bounds",
    "boolean isValid(int, int) bounds",
    "int nextNode(int, int) bounds",
    "int hops(int, int) bounds",
    "int sequence(int, int) bounds",
    "int expiry(int, int) bounds",
    "int users(int, int) bounds",
    "int searching(int, int) bounds",
    "int timeout(int, int) bounds",
    "int buffered(int, int) bounds",
    "int stateOf(int) bounds",
    "int nodeOf(int) bounds",
    "int hopsOf(int) bounds",
    "int endOf(int) bounds",
    "int whyDropped(int, int) bounds",
    "int packets(int) bounds",
    "int follow(int, int) bounds",
    "int loops()",
    "int distance(int, int) bounds",
    "int totalHops()",
    "int forecast(int, int, int) bounds argument",
    "int damage(int, int, int) bounds argument",
    "int keep()",
    "int restore() state",
    "long fingerprint()",
  };

  public static void main(String[] args) {
    Check.part("the face");
    Class<MeshRouting> face = MeshRouting.class;
    Check.due("public and final",
        face.getModifiers() == (Modifier.PUBLIC | Modifier.FINAL), true);
    constructors(face);
    methods(face);
    fields(face);
    classesInside(face);
    Check.end("FaceTest");
  }

  private static void constructors(Class<?> face) {
    Constructor<?>[] all = face.getDeclaredConstructors();
    Check.due("constructors", all.length, 1);
    Check.due("is public", Modifier.isPublic(all[0].getModifiers()), true);
    Check.due("takes an int", all[0].getParameterCount() == 1
        && all[0].getParameterTypes()[0] == int.class, true);
    Check.due("throws nothing", all[0].getExceptionTypes().length, 0);
  }

  private static String written(Method method) {
    StringBuilder text = new StringBuilder();
    text.append(method.getReturnType()).append(' ').append(method.getName()).append('(');
    for (int k = 0; k < method.getParameterCount(); k++) {
      text.append(k == 0 ? "" : ", ").append(method.getParameterTypes()[k]);
    }
    text.append(')');
    for (Class<?> thrown : method.getExceptionTypes()) {
      text.append(thrown == IndexOutOfBoundsException.class ? " bounds"
          : thrown == IllegalArgumentException.class ? " argument"
          : thrown == IllegalStateException.class ? " state" : " " + thrown.getName());
    }
    return text.toString();
  }

  private static void methods(Class<?> face) {
    List<String> found = new ArrayList<>();
    Set<String> open = new TreeSet<>();
    for (Method method : face.getDeclaredMethods()) {
      if (Modifier.isPublic(method.getModifiers())) {
        found.add(written(method));
        open.add(method.getName());
      }
    }
    List<String> want = new ArrayList<>(List.of(FACE));
    Collections.sort(found);
    Collections.sort(want);
    for (String method : want) {
      Check.due("has " + method, found.contains(method), true);
    }
    Check.due("public methods", found.size(), want.size());
    for (Method method : face.getDeclaredMethods()) {
      boolean shown = Modifier.isPublic(method.getModifiers());
      Check.due(method + " is public or private",
          shown || Modifier.isPrivate(method.getModifiers()), true);
      Check.due(method + " bears a name of its own", shown || !open.contains(method.getName()), true);
    }
  }

  private static void fields(Class<?> face) {
    for (Field field : face.getDeclaredFields()) {
      Check.due(field + " is private", Modifier.isPrivate(field.getModifiers()), true);
      Check.due(field + " is final, if it is static",
          !Modifier.isStatic(field.getModifiers()) || Modifier.isFinal(field.getModifiers()), true);
    }
  }

  private static void classesInside(Class<?> face) {
    Class<?>[] inside = face.getDeclaredClasses();
    Check.due("at most twelve classes", inside.length <= 12, true);
    for (Class<?> one : inside) {
      Check.due(one + " is not public or protected",
          (one.getModifiers() & (Modifier.PUBLIC | Modifier.PROTECTED)) == 0, true);
      Check.due(one + " is static", Modifier.isStatic(one.getModifiers()), true);
      int fields = 0;
      for (Field field : one.getDeclaredFields()) {
        fields += Modifier.isStatic(field.getModifiers()) ? 0 : 1;
      }
      Check.due(one + " has at most twenty fields", fields <= 20, true);
    }
  }
}

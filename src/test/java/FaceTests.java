import java.lang.reflect.Constructor;
import java.lang.reflect.Method;
import java.lang.reflect.Modifier;
import java.util.Arrays;
import java.util.TreeSet;

/** The class shows the document's face and nothing else. */
public final class FaceTests {
  private static final String[] FACE = {
    "int coach(int, int) IllegalArgumentException IllegalStateException",
    "int out(int, boolean) IndexOutOfBoundsException IllegalStateException",
    "int guest(int, int, int, int) IllegalArgumentException IllegalStateException",
    "int pair(int, int, int, int) IndexOutOfBoundsException IllegalArgumentException",
    "int move(int, int) IndexOutOfBoundsException IllegalStateException",
    "int settle()",
    "int seat(int, int) IndexOutOfBoundsException IllegalStateException",
    "int stop(int, int, int, int) IllegalArgumentException IllegalStateException",
    "int begin(int) IllegalArgumentException",
    "int delay(int, int) IndexOutOfBoundsException IllegalArgumentException",
    "int late(int, int) IndexOutOfBoundsException IllegalArgumentException",
    "int drive() IllegalStateException",
    "int rates(int, int, int) IllegalArgumentException",
    "int price(int) IllegalArgumentException",
    "int pay(int, boolean) IndexOutOfBoundsException IllegalStateException",
    "int cancel(int) IndexOutOfBoundsException IllegalStateException",
    "int ofGuest(int, int) IndexOutOfBoundsException IllegalArgumentException",
    "int ofSeat(int, int) IndexOutOfBoundsException IllegalArgumentException",
    "int ofPair(int, int, int) IndexOutOfBoundsException IllegalArgumentException",
    "int ofStop(int, int) IndexOutOfBoundsException IllegalArgumentException",
    "int tour(int) IllegalArgumentException",
    "String row(int) IndexOutOfBoundsException",
    "int would(int, int) IndexOutOfBoundsException IllegalStateException",
    "int asked()",
    "int rooms(boolean)",
    "int split(int, boolean) IllegalArgumentException",
    "boolean isSound()",
    "long digest()",
  };

  public static void main(String[] args) {
    TreeSet<String> got = new TreeSet<>();
    TreeSet<String> names = new TreeSet<>();
    for (Method method : Coachparty.class.getDeclaredMethods()) {
      if (!Modifier.isPrivate(method.getModifiers()) && !method.isSynthetic()) {
        got.add(text(method));
        names.add(method.getName());
      }
    }
    Check.due("the face", got, new TreeSet<>(Arrays.asList(FACE)));
    for (Method method : Coachparty.class.getDeclaredMethods()) {
      boolean isHidden = Modifier.isPrivate(method.getModifiers());
      Check.due(method.getName() + " is private and named as a public one",
          isHidden && names.contains(method.getName()), false);
    }
    Constructor<?>[] constructors = Coachparty.class.getDeclaredConstructors();
    Check.due("constructors", constructors.length, 1);
    Check.due("its parameters", constructors[0].getParameterCount(), 0);
    Check.due("shown fields", Coachparty.class.getFields().length, 0);
    int flags = Coachparty.class.getModifiers();
    Check.due("public and final", Modifier.isPublic(flags) && Modifier.isFinal(flags), true);
    Check.end();
  }

  private static String text(Method method) {
    StringBuilder text = new StringBuilder(method.getReturnType().getSimpleName()).append(' ');
    text.append(method.getName()).append('(');
    for (int k = 0; k < method.getParameterCount(); k++) {
      text.append(k > 0 ? ", " : "").append(method.getParameterTypes()[k].getSimpleName());
    }
    text.append(')');
    for (Class<?> thrown : method.getExceptionTypes()) {
      text.append(' ').append(thrown.getSimpleName());
    }
    return text.toString();
  }
}

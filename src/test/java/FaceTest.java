import java.lang.reflect.Constructor;
import java.lang.reflect.Field;
import java.lang.reflect.Method;
import java.lang.reflect.Modifier;
import java.util.Arrays;
import java.util.TreeSet;

/** The class has the document's public face, and nothing else that can be seen from outside. */
public final class FaceTest {

  private static final String FACE =
      """
      int make(int,int) IndexOutOfBoundsException IllegalArgumentException
      int pattern(int,int,int,int,int,int) IndexOutOfBoundsException IllegalArgumentException
      int set(int,int,int) IndexOutOfBoundsException
      int swap(int,int,int) IndexOutOfBoundsException
      int fill(int,int) IndexOutOfBoundsException
      int fillPart(int,int,int,int) IndexOutOfBoundsException IllegalArgumentException
      int resize(int,int) IndexOutOfBoundsException IllegalArgumentException
      int cut(int,int,int) IndexOutOfBoundsException IllegalArgumentException
      int turn(int,int,int) IndexOutOfBoundsException IllegalArgumentException
      int roll(int,int) IndexOutOfBoundsException IllegalArgumentException
      int pour(int,int) IndexOutOfBoundsException IllegalArgumentException
      int sort(int) IndexOutOfBoundsException
      int sortPart(int,int,int) IndexOutOfBoundsException IllegalArgumentException
      int sortPieces(int,int) IndexOutOfBoundsException IllegalArgumentException
      int insert(int,int) IndexOutOfBoundsException IllegalStateException
      int drop(int,int) IndexOutOfBoundsException IllegalStateException
      int thin(int) IndexOutOfBoundsException IllegalStateException
      int keep(int) IndexOutOfBoundsException IllegalStateException
      int keepPart(int,int,int) IndexOutOfBoundsException IllegalArgumentException IllegalStateException
      int layBack(int) IndexOutOfBoundsException
      int sortShelf(int) IndexOutOfBoundsException
      int merge(int) IndexOutOfBoundsException IllegalStateException
      int throwAway(int) IndexOutOfBoundsException
      int knock()
      int ofRow(int,int) IndexOutOfBoundsException IllegalArgumentException
      int at(int,int) IndexOutOfBoundsException
      String text(int,int,int) IndexOutOfBoundsException IllegalArgumentException
      int find(int,int) IndexOutOfBoundsException IllegalStateException
      int findPart(int,int,int,int) IndexOutOfBoundsException IllegalArgumentException IllegalStateException
      int count(int,int) IndexOutOfBoundsException
      int ofShelf(int,int) IndexOutOfBoundsException IllegalArgumentException
      int onShelf(int,int) IndexOutOfBoundsException
      int unlike(int) IndexOutOfBoundsException
      int house(int) IllegalArgumentException
      int nth(int,int) IndexOutOfBoundsException
      String ordered(int,int,int) IndexOutOfBoundsException IllegalArgumentException
      String top(int,int) IndexOutOfBoundsException IllegalArgumentException
      int wouldFind(int,int) IndexOutOfBoundsException
      int would(int,int) IndexOutOfBoundsException IllegalArgumentException
      int mode(int) IndexOutOfBoundsException IllegalStateException
      int shared(int,int) IndexOutOfBoundsException IllegalArgumentException
      boolean isSound()
      long digest()
      """;

  private static int wrong = 0;

  public static void main(String[] args) {
    TreeSet<String> due = new TreeSet<>(Arrays.asList(FACE.strip().split("\n")));
    TreeSet<String> got = new TreeSet<>();
    for (Method method : Rowsorter.class.getDeclaredMethods()) {
      if (Modifier.isPrivate(method.getModifiers())) {
        refuseFaceName(method, due);
      } else {
        got.add(told(method));
      }
    }
    for (String line : due) {
      demand(got.contains(line), "missing: " + line);
    }
    for (String line : got) {
      demand(due.contains(line), "not in the document: " + line);
    }
    checkConstructor();
    checkFields();
    checkClasses();
    int modifiers = Rowsorter.class.getModifiers();
    demand(Modifier.isPublic(modifiers) && Modifier.isFinal(modifiers), "public and final");
    System.out.println(wrong == 0 ? "the face is as due" : wrong + " faults of the face");
    if (wrong != 0) {
      System.exit(1);
    }
  }

  private static String told(Method method) {
    StringBuilder line = new StringBuilder();
    line.append(method.getReturnType().getSimpleName()).append(' ').append(method.getName());
    line.append('(');
    for (int i = 0; i < method.getParameterCount(); i++) {
      line.append(i > 0 ? "," : "").append(method.getParameterTypes()[i].getSimpleName());
    }
    line.append(')');
    for (Class<?> type : method.getExceptionTypes()) {
      line.append(' ').append(type.getSimpleName());
    }
    boolean isPlain = method.getModifiers() == Modifier.PUBLIC;
    return isPlain ? line.toString() : Modifier.toString(method.getModifiers()) + " " + line;
  }

  private static void refuseFaceName(Method method, TreeSet<String> face) {
    for (String line : face) {
      demand(!line.contains(" " + method.getName() + "("), "private, too: " + method.getName());
    }
  }

  private static void checkConstructor() {
    Constructor<?>[] all = Rowsorter.class.getDeclaredConstructors();
    demand(all.length == 1, "one constructor");
    demand(all[0].getModifiers() == Modifier.PUBLIC, "a public constructor");
    demand(all[0].getParameterCount() == 0, "a constructor without parameters");
  }

  private static void checkFields() {
    for (Field field : Rowsorter.class.getDeclaredFields()) {
      int modifiers = field.getModifiers();
      demand(Modifier.isPrivate(modifiers), "a field that is not private: " + field.getName());
      boolean isKept = Modifier.isStatic(modifiers) && !Modifier.isFinal(modifiers);
      demand(!isKept, "a static field that is not final: " + field.getName());
    }
  }

  private static void checkClasses() {
    for (Class<?> inside : Rowsorter.class.getDeclaredClasses()) {
      int modifiers = inside.getModifiers();
      boolean isSeen = Modifier.isPublic(modifiers) || Modifier.isProtected(modifiers);
      demand(!isSeen && Modifier.isStatic(modifiers), "a class inside: " + inside.getName());
    }
  }

  private static void demand(boolean holds, String what) {
    if (!holds) {
      wrong++;
      System.out.println("not so: " + what);
    }
  }
}

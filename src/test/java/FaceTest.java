import java.lang.reflect.Constructor;
import java.lang.reflect.Field;
import java.lang.reflect.Method;
import java.lang.reflect.Modifier;
import java.util.List;
import java.util.Set;
import java.util.TreeSet;

/** The face of the class is the document's and nothing else; what LANGUAGE.md counts stays within its limits. */
public final class FaceTest {
  private static final List<String> METHODS = List.of(
      "int feed(int,int,int,int,int)", "int load(int) IllegalArgumentException", "int errorPosition()",
      "int size(int) NoSuchElementException", "int unit(int,int) NoSuchElementException",
      "int picket(int,int) NoSuchElementException", "int order(int,int) NoSuchElementException",
      "int plan(int,int) NoSuchElementException", "int event(int,int) NoSuchElementException",
      "int orders(int) IllegalArgumentException", "boolean isWall(int,int) NoSuchElementException",
      "boolean isWatched(int,int,int) NoSuchElementException IllegalArgumentException",
      "int distance(int,int,int,int) NoSuchElementException", "int step(int,int,int,int) NoSuchElementException",
      "int wasAt(int,int) NoSuchElementException IllegalArgumentException",
      "int stateAt(int,int) NoSuchElementException IllegalArgumentException", "int crossed()",
      "int wouldBe(int,int,int,int) NoSuchElementException IllegalArgumentException",
      "int wouldArrive(int,int,int) NoSuchElementException IllegalArgumentException",
      "int bestDelay(int,int,int) NoSuchElementException IllegalArgumentException",
      "int failing(int) IllegalArgumentException", "double meanDelay()", "float success()",
      "int pass(int) IllegalArgumentException",
      "int send(int,int,int) NoSuchElementException IllegalArgumentException",
      "int wall(int,int) NoSuchElementException", "int movePicket(int,int,int) NoSuchElementException",
      "int movePlan(int,int) NoSuchElementException IllegalArgumentException",
      "int setPatience(int) IllegalArgumentException", "int format(int) NoSuchElementException",
      "int formattedByte(int)", "int undoCount()", "int undo()", "void saveSnapshot()",
      "boolean restoreSnapshot()", "int query(int) IllegalArgumentException");

  private FaceTest() {
  }

  public static void main(String[] args) {
    Check.due("NONE", () -> MessengerBoard.NONE, -1);
    Check.due("HIDDEN", () -> MessengerBoard.HIDDEN, -1000000000);
    Check.due("public and final", () -> Modifier.toString(MessengerBoard.class.getModifiers()), "public final");
    methods();
    fields();
    Constructor<?>[] made = MessengerBoard.class.getDeclaredConstructors();
    Check.due("the constructor", () -> made.length + " " + made[0].toGenericString(), "1 public MessengerBoard()");
    inside();
    Check.end();
  }

  private static void methods() {
    Set<String> open = new TreeSet<>();
    Set<String> openNames = new TreeSet<>();
    Set<String> hidden = new TreeSet<>();
    for (Method method : MessengerBoard.class.getDeclaredMethods()) {
      if (Modifier.isPrivate(method.getModifiers())) {
        hidden.add(method.getName());
        continue;
      }
      StringBuilder told = new StringBuilder(method.getReturnType() + " " + method.getName() + "(");
      for (Class<?> type : method.getParameterTypes()) {
        told.append(told.charAt(told.length() - 1) == '(' ? "" : ",").append(type);
      }
      told.append(")");
      for (Class<?> type : method.getExceptionTypes()) {
        told.append(" ").append(type.getSimpleName());
      }
      open.add(told.toString());
      openNames.add(method.getName());
      Check.due(method.getName(), () -> Modifier.toString(method.getModifiers()), "public");
    }
    Check.due("the methods", () -> open, new TreeSet<>(METHODS));
    hidden.retainAll(openNames);
    Check.due("private methods with public names", () -> hidden, "[]");
  }

  private static void fields() {
    Set<String> open = new TreeSet<>();
    for (Field field : MessengerBoard.class.getDeclaredFields()) {
      if (!Modifier.isPrivate(field.getModifiers())) {
        open.add(field.toString());
      }
    }
    Check.due("the constants", () -> open,
        "[public static final int MessengerBoard.HIDDEN, public static final int MessengerBoard.NONE]");
  }

  private static void inside() {
    Class<?>[] classes = MessengerBoard.class.getDeclaredClasses();
    Check.due("at most twelve classes", () -> classes.length + 1 <= 12, true);
    for (Class<?> inner : classes) {
      int modifiers = inner.getModifiers();
      Check.due(inner + " is static and not public",
          () -> Modifier.isStatic(modifiers) && !Modifier.isPublic(modifiers) && !Modifier.isProtected(modifiers),
          true);
      fewFields(inner);
    }
    fewFields(MessengerBoard.class);
  }

  private static void fewFields(Class<?> owner) {
    int count = 0;
    for (Field field : owner.getDeclaredFields()) {
      boolean constant = Modifier.isStatic(field.getModifiers());
      count += constant ? 0 : 1;
      Check.due(field + " is final if it is static", () -> !constant || Modifier.isFinal(field.getModifiers()), true);
    }
    int counted = count;
    Check.due(owner + " has at most twenty fields", () -> counted <= 20, true);
  }
}

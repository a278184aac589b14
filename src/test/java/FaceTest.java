import java.lang.reflect.Constructor;
import java.lang.reflect.Field;
import java.lang.reflect.Method;
import java.lang.reflect.Modifier;
import java.util.TreeSet;

/** The public face, word for word, and nothing else that can be seen from outside. */
final class FaceTest {
  private static final Checks CHECKS = new Checks("FaceTest");
  private static final String[] FACE = {
    "int type(char) IllegalArgumentException IllegalStateException",
    "int clear()",
    "int fault()",
    "int run() IllegalStateException",
    "int pass(int) IllegalArgumentException",
    "int turn(int) IndexOutOfBoundsException IllegalStateException",
    "int front(int) IndexOutOfBoundsException IllegalStateException",
    "int kill(int) IndexOutOfBoundsException IllegalStateException",
    "int status()",
    "int size()",
    "char charAt(int) IndexOutOfBoundsException",
    "int flush()",
    "int value(int,int) IndexOutOfBoundsException",
    "int files()",
    "int file(int,int,boolean) IndexOutOfBoundsException",
    "int jobs()",
    "int job(int,int) IndexOutOfBoundsException IllegalArgumentException",
    "int fields()",
    "int fieldAt(int,int) IndexOutOfBoundsException",
    "int fieldAnew(int,int) IndexOutOfBoundsException"};

  public static void main(String[] args) {
    Class<?> face = JobshellQuay.class;
    CHECKS.due("public and final", face.getModifiers(), Modifier.PUBLIC | Modifier.FINAL);
    TreeSet<String> due = new TreeSet<>();
    for (String method : FACE) {
      due.add(method);
    }
    TreeSet<String> seen = new TreeSet<>();
    for (Method method : face.getDeclaredMethods()) {
      if (!Modifier.isPrivate(method.getModifiers())) {
        CHECKS.due("modifiers of " + method, method.getModifiers(), Modifier.PUBLIC);
        seen.add(told(method));
      }
    }
    CHECKS.due("the methods", seen.toString(), due.toString());
    TreeSet<String> constants = new TreeSet<>();
    for (Field field : face.getDeclaredFields()) {
      boolean isConstant = Modifier.isStatic(field.getModifiers());
      if (isConstant) {
        CHECKS.due(field + " is final", Modifier.isFinal(field.getModifiers()) ? 1 : 0, 1);
      }
      if (!Modifier.isPrivate(field.getModifiers())) {
        CHECKS.due(field + " is public", Modifier.isPublic(field.getModifiers()) ? 1 : 0, 1);
        constants.add(field.getName());
      }
    }
    CHECKS.due("the constants", constants.toString(), "[ENDED, GOING, NONE, STOPPED]");
    Constructor<?>[] constructors = face.getDeclaredConstructors();
    CHECKS.due("constructors", constructors.length, 1);
    CHECKS.due("its parameters", constructors[0].getParameterCount(), 0);
    CHECKS.end();
  }

  private static String told(Method method) {
    StringBuilder all = new StringBuilder();
    all.append(method.getReturnType().getName()).append(' ').append(method.getName()).append('(');
    String comma = "";
    for (Class<?> parameter : method.getParameterTypes()) {
      all.append(comma).append(parameter.getName());
      comma = ",";
    }
    all.append(')');
    for (Class<?> thrown : method.getExceptionTypes()) {
      all.append(' ').append(thrown.getSimpleName());
    }
    return all.toString();
  }
}

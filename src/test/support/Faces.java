import java.lang.reflect.Method;

/** How the tests of the public face tell a method. */
final class Faces {
  private Faces() {
  }

  /** Its type, its name, the types that it takes, and the exceptions that it names, in their order. */
  static String told(Method m) {
    StringBuilder line = new StringBuilder(m.getReturnType().getSimpleName());
    line.append(' ').append(m.getName()).append('(');
    for (int i = 0; i < m.getParameterCount(); i++) {
      line.append(i == 0 ? "" : ",").append(m.getParameterTypes()[i].getSimpleName());
    }
    line.append(')');
    for (Class<?> e : m.getExceptionTypes()) {
      line.append(' ').append(e.getSimpleName());
    }
    return line.toString();
  }
}

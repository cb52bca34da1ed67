import java.math.BigInteger;
import java.util.List;

/**
 * What the tests share: cases with a name each, answers that are due, and calls that must be refused.
 * A test is a class below this one, for the unnamed package has no static import.
 */
abstract class Cases {
  static final int LEAST = Integer.MIN_VALUE;
  static final int MOST = Integer.MAX_VALUE;
  static final Class<?> ARGUMENT = IllegalArgumentException.class;
  static final Class<?> INDEX = IndexOutOfBoundsException.class;
  static final Class<?> STATE = IllegalStateException.class;

  private static String name = "";
  private static int cases = 0;
  private static int wrong = 0;

  interface Call {
    Object run();
  }

  interface Body {
    void run(AlmanacHouse x);
  }

  interface HouseCall {
    Object on(AlmanacHouse x);
  }

  interface State {
    AlmanacHouse make();
  }

  /** A case of its own, on a new almanac. */
  static void test(String caseName, Body body) {
    name = caseName;
    cases++;
    try {
      body.run(new AlmanacHouse());
    } catch (RuntimeException e) {
      fail("threw " + e + " outside the answers that are due");
    }
  }

  /** A case of its own: the call is refused whatever the almanac holds. */
  static void refuses(String caseName, Class<?> exception, HouseCall call) {
    refuses(caseName + ", on a new almanac", exception, AlmanacHouse::new, call);
    refuses(caseName + ", on an almanac in use", exception, Almanacs::inUse, call);
    refuses(caseName + ", on a full almanac", exception, Almanacs::full, call);
  }

  /**
   * A case of its own: the call is refused and changes nothing, so that every call tells the same before
   * and after it. Calls that change something can be made once only, and so they are compared with those
   * on a twin to which the refused call was not made.
   */
  static void refuses(String caseName, Class<?> exception, State state, HouseCall call) {
    test(caseName, unused -> {
      AlmanacHouse x = state.make();
      List<String> before = Almanacs.told(x);
      refused(exception, () -> call.on(x));
      dueLines(before, Almanacs.told(x));
      dueLines(Almanacs.goneOn(state.make()), Almanacs.goneOn(x));
    });
  }

  static void due(Object want, Call call) {
    tell(String.valueOf(want), call);
  }

  static void refused(Class<?> want, Call call) {
    tell(want.getName(), call);
  }

  static void dueLines(List<String> want, List<String> got) {
    for (int i = 0; i < want.size() && i < got.size(); i++) {
      if (!want.get(i).equals(got.get(i))) {
        fail("told \"" + got.get(i) + "\", due is \"" + want.get(i) + "\"");
        return;
      }
    }
    due(want.size(), got::size);
  }

  private static void tell(String want, Call call) {
    String got = answer(call);
    if (!got.equals(want)) {
      fail("answered " + got + ", due is " + want);
    }
  }

  /** What a call answers, or the name of what it throws. */
  static String answer(Call call) {
    try {
      return String.valueOf(call.run());
    } catch (RuntimeException e) {
      return thrownName(e);
    }
  }

  /** An exception must come from a throw of the class itself, not from the machine or the library. */
  private static String thrownName(RuntimeException e) {
    StackTraceElement[] trace = e.getStackTrace();
    boolean isOwn = trace.length > 0 && trace[0].getClassName().equals("AlmanacHouse");
    return isOwn ? e.getClass().getName() : e.getClass().getName() + " that the class did not throw";
  }

  private static void fail(String what) {
    wrong++;
    System.out.println(name + " (" + place() + "): " + what);
  }

  private static String place() {
    for (StackTraceElement e : new Throwable().getStackTrace()) {
      if (!e.getClassName().startsWith("Cases")) {
        return e.getFileName() + ":" + e.getLineNumber();
      }
    }
    return "no place";
  }

  /** The last call of a test's main method. */
  static void end() {
    if (wrong != 0) {
      System.out.println(wrong + " answers are not as due");
      System.exit(1);
    }
    System.out.println("all " + cases + " cases hold");
  }

  /** The checksum of a text, told as if numbers had no end and then cut to 32 bits. */
  static int lineSum(String text) {
    BigInteger h = BigInteger.ZERO;
    for (char c : text.toCharArray()) {
      h = h.multiply(BigInteger.valueOf(31)).add(BigInteger.valueOf(c));
    }
    return h.intValue();
  }

  /** The checksum of numbers, told as if they had no end and then cut to 64 bits. */
  static long digestOf(long... numbers) {
    BigInteger d = BigInteger.valueOf(827);
    for (long x : numbers) {
      d = d.multiply(BigInteger.valueOf(31)).add(BigInteger.valueOf(x));
    }
    return d.longValue();
  }
}

import java.lang.reflect.InvocationTargetException;
import java.lang.reflect.Method;
import java.lang.reflect.Modifier;
import java.util.Arrays;

/**
 * Every method with numbers from the least to the greatest int: what it answers, or which of the
 * document's exceptions it throws, and never one of the machine's.
 */
public final class ExtremesTest {
  // An object is used for at most 512 calls.
  private static final int MOST_TRIED = 300;

  private static final int[] FEW = {
    Integer.MIN_VALUE, -1, 0, 1, 2, 3, 5, 12, 40, Integer.MAX_VALUE
  };
  private static final int[] MANY = {
    Integer.MIN_VALUE, Integer.MIN_VALUE + 1, -100, -2, -1, 0, 1, 2, 3, 4, 5, 6, 7, 8, 9, 10, 11,
    12, 13, 14, 15, 16, 20, 30, 31, 39, 40, 300, 301, 402, 1000000, Integer.MAX_VALUE - 1,
    Integer.MAX_VALUE
  };

  public static void main(String[] args) throws Exception {
    int calls = 0;
    for (Method m : Pagegarden.class.getDeclaredMethods()) {
      if (Modifier.isPublic(m.getModifiers())) {
        calls += tries(m);
      }
    }
    System.out.println("ExtremesTest: " + calls + " calls as due");
  }

  private static int tries(Method method) throws Exception {
    Method due = Oracle.class.getDeclaredMethod(method.getName(), method.getParameterTypes());
    int many = method.getParameterCount();
    int[] values = many > 2 ? FEW : MANY;
    int all = 1;
    for (int i = 0; i < many; i++) {
      all *= values.length;
    }
    Pagegarden garden = null;
    Oracle oracle = null;
    for (int i = 0; i < all; i++) {
      if (i % MOST_TRIED == 0) {
        garden = new Pagegarden();
        oracle = new Oracle();
        fill(garden, oracle);
      }
      Object[] args = new Object[many];
      int rest = i;
      for (int k = 0; k < many; k++) {
        boolean isFlag = method.getParameterTypes()[k] == boolean.class;
        args[k] = isFlag ? (Object) (rest % 2 == 0) : (Object) values[rest % values.length];
        rest /= values.length;
      }
      compare(method, garden, due, oracle, args);
      if (i % MOST_TRIED == MOST_TRIED - 1 || i == all - 1) {
        compare(method("digest"), garden, oracle("digest"), oracle);
      }
    }
    return all;
  }

  private static void fill(Pagegarden g, Oracle o) throws Exception {
    int[][] kinds = {
      {0, 1, -1}, {9, 1, -1}, {2, 0, 3}, {10, 2, 1}, {3, 1, 1}, {5, 1, 1}, {12, 3, 0}, {13, 4, 0}
    };
    for (int page = 0; page < 7; page++) {
      for (int[] k : kinds) {
        both(g, o, "add", k[0], (k[1] + page) % 9, k[2]);
      }
      both(g, o, "plant", page < 5 ? page : 10 * (page - 4));
    }
    for (int version = 0; version < 23; version++) {
      both(g, o, "add", 0, version, -1);
      both(g, o, "write", 2);
    }
    both(g, o, "add", 14, 1, -1);
    both(g, o, "write", 3);
    both(g, o, "watch", 1, 2, true);
    both(g, o, "allowPage", 2, 1, 1);
    both(g, o, "talk", 1);
    both(g, o, "shown", 1);
    both(g, o, "uproot", 0);
    both(g, o, "add", 0, 1, -1);
  }

  private static void both(Pagegarden g, Oracle o, String name, Object... args) throws Exception {
    compare(method(name), g, oracle(name), o, args);
  }

  private static Method method(String name) {
    for (Method m : Pagegarden.class.getDeclaredMethods()) {
      if (m.getName().equals(name)) {
        return m;
      }
    }
    throw new IllegalStateException(name);
  }

  private static Method oracle(String name) throws Exception {
    return Oracle.class.getDeclaredMethod(name, method(name).getParameterTypes());
  }

  private static void compare(Method method, Pagegarden g, Method due, Oracle o, Object... args)
      throws Exception {
    Object got = answer(method, g, args);
    Object want = answer(due, o, args);
    if (!want.equals(got)) {
      System.out.println(method.getName() + Arrays.toString(args) + " answered " + got
          + ", due is " + want);
      System.exit(1);
    }
  }

  private static Object answer(Method method, Object on, Object[] args) throws Exception {
    try {
      return method.invoke(on, args);
    } catch (InvocationTargetException e) {
      return "throws." + e.getCause().getClass().getSimpleName();
    }
  }
}

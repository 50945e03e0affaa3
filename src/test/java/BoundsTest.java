import java.lang.reflect.InvocationTargetException;
import java.lang.reflect.Method;
import java.lang.reflect.Modifier;
import java.util.ArrayList;
import java.util.Arrays;
import java.util.HashSet;
import java.util.List;
import java.util.Set;

/**
 * Every argument of every method: the last value on each side that is still taken, the first one
 * that is not, all of these with all of those of the other arguments. If several exceptions apply,
 * that comes which the document names first; what is taken throws nothing; and a call that throws
 * changes nothing.
 */
public final class BoundsTest {
  private static final int LEAST = Integer.MIN_VALUE;
  private static final int MOST = Integer.MAX_VALUE;

  /** The methods with arguments, and what these are. */
  private static final String[] METHODS = {
    "add kind a b", "type sign", "rub many", "take page version", "login user",
    "allow user prefix right", "allowPage user page right", "right user page", "plant name",
    "write page", "writeOver page version", "writeSection page section", "rename page name",
    "split page section name", "merge page other", "uproot page", "undoEdit page undone",
    "restore page version", "text page version", "ofPage page what15", "node page node what4",
    "nodeText page node", "contents page", "section page section", "shown page", "writer page word",
    "versionOf page version what2", "link page link", "sets page what3", "walk page other",
    "rank page steps", "byName nth", "near page flag", "byPrefix prefix", "find word9",
    "kinds word9 word9 what2", "all what5", "watch user page flag", "see user page", "unseen user",
    "talk page", "remark page remark", "garden what8"
  };

  /** A garden, which of its pages are there, and how much each of them has. */
  private abstract static class Setting implements Check.Past {
    abstract int pages();

    abstract int oldest();

    abstract int newest();

    /** The last section, node, word, link or remark; -1 without one. */
    abstract int last(String what);

    final boolean has(int page) {
      return page >= 0 && page < 12 && (pages() >> page & 1) != 0;
    }

    final boolean hasName(int name) {
      return name % 2 == 1 && has(name / 2);
    }
  }

  public static void main(String[] args) throws Exception {
    namesEachMethod();
    for (Setting setting : new Setting[] {new One(), new Gap(), new Empty(), new Full()}) {
      for (String method : METHODS) {
        tries(setting, method.split(" "));
      }
    }
    Check.end("BoundsTest");
  }

  private static void namesEachMethod() {
    Set<String> named = new HashSet<>();
    for (String method : METHODS) {
      named.add(method.split(" ")[0]);
    }
    for (Method m : Pagegarden.class.getDeclaredMethods()) {
      if (Modifier.isPublic(m.getModifiers()) && m.getParameterCount() > 0) {
        Check.due(m.getName() + " has its bounds here", true, () -> named.contains(m.getName()));
      }
    }
  }

  private static void tries(Setting setting, String[] told) {
    Method method = method(told[0]);
    int many = told.length - 1;
    int[][] values = new int[many][];
    int all = 1;
    for (int i = 0; i < many; i++) {
      values[i] = valuesOf(setting, told[i + 1]);
      all *= values[i].length;
    }
    for (int i = 0; i < all; i++) {
      int[] args = new int[many];
      int rest = i;
      for (int k = 0; k < many; k++) {
        args[k] = values[k][rest % values[k].length];
        rest /= values[k].length;
      }
      tries(setting, method, told, args);
    }
  }

  private static void tries(Setting setting, Method method, String[] told, int[] args) {
    String what = setting.getClass().getSimpleName() + ": " + told[0] + Arrays.toString(args);
    String exception = exceptionOf(setting, told, args);
    if (exception.isEmpty()) {
      Pagegarden g = Check.made(setting);
      Check.due(what + " is taken", false,
          () -> Check.answerOf(() -> call(method, g, args)).toString().startsWith("throws."));
    } else {
      Check.thrown(what, exception, setting, g -> call(method, g, args));
    }
  }

  /** The exception that the document names first of those that apply; empty without one. */
  private static String exceptionOf(Setting setting, String[] told, int[] args) {
    boolean isIndexWrong = false;
    boolean isArgumentWrong = told[0].equals("merge") && args[0] == args[1];
    for (int i = 0; i < args.length; i++) {
      boolean isWrong = !isTaken(setting, told[i + 1], args[i]);
      boolean isIndex = told[i + 1].matches("page|other|node");
      isIndexWrong |= isWrong && isIndex;
      isArgumentWrong |= isWrong && !isIndex;
    }
    if (isIndexWrong) {
      return "IndexOutOfBoundsException";
    }
    if (isArgumentWrong) {
      return "IllegalArgumentException";
    }
    return isStateWrong(setting, told[0], args) ? "IllegalStateException" : "";
  }

  private static boolean isStateWrong(Setting setting, String method, int[] args) {
    switch (method) {
      case "plant":
        return setting.pages() == 4095 || setting.hasName(args[0]);
      case "split":
        return setting.pages() == 4095 || setting.hasName(args[2]);
      case "rename":
        return setting.hasName(args[1]) && args[1] != 2 * args[0] + 1;
      default:
        return false;
    }
  }

  private static boolean isTaken(Setting setting, String arg, int value) {
    if (arg.equals("page") || arg.equals("other")) {
      return setting.has(value);
    }
    long[] bounds = boundsOf(setting, arg);
    return bounds[0] <= value && value <= bounds[1];
  }

  /** The least and the greatest value that is taken. */
  private static long[] boundsOf(Setting setting, String arg) {
    switch (arg) {
      case "kind":
        return new long[] {0, 14};
      case "a": case "name":
        return new long[] {0, 39};
      case "b":
        return new long[] {-1, 9};
      case "sign":
        return new long[] {0, 30};
      case "many":
        return new long[] {1, 300};
      case "version":
        return new long[] {setting.oldest(), setting.newest()};
      case "undone":
        return new long[] {setting.oldest() + 1, setting.newest()};
      case "user": case "steps":
        return new long[] {0, 4};
      case "prefix":
        return new long[] {0, 3};
      case "right":
        return new long[] {-1, 2};
      case "section": case "node": case "word": case "link": case "remark":
        return new long[] {0, setting.last(arg)};
      case "nth":
        return new long[] {0, MOST};
      case "flag":
        return new long[] {0, 1};
      case "word9":
        return new long[] {0, 9};
      default:
        return new long[] {0, Integer.parseInt(arg.substring("what".length()))};
    }
  }

  private static int[] valuesOf(Setting setting, String arg) {
    if (arg.equals("flag")) {
      return new int[] {0, 1};
    }
    if (arg.equals("page") || arg.equals("other")) {
      return new int[] {LEAST, -1, 0, 1, 2, 11, 12, MOST};
    }
    long[] bounds = boundsOf(setting, arg);
    long[] told = {LEAST, bounds[0] - 1, bounds[0], bounds[1], bounds[1] + 1, MOST};
    List<Integer> values = new ArrayList<>();
    for (long value : told) {
      if (value >= LEAST && value <= MOST && !values.contains((int) value)) {
        values.add((int) value);
      }
    }
    // The names of the first pages, and one that none has.
    if (arg.equals("name")) {
      values.addAll(List.of(1, 2, 5));
    }
    int[] all = new int[values.size()];
    for (int i = 0; i < all.length; i++) {
      all[i] = values.get(i);
    }
    return all;
  }

  private static Method method(String name) {
    for (Method m : Pagegarden.class.getDeclaredMethods()) {
      if (m.getName().equals(name)) {
        return m;
      }
    }
    throw new IllegalStateException(name);
  }

  private static Object call(Method method, Pagegarden g, int[] args) {
    Object[] told = new Object[args.length];
    for (int i = 0; i < args.length; i++) {
      boolean isFlag = method.getParameterTypes()[i] == boolean.class;
      told[i] = isFlag ? (Object) (args[i] != 0) : (Object) args[i];
    }
    try {
      return method.invoke(g, told);
    } catch (InvocationTargetException e) {
      return "throws." + e.getCause().getClass().getSimpleName();
    } catch (IllegalAccessException e) {
      throw new IllegalStateException(e);
    }
  }

  /** One page, which has some of all: of 25 versions the last 20. */
  private static final class One extends Setting {
    @Override
    public void of(Pagegarden g) {
      g.plant(1);
      for (int i = 1; i < 24; i++) {
        g.add(6, 0, -1);
        if (i % 2 == 0) {
          g.add(7, 0, -1);
        }
        g.write(0);
      }
      // A text of ten nodes, five words and two links.
      Gardens.write(g, 0, "a\n=b\n[ab]c[cad]");
      for (int i = 0; i < 5; i++) {
        g.talk(0);
      }
      g.watch(2, 0, true);
      g.shown(0);
      g.add(0, 3, -1);
    }

    @Override
    int pages() {
      return 1;
    }

    @Override
    int oldest() {
      return 5;
    }

    @Override
    int newest() {
      return 24;
    }

    @Override
    int last(String what) {
      switch (what) {
        case "section":
          return 1;
        case "node":
          return 9;
        case "word": case "remark":
          return 4;
        default:
          return 1;
      }
    }
  }

  /** Pages that have one short line each. */
  private abstract static class Short extends Setting {
    @Override
    int oldest() {
      return 0;
    }

    @Override
    int newest() {
      return 0;
    }

    @Override
    int last(String what) {
      switch (what) {
        case "section": case "link":
          return 0;
        case "node":
          return 2;
        case "word":
          return 1;
        default:
          return -1;
      }
    }
  }

  /** Pages 0 and 2: page 1 went. */
  private static final class Gap extends Short {
    @Override
    public void of(Pagegarden g) {
      for (int i = 0; i < 3; i++) {
        Gardens.plant(g, 2 * i + 1, "[a/a]");
      }
      g.uproot(1);
      g.shown(2);
      g.shown(0);
      g.add(0, 3, -1);
    }

    @Override
    int pages() {
      return 5;
    }
  }

  private static final class Empty extends Short {
    @Override
    public void of(Pagegarden g) { }

    @Override
    int pages() {
      return 0;
    }
  }

  /** As many pages as there can be. */
  private static final class Full extends Short {
    @Override
    public void of(Pagegarden g) {
      for (int i = 0; i < 12; i++) {
        Gardens.plant(g, 2 * i + 1, "[a/a]");
      }
      g.shown(11);
    }

    @Override
    int pages() {
      return 4095;
    }
  }
}

import java.lang.reflect.InvocationTargetException;
import java.lang.reflect.Method;
import java.util.Arrays;
import java.util.Random;
import java.util.TreeMap;

/** Runs of random calls, each answered by the garden and by the oracle. */
public final class RandomRunsTest {
  private static final TreeMap<String, Method> GARDEN = new TreeMap<>();
  private static final TreeMap<String, Method> ORACLE = new TreeMap<>();
  private static final String[] EDITS = {
    "plant", "plant", "plant", "write", "write", "write", "write", "writeOver", "writeOver",
    "writeSection", "writeSection", "rename", "rename", "split", "merge", "uproot", "undoEdit",
    "undoEdit", "restore", "take", "take", "login", "allow", "allowPage", "watch", "see", "talk",
    "reload", "shown", "shown", "shown", "shown"
  };

  private static final String[] ASKED = {
    "text", "ofPage", "node", "node", "nodeText", "nodeText", "contents", "contents", "section",
    "section", "writer", "writer", "versionOf", "versionOf", "link", "link", "sets", "walk", "walk",
    "walk", "rank", "rank", "rank", "byName", "near", "byPrefix", "find", "find", "kinds", "kinds",
    "all", "right", "unseen", "remark", "garden", "isSound", "draft", "exported", "knock", "rub",
    "type", "add"
  };

  public static void main(String[] args) throws Exception {
    int runs = args.length > 0 ? Integer.parseInt(args[0]) : 120;
    int first = args.length > 1 ? Integer.parseInt(args[1]) : 0;
    for (Method m : Pagegarden.class.getDeclaredMethods()) {
      if (java.lang.reflect.Modifier.isPublic(m.getModifiers())) {
        GARDEN.put(m.getName(), m);
        ORACLE.put(m.getName(), Oracle.class.getDeclaredMethod(m.getName(), m.getParameterTypes()));
      }
    }
    long calls = 0;
    for (int run = first; run < first + runs; run++) {
      calls += new Run(run).go();
    }
    System.out.println("RandomRunsTest: " + runs + " runs, " + calls + " calls as due");
  }

  private static final class Run {
    private final int seed;
    private final Random random;
    private final Pagegarden garden = new Pagegarden();
    private final Oracle oracle = new Oracle();
    private final StringBuilder told = new StringBuilder();
    // Some runs name few pages, so that they name each other; some edit one page much.
    private final int names;
    private final int busy;
    private final boolean isWild;
    // How many of a hundred calls add to the draft: the more, the longer the texts are.
    private final int drafting;
    // The kinds of what is added: all alike, mostly links, mostly parts, or mostly lines.
    private final int[] likely;

    Run(int seed) {
      this.seed = seed;
      random = new Random(seed);
      names = 2 + random.nextInt(12);
      busy = 1 + random.nextInt(6);
      isWild = random.nextInt(4) == 0;
      drafting = 30 + random.nextInt(36);
      int[][] moods = {
        {0, 1, 2, 3, 4, 5, 6, 7, 8, 9, 10, 11, 12, 13, 14},
        {0, 1, 9, 9, 9, 9, 9, 10, 13, 14},
        {0, 1, 5, 6, 9, 10, 10, 10, 10, 10, 11, 11, 12},
        {0, 0, 0, 1, 1, 1, 2, 2, 3, 4},
        {14, 14, 9, 10, 1},
      };
      likely = moods[random.nextInt(moods.length)];
    }

    int go() throws Exception {
      int calls = 0;
      while (calls < 510) {
        int dice = random.nextInt(100);
        if (dice < drafting) {
          draftSome();
        } else if (dice < 70) {
          String name = EDITS[random.nextInt(EDITS.length)];
          if (name.equals("login") || name.equals("allow") || name.equals("allowPage")) {
            // Rights refuse much: they come seldom, and are taken back.
            name = random.nextInt(3) == 0 ? name : "write";
          }
          call(name);
        } else if (dice < 97) {
          call(ASKED[random.nextInt(ASKED.length)]);
        } else {
          call("digest");
        }
        calls = count;
      }
      call("digest");
      call("exported");
      return count;
    }

    private int count = 0;

    private void draftSome() throws Exception {
      if (random.nextInt(3) > 0) {
        int kind = likely[random.nextInt(likely.length)];
        call("add", kind, name(), random.nextInt(3) > 0 ? -1 : random.nextInt(10));
      } else if (isWild) {
        call("type", random.nextInt(31));
      } else {
        call("type", new int[] {11, 12, 12, 12, 13, 14, 15, 16, 17, 18, 19, 20, 21, 22, 23, 24,
            25, 26, 27, 28, 29, 30, 0, 1, 10}[random.nextInt(25)]);
      }
    }

    private int name() {
      int[] known = {0, 10, 30, 1, 20, 11, 31, 21, 2, 12, 22, 32, 3, 39};
      return random.nextInt(20) == 0 ? random.nextInt(40) : known[random.nextInt(names)];
    }

    private int page() {
      int dice = random.nextInt(30);
      if (dice == 0) {
        return random.nextInt(14) - 1;
      }
      int[] there = new int[12];
      int many = 0;
      for (int i = 0; i < 12; i++) {
        if ((oracle.all(0) >> i & 1) != 0) {
          there[many++] = i;
        }
      }
      if (many == 0) {
        return 0;
      }
      return there[random.nextInt(dice < 15 ? Math.min(many, busy) : many)];
    }

    private int version(int page) {
      if (page < 0 || page > 11 || (oracle.all(0) >> page & 1) == 0 || random.nextInt(20) == 0) {
        return random.nextInt(5) - 1;
      }
      int newest = oracle.ofPage(page, 3);
      return random.nextInt(3) == 0 ? newest - random.nextInt(22)
          : newest - random.nextInt(3);
    }

    private void call(String method) throws Exception {
      int page = page();
      switch (method) {
        case "add":
          call(method, random.nextInt(17) - 1, random.nextInt(42) - 1, random.nextInt(12) - 2);
          break;
        case "take": case "writeOver": case "undoEdit": case "restore": case "text":
          call(method, page, version(page));
          break;
        case "allow":
          call(method, user(), random.nextInt(4), random.nextInt(5) == 0 ? 0 : some(-1, 2));
          break;
        case "allowPage":
          call(method, user(), page, some(-1, 2));
          break;
        case "right": case "see":
          call(method, user(), page);
          break;
        case "plant":
          call(method, random.nextInt(30) == 0 ? some(-1, 40) : name());
          break;
        case "writeSection": case "section":
          call(method, page, some(0, 3));
          break;
        case "rename":
          call(method, page, random.nextInt(30) == 0 ? some(-1, 40)
              : random.nextBoolean() ? random.nextInt(40) : name());
          break;
        case "split":
          call(method, page, some(0, 2), random.nextInt(4) == 0 ? name() : random.nextInt(40));
          break;
        case "merge": case "walk":
          call(method, page, page());
          break;
        case "uproot":
          if (random.nextInt(2) == 0) {
            call(method, page);
          }
          break;
        case "reload":
          if (random.nextInt(6) == 0) {
            call(method, new Object[0]);
          }
          break;
        case "write": case "shown": case "contents": case "talk":
          call(method, page);
          break;
        case "ofPage":
          call(method, page, some(0, 15));
          break;
        case "node":
          call(method, page, random.nextInt(20), some(0, 4));
          break;
        case "nodeText": case "writer":
          call(method, page, random.nextInt(16));
          break;
        case "versionOf":
          call(method, page, version(page), some(0, 2));
          break;
        case "link": case "remark": case "rank": case "sets":
          call(method, page, some(0, method.equals("sets") ? 3 : 4));
          break;
        case "near":
          call(method, page, random.nextBoolean());
          break;
        case "watch":
          call(method, user(), page, random.nextInt(3) > 0);
          break;
        case "kinds":
          call(method, some(0, 9), some(0, 9), some(0, 2));
          break;
        case "rub":
          call(method, random.nextInt(30) == 0 ? some(0, 300) : random.nextInt(25));
          break;
        case "type":
          call(method, some(0, 30));
          break;
        case "login": case "unseen":
          call(method, user());
          break;
        case "byName": case "find":
          call(method, some(0, 9));
          break;
        case "byPrefix":
          call(method, some(0, 3));
          break;
        case "all":
          call(method, some(0, 5));
          break;
        case "garden":
          call(method, some(0, 8));
          break;
        default:
          call(method, new Object[0]);
          break;
      }
    }

    private int user() {
      return random.nextInt(12) == 0 ? some(-1, 5) : random.nextInt(3);
    }

    /** Mostly from the one to the other, seldom beside that. */
    private int some(int from, int to) {
      if (random.nextInt(40) == 0) {
        return random.nextBoolean() ? from - 1 : to + 1;
      }
      return from + random.nextInt(to - from + 1);
    }

    private void call(String method, Object... args) throws Exception {
      if (count >= 512) {
        return;
      }
      count++;
      Object due = answer(ORACLE.get(method), oracle, args);
      Object got = answer(GARDEN.get(method), garden, args);
      told.append(method).append(Arrays.toString(args)).append(" -> ").append(due).append('\n');
      if (!due.equals(got)) {
        System.out.println("run " + seed + ", call " + count + ":\n" + told);
        System.out.println("answered " + got + ", due is " + due);
        System.exit(1);
      }
    }

    private static Object answer(Method method, Object on, Object[] args) throws Exception {
      try {
        return method.invoke(on, args);
      } catch (InvocationTargetException e) {
        return "throws." + e.getCause().getClass().getSimpleName();
      }
    }
  }
}

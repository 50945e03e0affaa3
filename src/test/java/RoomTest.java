import java.lang.management.ManagementFactory;

/**
 * All calls of a run live in one room: a call makes its answer, and a text that stays, and nothing
 * else. Counted in bytes, of which an element has four at most, and a text's sign one.
 */
public final class RoomTest {
  private static final int CALLS = 30;
  // What the machine itself may need now and then.
  private static final long SLACK = 300;
  private static final long MOST_ROWS = 100000;

  private static final com.sun.management.ThreadMXBean THREADS =
      (com.sun.management.ThreadMXBean) ManagementFactory.getThreadMXBean();

  public static void main(String[] args) {
    makesFewRows();
    answersNumbers();
    answersTexts();
    shows();
    changes();
    Check.end("RoomTest");
  }

  /** A number takes no room. */
  private static void answersNumbers() {
    String[] names = {"add", "rub", "take", "right", "ofPage", "node", "writer", "versionOf",
        "link", "sets", "byName", "near", "byPrefix", "find", "kinds", "all", "watch", "see",
        "unseen", "garden", "knock", "isSound", "digest"};
    Check.Asked[] calls = {
      g -> g.add(0, 0, -1) + g.rub(300), g -> g.rub(1), g -> g.take(1, 0), g -> g.right(1, 11),
      g -> g.ofPage(11, 11), g -> g.node(0, 1, 3), g -> g.writer(0, 1), g -> g.versionOf(0, 0, 2),
      g -> g.link(11, 0), g -> g.sets(11, 2), g -> g.byName(11), g -> g.near(11, true),
      g -> g.byPrefix(1), g -> g.find(9), g -> g.kinds(1, 2, 1), g -> g.all(5),
      g -> g.watch(1, 2, true), g -> g.see(2, 0), g -> g.unseen(1), g -> g.garden(8),
      g -> g.knock(), g -> g.isSound(), g -> g.digest()
    };
    for (int i = 0; i < calls.length; i++) {
      makes(names[i], 0, RoomTest::fill, calls[i]);
    }
  }

  private static void answersTexts() {
    String[] names = {"draft", "text", "nodeText", "contents", "section", "walk", "rank",
        "remark"};
    Check.Asked[] calls = {
      g -> g.draft(), g -> g.text(0, 0), g -> g.nodeText(0, 0), g -> g.contents(0),
      g -> g.section(0, 0), g -> g.walk(0, 11), g -> g.rank(11, 4), g -> g.remark(0, 0)
    };
    for (int i = 0; i < calls.length; i++) {
      makes(names[i], 400, RoomTest::fill, calls[i]);
    }
    makes("exported", Check.made(RoomTest::fill).exported().length(), RoomTest::fill,
        g -> g.exported());
  }

  /** What is shown takes room as it becomes another text. */
  private static void shows() {
    makes("shown, kept", 0, g -> {
      fill(g);
      g.shown(0);
    }, g -> g.shown(0));
    makes("shown, made anew, the same as before", 0, g -> {
      fill(g);
      for (int page = 0; page < 5; page++) {
        g.shown(page);
      }
    }, g -> g.shown(g.garden(4) % 5));
    makes("shown, another one", 1000, RoomTest::fillTwice, g -> {
      g.restore(0, g.ofPage(0, 3) - 1);
      return g.shown(0);
    });
  }

  /** A text that stays, and what the draft tells. */
  private static void changes() {
    makes("write", 800, RoomTest::fill, g -> g.take(1 + g.knock() % 2, 0) + g.write(0));
    makes("restore", 100, RoomTest::fillTwice, g -> g.restore(0, g.ofPage(0, 3) - 1));
    makes("talk", 400, RoomTest::fill, g -> g.ofPage(0, 15) < 6 ? g.talk(0) : 0);
    makes("reload", 12 * 100, RoomTest::fill, g -> g.reload());
  }

  private static void fillTwice(Pagegarden g) {
    fill(g);
    g.write(0);
  }

  /** Twelve pages of some 100 signs that name each other; one has a remark, and is watched. */
  private static void fill(Pagegarden g) {
    for (int i = 0; i < 12; i++) {
      g.add(9, (i + 1) % 12, 1);
      g.add(10, (i + 5) % 12, 2);
      g.add(2, 0, 1);
      for (int k = 0; k < 25; k++) {
        g.add(0, k % 10, -1);
      }
      g.plant(i);
    }
    g.watch(2, 0, true);
    g.add(0, 3, -1);
    g.talk(0);
  }

  private static long bytesOf(Check.Past calls, Pagegarden g) {
    long before = THREADS.getCurrentThreadAllocatedBytes();
    calls.of(g);
    return THREADS.getCurrentThreadAllocatedBytes() - before;
  }

  private static void makesFewRows() {
    new Pagegarden();
    long bytes = bytesOf(g -> new Pagegarden(), null);
    Check.due("rows of a garden in bytes: " + bytes, true, () -> 4 * MOST_ROWS >= bytes);
  }

  private static void makes(String what, long answer, Check.Past past, Check.Asked call) {
    // The first round is for the machine, which reads classes then.
    long bytes = 0;
    for (int round = 0; round < 2; round++) {
      Pagegarden garden = Check.made(past);
      bytes = bytesOf(g -> {
        for (int i = 0; i < CALLS; i++) {
          call.of(g);
        }
      }, garden) / CALLS;
    }
    long told = bytes;
    Check.due(what + " makes " + told + " bytes, due are " + answer, true,
        () -> told <= answer + SLACK);
  }
}

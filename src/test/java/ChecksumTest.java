import java.math.BigInteger;

/**
 * Promise 50: the checksum, made again of what the other methods answer, with numbers of any size;
 * of these the lowest 64 bits are due.
 */
public final class ChecksumTest {
  private static final BigInteger FACTOR = BigInteger.valueOf(31);
  private static boolean hasBeenNegative;
  private static boolean hasBeenPositive;

  // So many questions of one garden, and the rest of another one with the same past.
  private static final int MOST_ASKED = 100;

  private final Check.Past past;
  private Pagegarden asked;
  private int left;
  private BigInteger d = BigInteger.valueOf(5803);

  private ChecksumTest(Check.Past past) {
    this.past = past;
  }

  private Pagegarden g() {
    if (left == 0) {
      asked = Check.made(past);
      left = MOST_ASKED;
    }
    left--;
    return asked;
  }

  public static void main(String[] args) {
    is("nothing", g -> { });
    is("a draft", g -> Gardens.draft(g, "ab"));
    is("a full draft", g -> Gardens.draft(g, "j".repeat(300)));
    is("a knock", g -> g.knock());
    is("a user", g -> g.login(4));
    is("a right", g -> g.allow(4, 3, 0));
    is("what is refused", ChecksumTest::refusals);
    is("an empty page", g -> g.plant(39));
    is("a page of all signs", g -> Gardens.plant(g, 0, Gardens.SIGNS));
    is("a page of 400 signs", ChecksumTest::longPage);
    is("the most nodes", ChecksumTest::mostNodes);
    is("the most words", ChecksumTest::mostWords);
    is("a gap", ChecksumTest::gap);
    is("twelve pages", ChecksumTest::twelvePages);
    is("many versions", ChecksumTest::manyVersions);
    is("shown pages", ChecksumTest::shownPages);
    is("parts, notes and styles", ChecksumTest::parts);
    is("reloaded pages", g -> {
      twelvePages(g);
      g.reload();
    });
    wrapsAround();
    changesNothing();
    Check.due("some are negative", true, () -> hasBeenNegative);
    Check.due("some are positive", true, () -> hasBeenPositive);
    Check.end("ChecksumTest");
  }

  private static void refusals(Pagegarden g) {
    g.plant(0);
    g.see(0, 0);
    g.see(1, 0);
  }

  private static void longPage(Pagegarden g) {
    g.plant(5);
    Gardens.makeLong(g, 0, "=ab\n".repeat(50), "|(ba) #cad".repeat(19) + "[a/ab] '");
  }

  private static void mostNodes(Pagegarden g) {
    g.plant(0);
    Gardens.makeLong(g, 0, "\n".repeat(200), "\n".repeat(197) + "=");
  }

  private static void mostWords(Pagegarden g) {
    Gardens.plant(g, 0, "a ".repeat(99) + "a");
    Gardens.plant(g, 1, "b ".repeat(99) + "b");
    g.login(4);
    g.merge(0, 1);
  }

  private static void gap(Pagegarden g) {
    Gardens.plant(g, 9, "[ba]#ab");
    Gardens.plant(g, 1, "@jig");
    Gardens.plant(g, 0, "{jig|a}");
    g.uproot(1);
  }

  private static void twelvePages(Pagegarden g) {
    for (int i = 0; i < 12; i++) {
      g.login(i % 5);
      Gardens.plant(g, (7 * i + 3) % 40, "=ab\n[" + Gardens.name(7 * (i + 1) % 40) + "] @a{"
          + Gardens.name((7 * i + 17) % 40) + "|ba}\n" + "*".repeat(i % 5) + "cad");
      g.talk(i);
      g.allowPage(i % 5, i, 2);
    }
  }

  private static void manyVersions(Pagegarden g) {
    g.plant(0);
    for (int i = 0; i < 30; i++) {
      g.login(i % 5);
      g.add(0, i % 10, -1);
      g.add(9, i % 3, i % 10);
      g.write(0);
    }
    g.add(0, 1, -1);
  }

  private static void shownPages(Pagegarden g) {
    for (int i = 0; i < 6; i++) {
      Gardens.plant(g, i, "[ab|cad]{ba}" + i % 3);
    }
    for (int i = 0; i < 9; i++) {
      g.shown(i % 6);
      g.shown(i % 2);
    }
    Gardens.write(g, 1, "@cad");
  }

  private static void parts(Pagegarden g) {
    Gardens.plant(g, 0, "=a'b_\n*{ba|c|}(d)\n\n|e|`'`|\n{egg}".repeat(3));
    Gardens.plant(g, 1, "=({0}){0}'{1|f}{2|g}\n{cad|h}");
    Gardens.plant(g, 2, "@deaf\nab");
    Gardens.plant(g, 3, "{ab}[ab|]{jig}");
  }

  private static void is(String what, Check.Past past) {
    long due = new ChecksumTest(past).whole().longValue();
    hasBeenNegative |= due < 0;
    hasBeenPositive |= due > 0;
    Check.due("checksum with " + what, due, past, g -> g.digest());
  }

  /** The same, before it is cut to 64 bits. */
  private BigInteger whole() {
    for (int what = 0; what <= 8; what++) {
      add(g().garden(what));
    }
    for (int what = 0; what <= 5; what++) {
      add(g().all(what));
    }
    for (int nth = 0; nth < g().garden(0); nth++) {
      int page = g().byName(nth);
      addPage(page);
      // What is shown is kept and counted: of that garden nothing else is asked.
      addText(Check.made(past).shown(page));
    }
    add(g().isSound() ? 1 : 0);
    return d;
  }

  private void addPage(int page) {
    add(page);
    for (int what = 0; what <= 15; what++) {
      add(g().ofPage(page, what));
    }
    addText(g().text(page, g().ofPage(page, 3)));
    int nodes = g().ofPage(page, 7);
    for (int nth = 0; nth < nodes; nth++) {
      add(g().node(page, nth, 0));
    }
    for (int what = 0; what <= 3; what++) {
      add(g().sets(page, what));
    }
    int words = g().ofPage(page, 9);
    for (int nth = 0; nth < words; nth++) {
      add(g().writer(page, nth));
    }
  }

  private void addText(String text) {
    add(text.length());
    for (char sign : text.toCharArray()) {
      add(sign);
    }
  }

  private void add(long v) {
    d = d.multiply(FACTOR).add(BigInteger.valueOf(v));
  }

  /** 5803 * 31^16 is beyond 64 bits already. */
  private static void wrapsAround() {
    BigInteger whole = new ChecksumTest(g -> { }).whole();
    Check.due("it has more than 64 bits", true, () -> whole.bitLength() > 64);
    Check.due("it is that", BigInteger.valueOf(5803).multiply(FACTOR.pow(16)).add(BigInteger.ONE),
        () -> whole);
    Check.due("it wraps around", whole.longValue(), g -> { }, g -> g.digest());
  }

  private static void changesNothing() {
    Check.Past[] pasts = {g -> { }, ChecksumTest::shownPages, ChecksumTest::parts};
    for (Check.Past past : pasts) {
      Pagegarden g = Check.made(past);
      long first = g.digest();
      Check.due("the same again", first, g::digest);
      g.isSound();
      Check.due("the same when soundness was asked", first, g::digest);
      String all = Gardens.everything(Check.made(past));
      Check.due("nothing is changed by that", all, () -> Gardens.everything(g));
    }
    Pagegarden g = Check.made(ChecksumTest::shownPages);
    long first = g.digest();
    g.shown(0);
    Check.due("what is shown is counted", false, () -> g.digest() == first);
  }
}

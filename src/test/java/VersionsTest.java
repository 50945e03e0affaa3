import java.util.Random;

/** Promises 28 and 29, and the joins of 13 and 19: versions, who wrote which word, joining. */
public final class VersionsTest {
  public static void main(String[] args) {
    tellsWriters();
    comparesWords();
    countsNoWordTwice();
    keepsTwenty();
    tellsVersions();
    joins();
    joinsLikeTheOracle();
    wrongInputs();
    Check.end("VersionsTest");
  }

  private static void writers(Pagegarden g, int... due) {
    Check.due("words", due.length, () -> g.ofPage(0, 9));
    for (int i = 0; i < due.length; i++) {
      int nth = i;
      Check.due("writer " + i, due[i], () -> g.writer(0, nth));
    }
    Check.noArgument("one more word", g, () -> g.writer(0, due.length));
  }

  private static void tellsWriters() {
    Pagegarden g = new Pagegarden();
    g.login(1);
    Gardens.plant(g, 0, "ab [ba|cad] #deaf\nabba/cad");
    writers(g, 1, 1, 1, 1, 1, 1);
    g.login(2);
    Gardens.write(g, 0, "ab jig [ba|cad] #deaf\nabba/cad");
    writers(g, 1, 2, 1, 1, 1, 1, 1);
    g.login(3);
    Gardens.write(g, 0, "ab jig ba fig deaf abba cad");
    writers(g, 1, 2, 1, 3, 1, 1, 1);
    g.login(4);
    Gardens.write(g, 0, "ab jig abba cad");
    writers(g, 1, 2, 1, 1);
    Gardens.write(g, 0, "cad abba jig ab");
    writers(g, 4, 4, 4, 4);
    g.login(0);
    Gardens.write(g, 0, "cad abba' jig ab");
    Check.due("a new version without new words", 5, () -> g.ofPage(0, 3));
    writers(g, 4, 4, 4, 4);
    Gardens.write(g, 0, "");
    writers(g);
    Gardens.write(g, 0, "cad abba");
    writers(g, 0, 0);
    g.login(3);
    g.restore(0, 0);
    Check.due("restored words are the restorer's", 3, () -> g.writer(0, 0));
  }

  /** A word is the same if all its letters are. */
  private static void comparesWords() {
    String[] others = {"ab", "bbc", "acc", "aba", "abcd", "bc", "c", "babc", "a b c"};
    for (String other : others) {
      for (String text : new String[] {"d abc d", "abc", "abc d", "d abc"}) {
        Check.due("abc and " + other + " in " + text, 1, g -> {
          Gardens.plant(g, 0, text);
          g.login(1);
          Gardens.write(g, 0, text.replace("abc", other));
        }, g -> g.writer(0, text.startsWith("d") ? 1 : 0));
      }
    }
    Check.due("the same words in other lines and marks", "000", g -> {
      Gardens.plant(g, 0, "abc d abc");
      g.login(1);
      Gardens.write(g, 0, "=abc\n[d]\n(abc)");
    }, g -> "" + g.writer(0, 0) + g.writer(0, 1) + g.writer(0, 2));
  }

  private static void countsNoWordTwice() {
    Pagegarden g = new Pagegarden();
    g.login(1);
    Gardens.plant(g, 0, "ab");
    g.login(2);
    Gardens.write(g, 0, "ab ab");
    writers(g, 1, 2);
    g.login(3);
    Gardens.write(g, 0, "ab ab ab ba");
    writers(g, 1, 2, 3, 3);
    g.login(4);
    Gardens.write(g, 0, "ab ba ab ba");
    writers(g, 1, 4, 3, 3);
    Gardens.write(g, 0, "ab ba");
    writers(g, 1, 4);
    g.login(0);
    Gardens.write(g, 0, "ba ab ba");
    writers(g, 0, 1, 4);
  }

  private static void keepsTwenty() {
    Pagegarden g = new Pagegarden();
    g.plant(0);
    for (int i = 1; i <= 19; i++) {
      Gardens.write(g, 0, "[" + Gardens.name(i) + "]");
    }
    Check.due("twenty are kept", 0, () -> g.ofPage(0, 4));
    Check.due("versions", 20, () -> g.garden(7));
    Check.due("the first one", "", () -> g.text(0, 0));
    Gardens.write(g, 0, "b");
    Check.due("the newest", 20, () -> g.ofPage(0, 3));
    Check.due("the oldest", 1, () -> g.ofPage(0, 4));
    Check.due("versions", 20, () -> g.garden(7));
    Check.noArgument("the first one is gone", g, () -> g.text(0, 0));
    Check.noArgument("it has no user", g, () -> g.versionOf(0, 0, 0));
    Check.noArgument("it can't be taken", g, () -> g.take(0, 0));
    Check.noArgument("it can't be restored", g, () -> g.restore(0, 0));
    Check.noArgument("nothing is written over it", g, () -> g.writeOver(0, 0));
    Check.due("the second one", "[ba]", () -> g.text(0, 1));
    for (int i = 1; i <= 25; i++) {
      Gardens.write(g, 0, "{" + Gardens.name(i) + "}");
    }
    for (int i = 26; i <= 45; i++) {
      int version = i;
      Check.due("version " + i, "{" + Gardens.name(i - 20) + "}", () -> g.text(0, version));
    }
    Gardens.plant(g, 1, "");
    Check.due("versions of both", 21, () -> g.garden(7));
    Check.due("sound", true, g::isSound);
  }

  private static void tellsVersions() {
    Pagegarden g = new Pagegarden();
    g.login(2);
    Gardens.plant(g, 0, "ab\nba");
    g.login(4);
    Gardens.write(g, 0, "");
    int[][] due = {{2, 5, 2}, {4, 0, 1}};
    for (int version = 0; version < 2; version++) {
      for (int what = 0; what < 3; what++) {
        int v = version;
        int asked = what;
        Check.due("versionOf " + v + " " + asked, due[v][asked], () -> g.versionOf(0, v, asked));
      }
    }
  }

  /** What is joined of X and Y over Z, or REFUSED. */
  private static Object joined(String x, String y, String z) {
    Pagegarden g = new Pagegarden();
    Gardens.plant(g, 0, z);
    Gardens.write(g, 0, y);
    Gardens.draft(g, x);
    return g.writeOver(0, 0) == -9 ? "quarrel" : Gardens.text(g, 0);
  }

  private static void join(String x, String y, String z, String due) {
    Check.due("join of " + x + " and " + y + " over " + z, due, () -> joined(x, y, z));
    Check.due("join of " + y + " and " + x + " over " + z, due, () -> joined(y, x, z));
  }

  private static void joins() {
    join("a\nb\nc", "a\nb\nc", "a\nb\nc", "a\nb\nc");
    join("a\nb\nd", "a\nb\nc", "a\nb\nc", "a\nb\nd");
    join("a\nb\nd", "a\nb\nd", "a\nb\nc", "a\nb\nd");
    join("d\nb\nc", "a\nb\ne", "a\nb\nc", "d\nb\ne");
    // Pieces that touch: neither without lines.
    join("d\nb\nc", "a\ne\nc", "a\nb\nc", "d\ne\nc");
    join("d\nc", "a\nb\ne", "a\nb\nc", "d\ne");
    join("b\nc", "a\nc", "a\nb\nc", "c");
    join("b\nc", "a\nb\nd", "a\nb\nc", "b\nd");
    // A line put in where the other piece begins or ends quarrels.
    join("a\nd\nb\nc", "e\nb\nc", "a\nb\nc", "quarrel");
    join("a\nd\nb\nc", "a\ne\nc", "a\nb\nc", "quarrel");
    join("a\nd\nb\nc", "a\nb\ne", "a\nb\nc", "a\nd\nb\ne");
    join("a\nd\nb\nc", "a\ne\nb\nc", "a\nb\nc", "quarrel");
    join("d\na\nb\nc", "a\nb\nc\ne", "a\nb\nc", "d\na\nb\nc\ne");
    join("d\na\nb\nc", "a\nb\ne", "a\nb\nc", "d\na\nb\ne");
    // All goes.
    join("b", "a", "a\nb", "");
    join("b", "a\nc", "a\nb", "c");
    join("", "a\nb\nc\nd", "a\nb\nc", "quarrel");
    join("d", "e", "a", "quarrel");
    // Lines that come again are counted once.
    join("a\na\na", "a\nb", "a\na", "quarrel");
    join("a\na\na\nb", "a\na\nc", "a\na\nb", "quarrel");
    join("c\na\na\nb", "a\na\nb\nb", "a\na\nb", "c\na\na\nb\nb");
    join("a", "a\na\na", "a\na", "quarrel");
    join("\nb", "a\n", "a\nb", "\n");
  }

  private static void joinsLikeTheOracle() {
    Random random = new Random(7);
    for (int i = 0; i < 4000; i++) {
      String z = lines(random, 6);
      String x = edited(random, z);
      String y = edited(random, z);
      String due = Oracle.join(x, y, z);
      String what = "join of " + x + " and " + y + " over " + z;
      Check.due(what, due == null ? "quarrel" : due, () -> joined(x, y, z));
      if (random.nextInt(8) == 0) {
        Check.due(what + ", undone", due == null ? "quarrel" : due, () -> undone(x, y, z));
      }
    }
  }

  private static Object undone(String x, String y, String z) {
    Pagegarden g = new Pagegarden();
    Gardens.plant(g, 0, x);
    Gardens.write(g, 0, z);
    int version = g.ofPage(0, 3);
    Gardens.write(g, 0, y);
    if (version == 0) {
      // X is Z: there is no version to be undone, and the join is Y.
      return y;
    }
    return g.undoEdit(0, version) == -9 ? "quarrel" : Gardens.text(g, 0);
  }

  private static String lines(Random random, int most) {
    StringBuilder text = new StringBuilder();
    for (int i = random.nextInt(most); i >= 0; i--) {
      text.append(new String[] {"a", "b", "c", ""}[random.nextInt(4)]);
      text.append(i > 0 ? "\n" : "");
    }
    return text.toString();
  }

  /** Other lines in place of some. */
  private static String edited(Random random, String text) {
    String[] lines = text.split("\n", -1);
    int from = random.nextInt(lines.length + 1);
    int to = Math.min(lines.length, from + random.nextInt(3));
    StringBuilder told = new StringBuilder();
    for (int i = 0; i < from; i++) {
      told.append(lines[i]).append("\n");
    }
    if (random.nextInt(3) > 0) {
      told.append(lines(random, 2)).append("\n");
    }
    for (int i = to; i < lines.length; i++) {
      told.append(lines[i]).append("\n");
    }
    return told.length() > 0 ? told.substring(0, told.length() - 1) : "";
  }

  private static void wrongInputs() {
    Pagegarden g = new Pagegarden();
    Gardens.plant(g, 0, "ab ba");
    Check.noIndex("writer of no page", g, () -> g.writer(1, 9));
    Check.noIndex("writer of page -1", g, () -> g.writer(-1, 0));
    Check.noArgument("writer of word 2", g, () -> g.writer(0, 2));
    Check.noArgument("writer of word -1", g, () -> g.writer(0, -1));
    Check.noIndex("versionOf no page", g, () -> g.versionOf(1, 9, 9));
    Check.noArgument("versionOf no version", g, () -> g.versionOf(0, 1, 0));
    Check.noArgument("versionOf version -1", g, () -> g.versionOf(0, -1, 0));
    Check.noArgument("versionOf what 3", g, () -> g.versionOf(0, 0, 3));
    Check.noArgument("versionOf what -1", g, () -> g.versionOf(0, 0, -1));
  }
}

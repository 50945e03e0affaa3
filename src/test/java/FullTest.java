import java.math.BigInteger;

/** What is full: as much as there can be of each thing, and one more of it. */
public final class FullTest {
  public static void main(String[] args) {
    draftOf300();
    takesUpTo300();
    textOf400();
    mostLinesNodesAndWords();
    mostMarks();
    deepestNodes();
    joinsOfManyLines();
    twelvePages();
    twelvePagesByName();
    walksThroughTwelve();
    twelveRedirects();
    ranksOfTwelve();
    sixRemarks();
    twentyVersions();
    whatMakesAVersion();
    allRights();
    fourKeptPages();
    aKeptPageIsShownAgain();
    placesOfKeptPagesGetFree();
    twelveParts();
    whatIsNoPartPutIn();
    partsInPartsInParts();
    longArguments();
    allCalls();
    Check.end("FullTest");
  }

  private static void draftOf300() {
    Check.Past full = g -> Gardens.draft(g, "ab ".repeat(100));
    Check.due("the 300th sign", 300, g -> Gardens.draft(g, "a".repeat(299)), g -> g.type(0));
    Check.noState("the 301st sign", full, g -> g.type(0));
    Check.noArgument("no sign goes ahead", full, g -> g.type(31));
    Check.refused("one more sign", full, g -> g.add(6, 0, -1));
    Check.due("rub all", 0, full, g -> g.rub(300));
    Check.due("rub all but one", 1, full, g -> g.rub(299));
    Check.due("what is left", "a", full, g -> {
      g.rub(299);
      return g.draft();
    });
    Check.due("type again", 300, full, g -> {
      g.rub(1);
      return g.type(5);
    });
    Check.due("plant it", "ab ".repeat(100), full, g -> g.text(g.plant(0), 0));
    Check.due("write it", "ab ".repeat(100), g -> {
      g.plant(0);
      full.of(g);
    }, g -> g.text(0, g.write(0)));
    Check.due("say it", "0:" + "ab ".repeat(100), g -> {
      g.plant(0);
      full.of(g);
    }, g -> g.remark(0, g.talk(0) - 1));
  }

  /** A page of so many signs, and a draft. */
  private static void longPage(Pagegarden g, int signs) {
    g.plant(0);
    Gardens.makeLong(g, 0, Gardens.words(signs - 200), Gardens.words(198));
    Gardens.draft(g, "jig");
  }

  private static void takesUpTo300() {
    Check.due("take 300 signs", 300, g -> longPage(g, 300), g -> g.take(0, 2));
    Check.noState("take 301 signs", g -> longPage(g, 301), g -> g.take(0, 2));
    Check.noState("take 400 signs", g -> longPage(g, 400), g -> g.take(0, 2));
    Check.due("take another version", 199, g -> longPage(g, 400), g -> g.take(0, 1));
    Check.noArgument("no version goes ahead", g -> longPage(g, 400), g -> g.take(0, 3));
    Check.noIndex("no page goes ahead", g -> longPage(g, 400), g -> g.take(1, 2));
  }

  private static void textOf400() {
    Pagegarden g = new Pagegarden();
    longPage(g, 400);
    String ahead = Gardens.words(200);
    String behind = Gardens.words(198);
    String due = ahead + "\n=" + behind;
    Check.due("text", due, () -> g.text(0, 2));
    Check.due("signs", 400, () -> g.ofPage(0, 1));
    Check.due("signs of the version", 400, () -> g.versionOf(0, 2, 1));
    Check.due("the page, written", due, () -> g.nodeText(0, 0));
    Check.due("shown", ahead + "\n1 " + behind + "\n", () -> g.shown(0));
    Check.due("contents", "1 " + behind + "\n", () -> g.contents(0));
    Check.due("section 1", "=" + behind, () -> g.section(0, 1));
    Check.due("exported", "%ab 2\n" + due + "\n", g::exported);
    Check.due("sound", true, g::isSound);
    Check.due("reload", 1, g::reload);
    Check.due("text then", due, () -> g.text(0, 0));
    Check.due("a section goes", 1, () -> g.split(0, 1, 1));
    Check.due("where it went", "=" + behind, () -> g.text(1, 0));
    Check.due("write less", 2, () -> g.write(0));
    Check.due("restore 400 signs", 3, () -> g.restore(0, 0));
    Check.due("undo that", 4, () -> g.undoEdit(0, 3));
    Check.due("text then", "jig", () -> g.text(0, 4));
  }

  private static void mostLinesNodesAndWords() {
    Pagegarden g = new Pagegarden();
    Gardens.plant(g, 0, "\n".repeat(200));
    Gardens.plant(g, 1, "\n".repeat(199));
    g.merge(0, 1);
    Check.due("400 line ends", 400, () -> g.ofPage(0, 1));
    Check.due("lines", 401, () -> g.ofPage(0, 2));
    Check.due("nodes", 402, () -> g.ofPage(0, 7));
    Check.due("lines of the version", 401, () -> g.versionOf(0, 1, 2));
    Check.due("the last node", 7, () -> g.node(0, 401, 0));
    Check.due("where it is", 400, () -> g.node(0, 401, 4));
    Check.due("how many are in the page", 401, () -> g.node(0, 0, 2));
    Check.noIndex("one more", g, () -> g.node(0, 402, 0));
    Check.due("shown", "\n".repeat(401), () -> g.shown(0));
    Check.due("section", "\n".repeat(400), () -> g.section(0, 0));
    Check.due("exported", "%ab 401\n" + "\n".repeat(401) + "%ba 1\n@ab\n", g::exported);
    Check.due("sound", true, g::isSound);
    Pagegarden most = new Pagegarden();
    Gardens.plant(most, 0, "a ".repeat(99) + "a");
    Gardens.plant(most, 1, "b ".repeat(99) + "b");
    most.login(3);
    most.merge(0, 1);
    Check.due("200 words", 200, () -> most.ofPage(0, 9));
    Check.due("the last word that stayed", 0, () -> most.writer(0, 99));
    Check.due("the first word that came", 3, () -> most.writer(0, 100));
    Check.due("the last word", 3, () -> most.writer(0, 199));
    Check.noArgument("one more word", most, () -> most.writer(0, 200));
    Check.due("sound", true, most::isSound);
  }

  private static void mostMarks() {
    Pagegarden heads = filled("=\n".repeat(99) + "=", "\n=".repeat(99) + "=");
    Check.due("heads", 200, () -> heads.ofPage(0, 8));
    Check.due("the last path", true, () -> heads.contents(0).endsWith("\n199 \n199.1 \n"));
    Check.due("the last section", "==", () -> heads.section(0, 200));
    Check.noArgument("one more section", heads, () -> heads.section(0, 201));
    Pagegarden notes = filled("()".repeat(100), "()".repeat(99));
    Check.due("the last note", true, () -> notes.shown(0).endsWith("\n^198: \n^199: \n"));
    Pagegarden links = filled("[a]".repeat(66) + "aa", "[a]".repeat(66));
    Check.due("links", 132, () -> links.ofPage(0, 5));
    Check.due("the last link", -1, () -> links.link(0, 131));
    Check.noArgument("one more link", links, () -> links.link(0, 132));
    Pagegarden parts = filled("{a}".repeat(66) + "aa", "{a}".repeat(66));
    Check.due("parts", 132, () -> parts.ofPage(0, 6));
    Check.due("all lead to nobody", "?".repeat(66) + "aa\n1 " + "?".repeat(66) + "\n",
        () -> parts.shown(0));
    Pagegarden cells = filled("|".repeat(200), "a".repeat(198));
    Check.due("cells", 200, () -> cells.node(0, 1, 2));
    Check.due("shown cells", " | ".repeat(199) + "\n1 " + "a".repeat(198) + "\n",
        () -> cells.shown(0));
    Pagegarden styles = filled("'_".repeat(100), "_'".repeat(99));
    Check.due("nodes", 402, () -> styles.ofPage(0, 7));
    Check.due("styles",
        "<1><3><2><0>".repeat(50) + "\n1 " + "<2><3><1><0>".repeat(49) + "<2><3><0>\n",
        () -> styles.shown(0));
  }

  /** A page of 400 signs, in two drafts. */
  private static Pagegarden filled(String ahead, String behind) {
    Pagegarden g = new Pagegarden();
    g.plant(0);
    Gardens.makeLong(g, 0, ahead, behind);
    Check.due("400 signs", 400, () -> g.ofPage(0, 1));
    Check.due("sound", true, g::isSound);
    return g;
  }

  private static void deepestNodes() {
    Pagegarden g = new Pagegarden();
    Gardens.plant(g, 0, "=a\n==a\n===a\n*a\n**a\n***a\n|a");
    // Page, three sections with a head each, three items, and a row with a cell.
    int[] due = {0, 1, 2, 3, 2, 3, 4, 3, 4, 5, 4, 5, 5, 6, 6, 7, 4, 5, 6};
    Check.due("nodes", due.length, () -> g.ofPage(0, 7));
    for (int i = 0; i < due.length; i++) {
      int nth = i;
      Check.due("in how many nodes " + i + " is", due[i], () -> g.node(0, nth, 1));
    }
    // One sign more than the deepest is neither.
    Check.due("four are plain", "0(8(10<====a>) 8(10<****a>))",
        past -> Gardens.plant(past, 0, "====a\n****a"), past -> Gardens.tree(past, 0));
    Check.due("a deep head alone", "0.0.1 a\n", past -> Gardens.plant(past, 0, "===a"),
        past -> past.contents(0));
  }

  /** X and Y over Z, each of 399 lines or so: the first one is X's, the last one Y's. */
  private static void joinsOfManyLines() {
    Pagegarden g = new Pagegarden();
    String lines = "\n".repeat(198);
    Gardens.plant(g, 0, "a");
    Gardens.plant(g, 1, lines);
    putBehind(g, "");
    putBehind(g, "");
    Gardens.write(g, 0, "d");
    putBehind(g, "");
    putBehind(g, "");
    Gardens.write(g, 0, "d");
    putBehind(g, "");
    putBehind(g, "c");
    Check.due("X again", 9, () -> g.restore(0, 2));
    Check.due("Z again", 10, () -> g.restore(0, 5));
    Check.due("Y again", 11, () -> g.restore(0, 8));
    Check.due("its lines", 399, () -> g.ofPage(0, 2));
    Check.due("undo Z", 12, () -> g.undoEdit(0, 10));
    Check.due("joined", "a\n" + lines + "\n" + lines + "c", () -> g.text(0, 12));
    Check.due("its signs", 400, () -> g.ofPage(0, 1));
  }

  /** What page 1 is, and something more, comes behind page 0. */
  private static void putBehind(Pagegarden g, String more) {
    g.take(1, 0);
    for (char sign : more.toCharArray()) {
      g.type(Gardens.SIGNS.indexOf(sign));
    }
    int page = g.plant(9);
    g.merge(0, page);
    g.uproot(page);
  }

  /** Pages 0 to 11 with the names 0 to 11. */
  private static void plantTwelve(Pagegarden g) {
    for (int i = 0; i < 12; i++) {
      Gardens.plant(g, i, i == 0 ? "ab\n=ba" : "");
    }
    Gardens.draft(g, "jig");
  }

  private static void twelvePages() {
    Pagegarden g = new Pagegarden();
    for (int i = 0; i < 12; i++) {
      int number = i;
      Check.due("page " + i, i, () -> g.plant(number));
      Check.due("pages", i + 1, () -> g.garden(0));
    }
    Check.due("all", 4095, () -> g.all(0));
    Check.due("by the prefix of all", 4095, () -> g.byPrefix(0));
    Check.noState("plant a thirteenth", FullTest::plantTwelve, past -> past.plant(12));
    Check.noState("split to a thirteenth", FullTest::plantTwelve, past -> past.split(0, 1, 12));
    Check.noIndex("page 12", FullTest::plantTwelve, past -> past.write(12));
    for (int i = 0; i < 12; i++) {
      int gone = i;
      Check.Past less = past -> {
        plantTwelve(past);
        past.uproot(gone);
      };
      Check.due("pages without " + i, 11, less, past -> past.garden(0));
      Check.due("plant in place of " + i, i, less, past -> past.plant(12));
      if (i > 0) {
        Check.due("split in place of " + i, i, less, past -> past.split(0, 1, 12));
      }
    }
    Check.due("the smallest of those that are free", 4, past -> {
      plantTwelve(past);
      past.uproot(9);
      past.uproot(4);
      past.uproot(7);
    }, past -> past.plant(12));
  }

  private static void twelvePagesByName() {
    Pagegarden g = new Pagegarden();
    // From the greatest name to the least one: page 11 has the least one.
    int[] names = {9, 1, 29, 20, 0, 19, 12, 11, 39, 31, 30, 10};
    for (int name : names) {
      g.plant(name);
    }
    for (int i = 0; i < 12; i++) {
      int nth = i;
      Check.due("byName(" + i + ")", 11 - i, () -> g.byName(nth));
      Check.due("ahead of " + (11 - i), i == 0 ? -1 : 12 - i, () -> g.near(11 - nth, true));
      Check.due("behind " + (11 - i), i == 11 ? -1 : 10 - i, () -> g.near(11 - nth, false));
    }
    Check.due("byName(12)", -1, () -> g.byName(12));
    Check.due("byName of the greatest number", -1, () -> g.byName(Integer.MAX_VALUE));
    Check.due("exported", true, () -> g.exported().startsWith("%a/ab 1\n\n%a/b/ab 1\n\n"));
    Check.due("reload", 12, g::reload);
    for (int i = 0; i < 12; i++) {
      int page = i;
      Check.due("name of page " + i, names[11 - i], () -> g.ofPage(page, 0));
    }
    Check.noState("plant when reloaded", g, () -> g.plant(5));
  }

  private static void walksThroughTwelve() {
    Pagegarden g = new Pagegarden();
    for (int i = 0; i < 12; i++) {
      Gardens.plant(g, i, "[" + Gardens.name((i + 1) % 12) + "]");
    }
    Check.due("to the last one", "ab>ba>cad>deaf>egg>fig>gab>hid>ice>jig>a/ab>a/ba",
        () -> g.walk(0, 11));
    Check.due("to the one ahead", "cad>deaf>egg>fig>gab>hid>ice>jig>a/ab>a/ba>ab>ba",
        () -> g.walk(2, 1));
    Check.due("round to the first one", "a/ba>ab", () -> g.walk(11, 0));
    Check.due("island", 4095, () -> g.sets(5, 2));
    Check.due("closed", 4095, () -> g.sets(5, 3));
    Check.due("here", 16, () -> g.sets(5, 1));
    Check.due("orphans", 0, () -> g.all(1));
    Check.due("dead ends", 0, () -> g.all(2));
    Gardens.write(g, 11, "");
    Check.due("none back", "", () -> g.walk(1, 0));
    Check.due("island", 4095, () -> g.sets(11, 2));
    Check.due("closed", 2048, () -> g.sets(11, 3));
    Check.due("closed of the first one", 4095, () -> g.sets(0, 3));
  }

  private static void twelveRedirects() {
    Pagegarden g = new Pagegarden();
    for (int i = 0; i < 12; i++) {
      Gardens.plant(g, i, i < 11 ? "@" + Gardens.name(i + 1) : "[ab]");
    }
    for (int i = 0; i < 11; i++) {
      int page = i;
      Check.due("through all redirects from " + i, 11, () -> g.ofPage(page, 10));
    }
    Check.due("and by a link to itself", 11, () -> g.link(11, 0));
    Check.due("which is none", 1, () -> g.ofPage(11, 13));
    Check.due("here", 2047, () -> g.sets(11, 1));
    Check.due("redirects", 2047, () -> g.all(3));
    Gardens.write(g, 11, "@ab");
    for (int i = 0; i < 12; i++) {
      int page = i;
      Check.due("a ring of twelve", -1, () -> g.ofPage(page, 10));
    }
    Check.due("redirects to nobody", 4095, () -> g.all(4));
    Gardens.write(g, 11, "@a/ba");
    Check.due("a ring at the end", 4095, () -> g.all(4));
    Check.due("dead ends", 4095, () -> g.all(2));
    Check.due("sound", true, g::isSound);
  }

  private static void ranksOfTwelve() {
    Pagegarden g = new Pagegarden();
    StringBuilder text = new StringBuilder();
    // Page k leads to the k pages ahead of it: all divisors from 1 to 12 are in use.
    for (int i = 0; i < 12; i++) {
      Gardens.plant(g, i, text.toString());
      text.append('[').append(Gardens.name(i)).append(']');
    }
    for (int steps = 0; steps <= 4; steps++) {
      BigInteger above = BigInteger.ZERO;
      BigInteger below = BigInteger.ONE;
      for (int page = 0; page < 12; page++) {
        String[] rank = g.rank(page, steps).split("/");
        BigInteger a = new BigInteger(rank[0]);
        BigInteger b = new BigInteger(rank[1]);
        Check.due("least terms of " + page, BigInteger.ONE, () -> a.gcd(b));
        above = above.multiply(b).add(a.multiply(below));
        below = below.multiply(b);
      }
      BigInteger all = above;
      Check.due("all ranks are together 1", below, () -> all);
    }
    Check.due("rank 0", "1/12", () -> g.rank(7, 0));
    Check.due("of the last page only the dead end gives", "1/144", () -> g.rank(11, 1));
    Check.due("all give to the first page",
        sum("1/144", "1/12", "1/24", "1/36", "1/48", "1/60", "1/72", "1/84", "1/96", "1/108",
            "1/120", "1/132"), () -> g.rank(0, 1));
  }

  private static String sum(String... shares) {
    BigInteger above = BigInteger.ZERO;
    BigInteger below = BigInteger.ONE;
    for (String share : shares) {
      BigInteger a = new BigInteger(share.split("/")[0]);
      BigInteger b = new BigInteger(share.split("/")[1]);
      above = above.multiply(b).add(a.multiply(below));
      below = below.multiply(b);
    }
    BigInteger common = above.gcd(below);
    return above.divide(common) + "/" + below.divide(common);
  }

  /** A page with so many remarks, and a draft. */
  private static void remarks(Pagegarden g, int many) {
    g.plant(0);
    for (int i = 0; i < many; i++) {
      g.login(i % 5);
      Gardens.draft(g, "a".repeat(i));
      g.talk(0);
    }
    Gardens.draft(g, "jig");
  }

  private static void sixRemarks() {
    Check.due("the sixth", 6, g -> remarks(g, 5), g -> g.talk(0));
    Check.due("what was said", "4:jig", g -> remarks(g, 5), g -> g.remark(0, g.talk(0) - 1));
    Check.noState("the seventh", g -> remarks(g, 6), g -> g.talk(0));
    Check.noIndex("no page goes ahead", g -> remarks(g, 6), g -> g.talk(1));
    Check.due("the last one", "0:aaaaa", g -> remarks(g, 6), g -> g.remark(0, 5));
    Check.noArgument("one more", g -> remarks(g, 6), g -> g.remark(0, 6));
    Check.due("of another page it is the first", 1, g -> {
      remarks(g, 6);
      g.plant(1);
    }, g -> g.talk(1));
    Check.due("of a new page it is the first", 1, g -> {
      remarks(g, 6);
      g.uproot(0);
      g.plant(0);
    }, g -> g.talk(0));
    Check.due("when reloaded it is the first", 1, g -> {
      remarks(g, 6);
      g.reload();
    }, g -> g.talk(0));
  }

  /** The text of a version: another one than those of the 39 versions next to it. */
  private static String versionText(int version) {
    return version == 0 ? "" : "[" + Gardens.name(version % 40) + "]";
  }

  /** A page with so many versions, version k by k % 5; and a draft. */
  private static void versions(Pagegarden g, int many) {
    for (int i = 0; i < many; i++) {
      g.login(i % 5);
      Gardens.draft(g, versionText(i));
      if (i == 0) {
        g.plant(0);
      } else {
        g.write(0);
      }
    }
    Gardens.draft(g, "jig");
  }

  private static void twentyVersions() {
    int[] numbers = {1, 2, 19, 20, 21, 39, 40, 41, 65};
    for (int many : numbers) {
      Check.Past past = g -> versions(g, many);
      int oldest = Math.max(0, many - 20);
      String what = " of " + many + " versions";
      Check.due("the newest" + what, many - 1, past, g -> g.ofPage(0, 3));
      Check.due("the oldest" + what, oldest, past, g -> g.ofPage(0, 4));
      Check.due("how many are kept" + what, many - oldest, past, g -> g.garden(7));
      Pagegarden g = Check.made(past);
      for (int i = oldest; i < many; i++) {
        int version = i;
        String due = versionText(i);
        Check.due("text " + i + what, due, () -> g.text(0, version));
        Check.due("user " + i + what, i % 5, () -> g.versionOf(0, version, 0));
        Check.due("signs " + i + what, due.length(), () -> g.versionOf(0, version, 1));
      }
      Check.due("sound" + what, true, g::isSound);
      edges(what, past, oldest, many - 1);
    }
  }

  private static void edges(String what, Check.Past past, int oldest, int newest) {
    int[] gone = {oldest - 1, newest + 1};
    for (int version : gone) {
      Check.noArgument("text" + what, past, g -> g.text(0, version));
      Check.noArgument("take" + what, past, g -> g.take(0, version));
      Check.noArgument("writeOver" + what, past, g -> g.writeOver(0, version));
      Check.noArgument("restore" + what, past, g -> g.restore(0, version));
      Check.noArgument("versionOf" + what, past, g -> g.versionOf(0, version, 0));
      Check.noArgument("undoEdit" + what, past, g -> g.undoEdit(0, version));
    }
    Check.noArgument("undoEdit the oldest" + what, past, g -> g.undoEdit(0, oldest));
    Check.due("take the oldest" + what, versionText(oldest).length(), past, g -> g.take(0, oldest));
    Check.due("restore the oldest" + what, oldest < newest ? newest + 1 : newest, past,
        g -> g.restore(0, oldest));
    if (oldest < newest) {
      Check.due("undo the newest" + what, newest + 1, past, g -> g.undoEdit(0, newest));
      Check.due("the second one can be asked to be undone" + what, newest - oldest == 1
          ? newest + 1 : -9, past, g -> g.undoEdit(0, oldest + 1));
    }
  }

  /** Whatever makes a version takes the place of the oldest one. */
  private static void whatMakesAVersion() {
    Check.Past past = g -> {
      versions(g, 20);
      g.plant(1);
      Gardens.plant(g, 2, "");
      Gardens.draft(g, "[ba]");
    };
    makesAVersion("write", past, g -> g.write(0));
    makesAVersion("writeOver", past, g -> g.writeOver(0, 19));
    makesAVersion("writeSection", past, g -> g.writeSection(0, 0));
    makesAVersion("split", past, g -> g.split(0, 0, 5));
    makesAVersion("merge", past, g -> g.merge(0, 1));
    makesAVersion("merge into another one", past, g -> g.merge(1, 0));
    makesAVersion("undoEdit", past, g -> g.undoEdit(0, 19));
    makesAVersion("restore", past, g -> g.restore(0, 0));
    Check.Past linked = g -> {
      versions(g, 19);
      g.plant(1);
      Gardens.draft(g, "[ba]");
      g.write(0);
    };
    makesAVersion("rename of what it links", linked, g -> g.rename(1, 5));
    String[] same = {"restore the newest", "write the same"};
    for (String what : same) {
      Check.due(what + " makes none", 0, past, g -> {
        Gardens.draft(g, versionText(19));
        int version = what.startsWith("restore") ? g.restore(0, 19) : g.write(0);
        return version == 19 ? g.ofPage(0, 4) : -2;
      });
    }
  }

  private static void makesAVersion(String what, Check.Past past, Check.Asked call) {
    Check.due(what + " makes version 20, and version 0 goes", "20 1", past, g -> {
      call.of(g);
      return g.ofPage(0, 3) + " " + g.ofPage(0, 4);
    });
  }

  private static void allRights() {
    Pagegarden g = new Pagegarden();
    plantTwelve(g);
    int told = 0;
    for (int user = 0; user < 5; user++) {
      for (int prefix = 0; prefix < 4; prefix++) {
        g.allow(user, prefix, (user + prefix) % 3);
        told++;
      }
      for (int page = 0; page < 12; page++) {
        g.allowPage(user, page, (user + page) % 3);
        told++;
      }
      int due = told;
      Check.due("rights are told", due, () -> g.garden(8));
    }
    Check.due("all pairs", 80, () -> g.garden(8));
    for (int user = 0; user < 5; user++) {
      int u = user;
      for (int prefix = 0; prefix < 4; prefix++) {
        int p = prefix;
        Check.due("told for the prefix", (u + p) % 3, () -> g.allow(u, p, (u + p) % 3));
      }
      for (int page = 0; page < 12; page++) {
        int p = page;
        Check.due("told for the page", (u + p) % 3, () -> g.allowPage(u, p, (u + p) % 3));
        Check.due("the right", (u + p) % 3, () -> g.right(u, p));
      }
    }
    g.allow(4, 3, 0);
    g.allowPage(4, 11, 1);
    Check.due("told again they are the same", 80, () -> g.garden(8));
    g.allow(4, 3, -1);
    g.allowPage(4, 11, -1);
    Check.due("two less", 78, () -> g.garden(8));
    g.uproot(2);
    Check.due("a page's go with it", 73, () -> g.garden(8));
    g.reload();
    Check.due("all pages' go", 19, () -> g.garden(8));
  }

  private static void shownSoFar(Pagegarden g, int... pages) {
    for (int i = 0; i < 6; i++) {
      Gardens.plant(g, i, "a");
    }
    for (int page : pages) {
      g.shown(page);
    }
  }

  private static void keeps(String what, int due, int... pages) {
    Check.due(what, due, g -> shownSoFar(g, pages), g -> g.all(5));
  }

  private static void fourKeptPages() {
    keeps("none", 0);
    keeps("one", 8, 3);
    keeps("four", 15, 0, 1, 2, 3);
    keeps("the fifth takes the place of the first one", 30, 0, 1, 2, 3, 4);
    keeps("the sixth that of the second one", 60, 0, 1, 2, 3, 4, 5);
    keeps("one that went comes again", 57, 0, 1, 2, 3, 4, 5, 0);
    Check.due("shown anew", 7, g -> shownSoFar(g, 0, 1, 2, 3, 4, 5, 0), g -> g.garden(4));
    Check.due("none was kept", 0, g -> shownSoFar(g, 0, 1, 2, 3, 4, 5, 0), g -> g.garden(5));
    Check.due("four are kept", 1, g -> shownSoFar(g, 0, 1, 2, 3), g -> g.ofPage(0, 14));
    Check.due("the first one no more", 0, g -> shownSoFar(g, 0, 1, 2, 3, 4), g -> g.ofPage(0, 14));
  }

  private static void aKeptPageIsShownAgain() {
    keeps("the first one was shown again", 1 + 4 + 8 + 16, 0, 1, 2, 3, 0, 4);
    keeps("the second one was shown again", 2 + 4 + 8 + 16, 0, 1, 2, 3, 1, 4);
    keeps("the last one was shown again", 2 + 4 + 8 + 16, 0, 1, 2, 3, 3, 4);
    keeps("all were shown again", 1 + 2 + 4 + 16, 0, 1, 2, 3, 2, 1, 0, 4);
    keeps("two more come", 1 + 2 + 16 + 32, 0, 1, 2, 3, 1, 0, 4, 5);
    Check.due("it counts as kept", 3, g -> shownSoFar(g, 0, 1, 2, 3, 2, 1, 1, 4),
        g -> g.garden(5));
    Check.due("and not as made anew", 5, g -> shownSoFar(g, 0, 1, 2, 3, 2, 1, 1, 4),
        g -> g.garden(4));
    // Neither checksum nor isSound shows a page.
    Check.due("the least lately shown one goes", 30, g -> {
      shownSoFar(g, 0, 1, 2, 3);
      g.digest();
      g.isSound();
    }, g -> {
      g.shown(4);
      return g.all(5);
    });
  }

  private static void placesOfKeptPagesGetFree() {
    for (int i = 0; i < 4; i++) {
      int changed = i;
      Check.Past past = g -> {
        shownSoFar(g, 0, 1, 2, 3);
        Gardens.write(g, changed, "b");
      };
      Check.due("page " + i + " is kept no more", 15 - (1 << i), past, g -> g.all(5));
      Check.due("another one takes its place", 31 - (1 << i), past, g -> {
        g.shown(4);
        return g.all(5);
      });
      int first = i == 0 ? 1 : 0;
      Check.due("then the first one goes", 63 - (1 << i) - (1 << first), past, g -> {
        g.shown(4);
        g.shown(5);
        return g.all(5);
      });
      Check.due("it is the last one, shown again", 31 - (1 << first), past, g -> {
        g.shown(changed);
        g.shown(4);
        return g.all(5);
      });
    }
    Check.due("a page that went leaves its place", 30 - 4, g -> {
      shownSoFar(g, 1, 2, 3);
      g.uproot(2);
      g.shown(4);
    }, g -> g.all(5));
  }

  private static void twelveParts() {
    parts("{ba}".repeat(12), "a".repeat(12));
    parts("{ba}".repeat(13), "a".repeat(12) + "!");
    parts("{ba}".repeat(11) + "\n{ba}\n{ba}", "a".repeat(11) + "\na\n!");
    // Each of these has another one in it.
    parts("{cad}".repeat(6), "ba".repeat(6));
    parts("{cad}".repeat(6) + "{ba}", "ba".repeat(6) + "!");
    parts("{ba}{cad}".repeat(4), "aba".repeat(4));
    parts("{ba}" + "{cad}".repeat(6), "a" + "ba".repeat(5) + "b!");
    // Each of these has three others in it.
    parts("{egg}".repeat(3), "baa".repeat(3));
    parts("{egg}".repeat(3) + "{ba}", "baa".repeat(3) + "!");
    parts("{ba}" + "{egg}".repeat(3), "abaabaaba!");
    Check.due("shown again there are twelve again", "a".repeat(12) + "!\n", g -> {
      Gardens.plant(g, 0, "{ba}".repeat(13));
      Gardens.plant(g, 1, "a");
      g.shown(0);
      Gardens.write(g, 1, "b");
      Gardens.write(g, 1, "a");
    }, g -> g.shown(0));
  }

  /** Shown with page 1 "a", page 2 "b{ba}", page 3 that leads back, and page 4 "{cad}{ba}". */
  private static void parts(String text, String due) {
    Check.due(text, due + "\n", g -> {
      Gardens.plant(g, 0, text);
      Gardens.plant(g, 1, "a");
      Gardens.plant(g, 2, "b{ba}");
      Gardens.plant(g, 3, "{ab}");
      Gardens.plant(g, 4, "{cad}{ba}");
    }, g -> g.shown(0));
  }

  private static void whatIsNoPartPutIn() {
    // Neither one that leads to nobody, nor one that is in itself, nor what is no part.
    parts("{hid}".repeat(9) + "{ba}".repeat(13), "?".repeat(9) + "a".repeat(12) + "!");
    parts("{ab}".repeat(9) + "{ba}".repeat(13), "!".repeat(9) + "a".repeat(12) + "!");
    parts("[ba]".repeat(9) + "{ba}".repeat(13), "ba".repeat(9) + "a".repeat(12) + "!");
    parts("`{ba}`".repeat(3) + "{0|{ba}".repeat(2) + "{ba}".repeat(11),
        "{ba}".repeat(3) + "{0|a".repeat(2) + "a".repeat(10) + "!");
    // A part that only leads back is put in, and what is in it is not.
    parts("{deaf}".repeat(12) + "{ba}", "!".repeat(13));
    // One that leads to nobody is that behind twelve, too.
    parts("{ba}".repeat(12) + "{hid}{ba}", "a".repeat(12) + "?!");
  }

  private static void partsInPartsInParts() {
    Check.Past past = g -> {
      Gardens.plant(g, 0, "a{ba}a");
      Gardens.plant(g, 1, "b{cad}b");
      Gardens.plant(g, 2, "c{deaf}c");
      Gardens.plant(g, 3, "d{egg}d");
      Gardens.plant(g, 4, "e{fig}e");
      Gardens.plant(g, 5, "f");
    };
    String[] due = {"abcd!dcba", "bcde!edcb", "cdefedc", "defed", "efe", "f"};
    for (int i = 0; i < 6; i++) {
      int page = i;
      Check.due("page " + i, due[i] + "\n", past, g -> g.shown(page));
    }
    Check.due("one that leads to nobody is so there, too", "abcd?dcba\n", g -> {
      past.of(g);
      g.uproot(4);
    }, g -> g.shown(0));
    // Twice, but not in itself.
    Check.due("side by side", "abbbba\n", g -> {
      Gardens.plant(g, 0, "a{ba}{ba}a");
      Gardens.plant(g, 1, "bb");
    }, g -> g.shown(0));
    Check.due("in itself by another one", "ab!ba\n", g -> {
      Gardens.plant(g, 0, "a{ba}a");
      Gardens.plant(g, 1, "b{ab}b");
    }, g -> g.shown(0));
    Check.due("in itself by a redirect", "a!a\n", g -> {
      Gardens.plant(g, 0, "a{ba}a");
      Gardens.plant(g, 1, "@ab");
    }, g -> g.shown(0));
  }

  private static void longArguments() {
    Pagegarden g = new Pagegarden();
    Gardens.plant(g, 0, "{ba|" + "b".repeat(295) + "}");
    Gardens.plant(g, 1, "{0}".repeat(66));
    Gardens.draft(g, "{0}".repeat(66));
    Gardens.plant(g, 2, "{0}".repeat(66));
    g.merge(1, 2);
    Check.due("each place is the argument", 295 * 132 + 1 + 1, () -> g.shown(0).length());
    Check.due("sound", true, g::isSound);
    Pagegarden long12 = new Pagegarden();
    Gardens.plant(long12, 0, "{ba}".repeat(13));
    long12.plant(1);
    Gardens.makeLong(long12, 1, "a".repeat(200), "b".repeat(198));
    String part = "a".repeat(200) + " " + "b".repeat(198);
    Check.due("twelve long parts", part.repeat(12) + "!\n", () -> long12.shown(0));
    Check.due("it is kept", 1, () -> long12.all(5));
  }

  /** An object is used for 512 calls: all of them count. */
  private static void allCalls() {
    Pagegarden g = new Pagegarden();
    for (int i = 1; i <= 511; i++) {
      int many = i;
      Check.due("knock " + i, many, g::knock);
    }
    Check.due("the last call", 511, () -> g.garden(3));
  }
}

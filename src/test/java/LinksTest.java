import java.util.Arrays;

/** Promises 30 to 39: links, walks, ranks, and sets of pages. */
public final class LinksTest {
  public static void main(String[] args) {
    leads();
    followsEveryChange();
    tellsSets();
    walks();
    ranks();
    goesByNames();
    goesByAllNames();
    leadsByAllNames();
    leadsByOtherTexts();
    ranksWithoutPagesThatWent();
    asksTheLastPage();
    goesByPrefixes();
    finds();
    findsKinds();
    tellsAll();
    wrongInputs();
    Check.end("LinksTest");
  }

  private static void leads() {
    Pagegarden g = new Pagegarden();
    Gardens.plant(g, 0, "[ba][cad|a][deaf][ab][egg][a/ab][/][b/a/ab]`[ba]`");
    Gardens.plant(g, 1, "@cad");
    Gardens.plant(g, 2, "@deaf\n[ba]");
    Gardens.plant(g, 3, "a");
    Gardens.plant(g, 4, "@fig");
    int[] due = {3, 3, 3, 0, -1, -1, -1, -1};
    for (int i = 0; i < due.length; i++) {
      int nth = i;
      Check.due("link " + i, due[i], () -> g.link(0, nth));
    }
    Check.noArgument("link 8", g, () -> g.link(0, 8));
    Check.noArgument("link -1", g, () -> g.link(0, -1));
    Check.noIndex("link of no page", g, () -> g.link(5, 99));
    Check.due("where a redirect leads", 3, () -> g.ofPage(1, 10));
    Check.due("where it leads to nobody", -1, () -> g.ofPage(4, 10));
    Gardens.write(g, 3, "@ba");
    Check.due("a ring", -1, () -> g.link(0, 0));
    Check.due("a ring", -1, () -> g.link(0, 2));
    Gardens.plant(g, 5, "@fig");
    Check.due("a page that leads on to itself", -1, () -> g.ofPage(5, 10));
    Check.due("a page that leads on to that", -1, () -> g.ofPage(4, 10));
  }

  /** Whatever changes a text, a name or who is there: links lead where they do then. */
  private static void followsEveryChange() {
    Pagegarden g = new Pagegarden();
    Gardens.plant(g, 0, "[ba]");
    leadsTo(g, "planted", 0);
    Gardens.plant(g, 1, "[ab]");
    leadsTo(g, "planted the other one", 2);
    Gardens.write(g, 0, "");
    leadsTo(g, "written", 0);
    Gardens.draft(g, "[ba]");
    g.writeOver(0, 1);
    leadsTo(g, "written over", 2);
    Gardens.draft(g, "");
    g.writeSection(0, 0);
    leadsTo(g, "a section written", 0);
    g.restore(0, 0);
    leadsTo(g, "restored", 2);
    g.undoEdit(0, g.ofPage(0, 3));
    leadsTo(g, "undone", 0);
    g.restore(0, 0);
    g.rename(1, 2);
    leadsTo(g, "renamed", 2);
    Gardens.plant(g, 1, "");
    g.merge(2, 1);
    Check.due("merged: it leads on", 4, () -> g.sets(1, 0));
    leadsTo(g, "merged: through it", 4);
    Check.due("split", 3, () -> g.split(0, 0, 5));
    leadsTo(g, "split", 8);
    g.uproot(3);
    leadsTo(g, "uprooted", 0);
    g.restore(0, 0);
    g.rename(0, 39);
    // By names: "a/b/jig", "ba", "cad".
    g.reload();
    Check.due("reloaded", 1, () -> g.link(0, 0));
    Check.due("reloaded", 0, () -> g.link(1, 0));
  }

  private static void leadsTo(Pagegarden g, String what, int due) {
    Check.due(what, due, () -> g.sets(0, 0));
  }

  private static void sets(Pagegarden g, int page, int... due) {
    for (int i = 0; i < due.length; i++) {
      int what = i;
      Check.due("sets(" + page + ", " + i + ")", due[i], () -> g.sets(page, what));
    }
  }

  private static void tellsSets() {
    Pagegarden g = new Pagegarden();
    Gardens.plant(g, 0, "[ba][ba][ab]{deaf}");
    Gardens.plant(g, 1, "[cad]");
    Gardens.plant(g, 2, "@ba");
    Gardens.plant(g, 3, "");
    Gardens.plant(g, 4, "@jig\n[ab]");
    // [cad] of page 1 leads through page 2 to itself.
    sets(g, 0, 2, 16, 1 + 2 + 4 + 16, 1 + 2);
    sets(g, 1, 0, 1 + 4, 1 + 2 + 4 + 16, 2);
    sets(g, 2, 2, 0, 1 + 2 + 4 + 16, 2 + 4);
    sets(g, 3, 0, 0, 8, 8);
    sets(g, 4, 1, 0, 1 + 2 + 4 + 16, 1 + 2 + 16);
    Check.due("here", 2, () -> g.ofPage(1, 11));
    Check.due("orphans", 4 + 8 + 16, () -> g.all(1));
    Check.due("dead ends", 2 + 8, () -> g.all(2));
    Check.due("an orphan", 1, () -> g.ofPage(4, 12));
    Check.due("no orphan", 0, () -> g.ofPage(0, 12));
    Check.due("a dead end", 1, () -> g.ofPage(1, 13));
    Check.due("no dead end", 0, () -> g.ofPage(2, 13));
    Gardens.write(g, 2, "@ba\n[ab]");
    sets(g, 2, 1 + 2, 0, 1 + 2 + 4 + 16, 1 + 2 + 4);
  }

  private static void walks() {
    Pagegarden g = new Pagegarden();
    Gardens.plant(g, 0, "[ba][cad][deaf]");
    Gardens.plant(g, 1, "[egg]");
    Gardens.plant(g, 2, "[egg]");
    Gardens.plant(g, 3, "[fig]");
    Gardens.plant(g, 4, "[gab]");
    Gardens.plant(g, 5, "[gab]");
    Gardens.plant(g, 6, "[a/b/ab]");
    Gardens.plant(g, 30, "");
    Check.due("to itself", "ab", () -> g.walk(0, 0));
    Check.due("one step", "ab>cad", () -> g.walk(0, 2));
    Check.due("the least names", "ab>ba>egg>gab>a/b/ab", () -> g.walk(0, 7));
    Check.due("none", "", () -> g.walk(7, 0));
    Check.due("none", "", () -> g.walk(1, 2));
    g.rename(3, 13);
    Check.due("another one is the least", "ab>a/deaf>fig>gab>a/b/ab", () -> g.walk(0, 7));
    Gardens.write(g, 2, "[egg][gab]");
    Check.due("the shortest one", "ab>cad>gab>a/b/ab", () -> g.walk(0, 7));
    Check.due("from the middle", "cad>egg", () -> g.walk(2, 4));
    g.rename(5, 31);
    g.rename(3, 11);
    Gardens.write(g, 2, "");
    // "a/b/ba" is less than "a/ba" and "ab".
    Check.due("by names", "ab>a/ba>a/b/ba>gab>a/b/ab", () -> g.walk(0, 7));
    walksByTheLeastNames();
    Pagegarden line = new Pagegarden();
    for (int i = 0; i < 12; i++) {
      Gardens.plant(line, i, "[" + Gardens.name(i + 1) + "]");
    }
    Check.due("through all",
        "ab>ba>cad>deaf>egg>fig>gab>hid>ice>jig>a/ab>a/ba", () -> line.walk(0, 11));
    Check.noIndex("walk from no page", g, () -> g.walk(8, 0));
    Check.noIndex("walk to no page", g, () -> g.walk(0, 8));
    Check.noIndex("walk from page -1", g, () -> g.walk(-1, -1));
  }

  /** The names of the pages themselves, not those by which one came to them. */
  private static void walksByTheLeastNames() {
    Pagegarden g = new Pagegarden();
    Gardens.plant(g, 0, "[b/ab][a/ab]");
    Gardens.plant(g, 1, "[deaf]");
    Gardens.plant(g, 20, "[deaf]");
    Gardens.plant(g, 10, "@ba");
    Gardens.plant(g, 3, "");
    Check.due("by the redirect's name it would be another one", "ab>b/ab>deaf",
        () -> g.walk(0, 4));
    g.rename(1, 39);
    Check.due("renamed it is the least", "ab>a/b/jig>deaf", () -> g.walk(0, 4));
  }

  private static void rank(Pagegarden g, int page, String... due) {
    for (int i = 0; i < due.length; i++) {
      int steps = i;
      Check.due("rank(" + page + ", " + i + ")", due[i], () -> g.rank(page, steps));
    }
  }

  private static void ranks() {
    Pagegarden g = new Pagegarden();
    Gardens.plant(g, 0, "[ba][cad]");
    rank(g, 0, "1/1", "1/1", "1/1", "1/1", "1/1");
    Gardens.plant(g, 1, "[cad]");
    Gardens.plant(g, 2, "");
    // Page 0 gives halves, page 1 all, page 2 thirds to all three.
    rank(g, 0, "1/3", "1/9", "11/54", "29/162");
    rank(g, 1, "1/3", "5/18", "7/27", "91/324");
    rank(g, 2, "1/3", "11/18", "29/54", "175/324");
    Gardens.write(g, 2, "[ab]");
    rank(g, 0, "1/3", "1/3", "1/2", "1/3", "5/12");
    rank(g, 1, "1/3", "1/6", "1/6", "1/4", "1/6");
    rank(g, 2, "1/3", "1/2", "1/3", "5/12", "5/12");
    Pagegarden none = new Pagegarden();
    Gardens.plant(none, 0, "[ba]");
    Gardens.plant(none, 1, "[cad]");
    Gardens.plant(none, 2, "[ba]");
    rank(none, 0, "1/3", "0/1", "0/1", "0/1", "0/1");
    rank(none, 1, "1/3", "2/3", "1/3", "2/3", "1/3");
    ranksOfTwelve();
    Check.noIndex("rank of no page", g, () -> g.rank(3, 9));
    Check.noArgument("rank of 5 steps", g, () -> g.rank(0, 5));
    Check.noArgument("rank of -1 steps", g, () -> g.rank(0, -1));
  }

  /** Page k leads to all that are less: through 1 to 11, and page 0 through 12. */
  private static void ranksOfTwelve() {
    Pagegarden g = new Pagegarden();
    StringBuilder text = new StringBuilder();
    for (int i = 0; i < 12; i++) {
      Gardens.plant(g, i, text.toString());
      text.append("[").append(Gardens.name(i)).append("]");
    }
    rank(g, 11, "1/12", "1/144");
    Check.due("sound", true, g::isSound);
    Oracle oracle = new Oracle();
    for (int i = 0; i < 12; i++) {
      for (char sign : g.text(i, 0).toCharArray()) {
        oracle.type(Gardens.SIGNS.indexOf(sign));
      }
      oracle.plant(i);
    }
    for (int i = 0; i < 12; i++) {
      int page = i;
      Check.due("rank in 4 steps", oracle.rank(page, 4), () -> g.rank(page, 4));
    }
  }

  private static void goesByNames() {
    Pagegarden g = new Pagegarden();
    int[] names = {0, 39, 11, 10, 1, 29, 20, 30, 19};
    for (int name : names) {
      g.plant(name);
    }
    // a/ab a/b/ab a/b/jig a/ba a/jig ab b/ab b/jig ba
    int[] due = {3, 7, 1, 2, 8, 0, 6, 5, 4, -1};
    for (int i = 0; i < due.length; i++) {
      int nth = i;
      Check.due("byName(" + i + ")", due[i], () -> g.byName(nth));
    }
    for (int i = 0; i < 9; i++) {
      int page = due[i];
      Check.due("the one behind " + page, due[i + 1], () -> g.near(page, false));
      Check.due("the one ahead of " + page, i > 0 ? due[i - 1] : -1, () -> g.near(page, true));
    }
    Check.due("a great number", -1, () -> g.byName(Integer.MAX_VALUE));
    Check.noArgument("byName(-1)", g, () -> g.byName(-1));
    Check.noIndex("near no page", g, () -> g.near(9, true));
    Check.noIndex("near page -1", g, () -> g.near(-1, false));
  }

  /** All names, twelve at a time, the greatest one first. */
  private static void goesByAllNames() {
    String[] all = new String[40];
    for (int i = 0; i < 40; i++) {
      all[i] = Gardens.name(i);
    }
    String[] rising = all.clone();
    Arrays.sort(rising);
    for (int from = 0; from + 12 <= 40; from++) {
      Pagegarden g = new Pagegarden();
      for (int i = 11; i >= 0; i--) {
        g.plant(Arrays.asList(all).indexOf(rising[from + i]));
      }
      for (int i = 0; i < 12; i++) {
        int nth = i;
        Check.due("byName(" + i + ") from " + rising[from], 11 - i, () -> g.byName(nth));
        Check.due("the one behind it", 10 - i, () -> g.near(11 - nth, false));
      }
    }
  }

  private static void leadsByAllNames() {
    for (int name = 0; name < 40; name++) {
      int own = name;
      String mark = Gardens.name(name);
      int other = (name + 1) % 40;
      for (String text : new String[] {"[" + mark + "]", "@" + mark}) {
        Pagegarden g = new Pagegarden();
        Gardens.plant(g, other, text);
        Check.due(text + " leads to nobody", 0, () -> g.sets(0, 0));
        Gardens.plant(g, own, "");
        Check.due(text + " leads to the other one", 2, () -> g.sets(0, 0));
        Check.due("which is told there", 1, () -> g.sets(1, 1));
        Check.due("a walk", Gardens.name(other) + ">" + mark, () -> g.walk(0, 1));
        Check.due("sound", true, g::isSound);
      }
      for (int prefix = 0; prefix < 4; prefix++) {
        int asked = prefix;
        Check.due(mark + " begins with prefix " + prefix,
            mark.startsWith(Gardens.PREFIXES[prefix]) ? 1 : 0, g -> g.plant(own),
            g -> g.byPrefix(asked));
        boolean isTold = mark.startsWith(Gardens.PREFIXES[prefix]);
        Check.due("the right at " + mark + " by prefix " + prefix, isTold ? 1 : 2, g -> {
          g.plant(own);
          g.allow(2, asked, 1);
        }, g -> g.right(2, 0));
      }
    }
  }

  /** A naming text that is no name leads to nobody. */
  private static void leadsByOtherTexts() {
    for (String text : new String[] {"/", "a", "a/", "ab/", "abab", "/ab", "b/a/ab", "a/a/ab"}) {
      Pagegarden g = new Pagegarden();
      Gardens.plant(g, 0, "@" + text + "\n[" + text + "]");
      Gardens.plant(g, 1, "[ab]");
      Check.due("@" + text + " is a redirect", 1, () -> g.all(3));
      Check.due("it leads to nobody", 1, () -> g.all(4));
      Check.due("nor does what leads to it", -1, () -> g.link(1, 0));
      Check.due("nor does the link", -1, () -> g.link(0, 0));
      Check.due("it is a dead end", 3, () -> g.all(2));
    }
  }

  private static void ranksWithoutPagesThatWent() {
    Pagegarden g = new Pagegarden();
    for (int i = 0; i < 4; i++) {
      Gardens.plant(g, i, i == 3 ? "[cad]" : "");
    }
    g.uproot(0);
    g.uproot(1);
    rank(g, 2, "1/2", "3/4", "5/8");
    rank(g, 3, "1/2", "1/4", "3/8");
    Check.due("sound", true, g::isSound);
    g.uproot(3);
    rank(g, 2, "1/1", "1/1", "1/1", "1/1", "1/1");
  }

  /** The last page of twelve is asked as all others are. */
  private static void asksTheLastPage() {
    Pagegarden g = new Pagegarden();
    for (int i = 0; i < 12; i++) {
      Gardens.plant(g, i, i == 11 ? "#ab cad[ab]" : "");
    }
    Check.due("find", 2048, () -> g.find(2));
    Check.due("kinds", 2048, () -> g.kinds(0, 0, 1));
    Check.due("dead ends", 2047, () -> g.all(2));
    Check.due("here", 2048, () -> g.sets(0, 1));
    Check.due("orphans", 4094, () -> g.all(1));
    Check.due("the last prefix", 4095 - 1023, () -> g.byPrefix(1));
    g.watch(4, 11, true);
    Gardens.write(g, 11, "[ab][ab]");
    Check.due("unseen", 1, () -> g.unseen(4));
    Check.due("versions", 13, () -> g.garden(7));
    Check.due("what is named can't be a new name", -9, () -> {
      Gardens.write(g, 11, "[ab][ab][a/b/jig]");
      return g.rename(0, 39);
    });
    Check.due("rename", 2, () -> g.rename(0, 38));
    Check.due("its text", "[a/b/ice][a/b/ice][a/b/jig]", () -> Gardens.text(g, 11));
  }

  private static void goesByPrefixes() {
    Pagegarden g = new Pagegarden();
    for (int name = 0; name < 40; name += 5) {
      g.plant(name);
    }
    int[] due = {255, 4 + 8 + 64 + 128, 16 + 32, 64 + 128};
    for (int i = 0; i < due.length; i++) {
      int prefix = i;
      Check.due("byPrefix(" + i + ")", due[i], () -> g.byPrefix(prefix));
    }
    Check.noArgument("byPrefix(4)", g, () -> g.byPrefix(4));
    Check.noArgument("byPrefix(-1)", g, () -> g.byPrefix(-1));
  }

  private static void finds() {
    findsEdges();
    Pagegarden g = new Pagegarden();
    Gardens.plant(g, 0, "abba (ab)");
    Gardens.plant(g, 1, "abba a b");
    Gardens.plant(g, 2, "`[a/ab|ba]`{b/jig}#egg");
    Gardens.plant(g, 3, "");
    int[] due = {1 + 4, 4, 0, 0, 4, 0, 0, 0, 0, 4};
    for (int i = 0; i < due.length; i++) {
      int word = i;
      Check.due("find(" + i + ")", due[i], () -> g.find(word));
    }
    Check.noArgument("find(10)", g, () -> g.find(10));
    Check.noArgument("find(-1)", g, () -> g.find(-1));
  }

  /** The first word of all, the last one of as many as can be, and none that stood elsewhere. */
  private static void findsEdges() {
    Check.due("the only word", 1, past -> Gardens.plant(past, 0, "cad"), past -> past.find(2));
    Check.due("the 200th word", 1, past -> {
      Gardens.plant(past, 0, "a ".repeat(99) + "a");
      Gardens.plant(past, 1, "a ".repeat(98) + "a ab");
      past.merge(0, 1);
    }, past -> past.ofPage(0, 9) == 200 ? past.find(0) & 1 : -1);
    Check.due("a word's place is not a word", 1, past -> {
      Gardens.plant(past, 0, "c ab");
      Gardens.plant(past, 1, "cdab");
    }, past -> past.find(0));
  }

  private static void findsKinds() {
    Pagegarden g = new Pagegarden();
    Gardens.plant(g, 0, "#ab");
    Gardens.plant(g, 1, "#ab #ba");
    Gardens.plant(g, 2, "#ba");
    Gardens.plant(g, 3, "#abba ab `#ba`[ab|#ba](#ba)");
    Check.due("both", 2, () -> g.kinds(0, 1, 0));
    Check.due("one of both", 7, () -> g.kinds(0, 1, 1));
    Check.due("the first one only", 1, () -> g.kinds(0, 1, 2));
    Check.due("the other one only", 4, () -> g.kinds(1, 0, 2));
    Check.due("the same twice", 3, () -> g.kinds(0, 0, 0));
    Check.due("not the same", 0, () -> g.kinds(0, 0, 2));
    Check.due("none", 0, () -> g.kinds(8, 9, 1));
    String[] none = {" ab", ">ab", "@ab", "=ab", "*ab", "cab", "|ab", "(ab)", "_ab"};
    for (String text : none) {
      Check.due("no kind is in " + text, 0, past -> Gardens.plant(past, 0, text),
          past -> past.kinds(0, 0, 1));
    }
    Check.due("none that stood there before", 0, past -> {
      Gardens.plant(past, 0, "a#ab");
      Gardens.write(past, 0, "a ab");
    }, past -> past.kinds(0, 0, 1));
    int[][] wrong = {{-1, 0, 0}, {10, 0, 0}, {0, -1, 0}, {0, 10, 0}, {0, 0, -1}, {0, 0, 3}};
    for (int[] w : wrong) {
      Check.noArgument("kinds wrong", g, () -> g.kinds(w[0], w[1], w[2]));
    }
  }

  private static void tellsAll() {
    Pagegarden g = new Pagegarden();
    Gardens.plant(g, 0, "@ba");
    Gardens.plant(g, 1, "");
    Gardens.plant(g, 2, "@jig");
    Gardens.plant(g, 3, "@deaf");
    g.shown(3);
    g.uproot(1);
    Gardens.plant(g, 1, "[ab]");
    int[] due = {15, 1 + 4 + 8, 2 + 4 + 8, 1 + 4 + 8, 4 + 8, 8};
    for (int i = 0; i < due.length; i++) {
      int what = i;
      Check.due("all(" + i + ")", due[i], () -> g.all(what));
    }
    Check.noArgument("all(6)", g, () -> g.all(6));
    Check.noArgument("all(-1)", g, () -> g.all(-1));
  }

  private static void wrongInputs() {
    Pagegarden g = new Pagegarden();
    g.plant(0);
    Check.noIndex("sets of no page first", g, () -> g.sets(1, 4));
    Check.noIndex("sets of page -1", g, () -> g.sets(-1, 0));
    Check.noArgument("sets what 4", g, () -> g.sets(0, 4));
    Check.noArgument("sets what -1", g, () -> g.sets(0, -1));
  }
}

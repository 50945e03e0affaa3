/** What is empty: the garden, the draft, texts, lines, sections, and what stands in a body. */
public final class EmptyTest {
  public static void main(String[] args) {
    aNewGarden();
    aGardenThatIsEmptyAgain();
    anEmptyDraft();
    anEmptyDraftIsWritten();
    anEmptyDraftIsJoined();
    anEmptyText();
    emptyTextsAreMerged();
    emptyLines();
    emptyBodies();
    sectionsWithoutLines();
    sectionsGo();
    emptyWordsAndDefaults();
    emptyArguments();
    emptyNames();
    aRemarkOfNothing();
    Check.end("EmptyTest");
  }

  private static void aNewGarden() {
    Pagegarden g = new Pagegarden();
    isEmpty("a new garden", g, 0);
    long due = 5803;
    for (int i = 0; i < 9 + 6; i++) {
      due *= 31;
    }
    long digest = due * 31 + 1;
    Check.due("its checksum", digest, g::digest);
  }

  private static void isEmpty(String what, Pagegarden g, int versions) {
    Check.due(what + ": draft", "", g::draft);
    Check.due(what + ": exported", "", g::exported);
    Check.due(what + ": sound", true, g::isSound);
    Check.due(what + ": pages", 0, () -> g.garden(0));
    Check.due(what + ": versions", versions, () -> g.garden(7));
    Check.due(what + ": signs of the draft", 0, () -> g.garden(6));
    Check.due(what + ": rights", 0, () -> g.garden(8));
    for (int i = 0; i < 6; i++) {
      int asked = i;
      Check.due(what + ": all(" + i + ")", 0, () -> g.all(asked));
    }
    for (int i = 0; i < 5; i++) {
      int user = i;
      Check.due(what + ": unseen(" + i + ")", 0, () -> g.unseen(user));
    }
    for (int i = 0; i < 4; i++) {
      int prefix = i;
      Check.due(what + ": byPrefix(" + i + ")", 0, () -> g.byPrefix(prefix));
    }
    for (int i = 0; i < 10; i++) {
      int word = i;
      Check.due(what + ": find(" + i + ")", 0, () -> g.find(word));
      Check.due(what + ": kinds(" + i + ")", 0, () -> g.kinds(word, 9 - word, word % 3));
    }
    Check.due(what + ": byName(0)", -1, () -> g.byName(0));
    Check.due(what + ": byName(12)", -1, () -> g.byName(12));
    Check.due(what + ": reload", 0, g::reload);
  }

  private static void aGardenThatIsEmptyAgain() {
    Pagegarden g = new Pagegarden();
    Gardens.plant(g, 0, "ab [ba]#cad");
    Gardens.plant(g, 1, "@ab");
    g.watch(2, 0, true);
    g.allowPage(3, 1, 0);
    g.talk(1);
    g.shown(0);
    g.shown(1);
    Check.due("uproot", 1, () -> g.uproot(0));
    Check.due("uproot the last one", 0, () -> g.uproot(1));
    isEmpty("a garden that is empty again", g, 0);
    Check.due("the first page again", 0, () -> g.plant(1));
    Check.due("its version", 0, () -> g.ofPage(0, 3));
  }

  private static void anEmptyDraft() {
    Check.due("rub of nothing", 0, g -> { }, g -> g.rub(300));
    Check.due("take of nothing", 0, g -> {
      g.plant(0);
      Gardens.draft(g, "jig");
    }, g -> g.take(0, 0));
    Check.due("the draft is empty", "", g -> {
      g.plant(0);
      Gardens.draft(g, "jig");
      g.take(0, 0);
    }, g -> g.draft());
    // Nothing comes ahead of what is added to nothing.
    String[] due = {"ba", "\n", "==cad", "**cad", ">cad", "|ba|cad", "'", "_", "`", "[ba|cad]",
        "{ba|cad}", "{1|cad}", "(ba)", "#ba", "@ba"};
    String[] without = {"ba", "\n", "==", "**", ">", "|ba|", "'", "_", "`", "[ba]", "{ba}", "{1}",
        "(ba)", "#ba", "@ba"};
    for (int i = 0; i < due.length; i++) {
      int kind = i;
      Check.due("kind " + i + " added to nothing", due[i], g -> g.add(kind, 1, 2), g -> g.draft());
      Check.due("kind " + i + " added to nothing, without b", without[i],
          g -> g.add(kind, 1, -1), g -> g.draft());
    }
  }

  private static void anEmptyDraftIsWritten() {
    Pagegarden g = new Pagegarden();
    Check.due("plant nothing", 0, () -> g.plant(0));
    Check.due("write nothing over nothing", 0, () -> g.write(0));
    Gardens.write(g, 0, "ab");
    Check.due("write nothing", 2, () -> g.write(0));
    Check.due("its text", "", () -> g.text(0, 2));
    Check.due("restore nothing", 2, () -> g.restore(0, 0));
    Check.due("restore something", 3, () -> g.restore(0, 1));
    Check.due("restore nothing", 4, () -> g.restore(0, 0));
    Check.due("undo what made it empty", 5, () -> g.undoEdit(0, 4));
    Check.due("its text", "ab", () -> g.text(0, 5));
    Check.due("undo what filled it", 6, () -> g.undoEdit(0, 5));
    Check.due("its text", "", () -> g.text(0, 6));
    Check.due("sound", true, g::isSound);
  }

  private static void anEmptyDraftIsJoined() {
    joined("nothing over what it was made of", "", "ab", "ab", "");
    joined("nothing, and nothing is there", "", "", "ab", "");
    joined("nothing over nothing", "", "ab", "", "ab");
    joined("something over nothing", "ab", "", "", "ab");
    joined("something over nothing, and another thing is there", "ab", "ba", "", null);
    joined("the empty line touches where a line came", "", "ab\nba\ncad", "ab\nba", null);
    joined("no line is left", "ba", "ab", "ab\nba", "");
    joined("an empty line is left", "\nba", "ab\n", "ab\nba", "\n");
  }

  /** The draft written over a version, while the text is another one; null for a quarrel. */
  private static void joined(String what, String draft, String text, String over, String due) {
    Check.Past past = g -> {
      Gardens.plant(g, 0, over);
      Gardens.write(g, 0, text);
      Gardens.draft(g, draft);
    };
    if (due == null) {
      Check.refused(what, past, g -> g.writeOver(0, 0));
    } else {
      Check.due(what, due, past, g -> {
        g.writeOver(0, 0);
        return Gardens.text(g, 0);
      });
    }
  }

  private static void anEmptyText() {
    Pagegarden g = new Pagegarden();
    g.login(2);
    g.plant(13);
    int[] due = {13, 0, 1, 0, 0, 0, 0, 2, 0, 0, -1, 0, 1, 1, 0, 0};
    for (int i = 0; i < due.length; i++) {
      int what = i;
      Check.due("ofPage(0, " + i + ")", due[i], () -> g.ofPage(0, what));
    }
    int[][] nodes = {{0, 0, 1, 0, 0}, {7, 1, 0, 0, 0}};
    for (int i = 0; i < 10; i++) {
      int nth = i / 5;
      int what = i % 5;
      Check.due("node(0, " + nth + ", " + what + ")", nodes[nth][what],
          () -> g.node(0, nth, what));
    }
    Check.due("node 0, written", "", () -> g.nodeText(0, 0));
    Check.due("node 1, written", "", () -> g.nodeText(0, 1));
    Check.due("text", "", () -> g.text(0, 0));
    Check.due("contents", "", () -> g.contents(0));
    Check.due("section 0", "", () -> g.section(0, 0));
    Check.due("shown", "\n", () -> g.shown(0));
    Check.due("by whom", 2, () -> g.versionOf(0, 0, 0));
    Check.due("its signs", 0, () -> g.versionOf(0, 0, 1));
    Check.due("its lines", 1, () -> g.versionOf(0, 0, 2));
    int[] sets = {0, 0, 1, 1};
    for (int i = 0; i < 4; i++) {
      int what = i;
      Check.due("sets(0, " + i + ")", sets[i], () -> g.sets(0, what));
    }
    Check.due("rank of a page alone", "1/1", () -> g.rank(0, 4));
    Check.due("walk", "a/deaf", () -> g.walk(0, 0));
    Check.due("exported", "%a/deaf 1\n\n", g::exported);
    Check.due("sound", true, g::isSound);
    Check.due("reload", 1, g::reload);
    Check.due("exported then", "%a/deaf 1\n\n", g::exported);
    Check.due("its only line goes to another page", 1, () -> g.split(0, 0, 0));
    Check.due("where it was", "[ab]", () -> g.text(0, 1));
    Check.due("the other page", "", () -> g.text(1, 0));
    Check.noArgument("no word", past -> past.plant(0), past -> past.writer(0, 0));
    Check.noArgument("no link", past -> past.plant(0), past -> past.link(0, 0));
    Check.noArgument("no section 1", past -> past.plant(0), past -> past.section(0, 1));
    Check.noIndex("no node 2", past -> past.plant(0), past -> past.nodeText(0, 2));
  }

  private static void emptyTextsAreMerged() {
    merged("", "", "\n");
    merged("ab", "", "ab\n");
    merged("", "ab", "\nab");
    // What comes behind a line end leads on no more.
    merged("", "@cad", "\n@cad");
    Pagegarden g = new Pagegarden();
    g.plant(0);
    Gardens.plant(g, 1, "@ab");
    g.merge(0, 1);
    Check.due("no redirect", -1, () -> g.ofPage(0, 10));
    Check.due("no redirect", 2, () -> g.all(3));
  }

  private static void merged(String one, String other, String due) {
    Check.due("merge of '" + one + "' and '" + other + "'", due, g -> {
      Gardens.plant(g, 0, one);
      Gardens.plant(g, 1, other);
      g.merge(0, 1);
    }, g -> Gardens.text(g, 0));
  }

  private static void read(String text, String tree, String shown) {
    Check.Past past = g -> Gardens.plant(g, 0, text);
    Check.due("tree of " + text, tree, past, g -> Gardens.tree(g, 0));
    Check.due(text + ", shown", shown, past, g -> g.shown(0));
    Check.due("sound with " + text, true, past, g -> g.isSound());
  }

  private static void emptyLines() {
    read("\n", "0(7<\n> 7<>)", "\n\n");
    read("\n\n\n", "0(7<\n> 7<\n> 7<\n> 7<>)", "\n\n\n\n");
    read("a\n", "0(8(10<a>) 7<>)", "a\n\n");
    read("\na", "0(7<\n> 8(10<a>))", "\na\n");
    read("*a\n\n**b", "0(3(10<a>) 7<\n> 3(10<b>))", "- a\n\n-- b\n");
    read("=a\n\n==b\n", "0(1(2(10<a>) 7<\n> 1(2(10<b>) 7<>)))", "1 a\n\n1.1 b\n\n");
    // A blank is a sign.
    read(" ", "0(8(10< >))", " \n");
    Pagegarden g = new Pagegarden();
    Gardens.plant(g, 0, "\n\n");
    Check.due("lines", 3, () -> g.ofPage(0, 2));
    Check.due("section 0", "\n\n", () -> g.section(0, 0));
    Check.due("exported", "%ab 3\n\n\n\n", g::exported);
    Gardens.plant(g, 1, "a{ab}b");
    Check.due("empty lines are left out of a part", "ab\n", () -> g.shown(1));
  }

  private static void emptyBodies() {
    read("=", "0(1(2<=>))", "1 \n");
    read("===", "0(1(2<===>))", "0.0.1 \n");
    read("*", "0(3<*>)", "- \n");
    read("***", "0(3<***>)", "--- \n");
    read(">", "0(4<>>)", "> \n");
    read("|", "0(5(9<>))", "\n");
    read("||", "0(5(9<> 9<>))", " | \n");
    read("``", "0(8(13<``>))", "\n");
    read("()", "0(8(17<()>))", "^1\n^1: \n");
    read("''", "0(8(11<'> 11<'>))", "<1><0>\n");
    Check.due("contents of an empty head", "1 \n", g -> Gardens.plant(g, 0, "="),
        g -> g.contents(0));
    Pagegarden g = new Pagegarden();
    Gardens.plant(g, 0, "=\n*\n>\n|\n||");
    Gardens.plant(g, 1, "a{ab}b");
    Check.due("empty bodies in a part have blanks between", "a     | b\n", () -> g.shown(1));
  }

  private static void sectionsWithoutLines() {
    Check.Past head = g -> Gardens.plant(g, 0, "=ab\n==ba");
    Check.due("section 0", "", head, g -> g.section(0, 0));
    Check.due("a head alone", "==ba", head, g -> g.section(0, 2));
    Check.due("none stay none", 0, head, g -> g.writeSection(0, 0));
    Check.refused("none can't be split", head, g -> g.split(0, 0, 1));
    written("lines come ahead of all", "=ab\n==ba", 0, "cad\negg", "cad\negg\n=ab\n==ba");
    written("an empty line comes ahead of all", "=ab", 0, "\n", "\n\n=ab");
    written("a head comes ahead of all", "=ab", 0, "=cad", "=cad\n=ab");
    // A section 0 with an empty line has a line.
    Check.due("an empty line is a section", 1, g -> Gardens.plant(g, 0, "\n=ab"),
        g -> g.split(0, 0, 1));
    written("an empty line goes", "\n=ab", 0, "", "=ab");
  }

  private static void sectionsGo() {
    written("section 0 goes", "ab\nba\n=cad", 0, "", "=cad");
    written("the first one goes", "ab\n=ba\n=cad", 1, "", "ab\n=cad");
    written("the last one goes", "ab\n=ba\n=cad", 2, "", "ab\n=ba");
    written("one and those in it go", "=ab\n==ba\n===cad\n=egg", 1, "", "=egg");
    written("one in it goes", "=ab\n==ba\n===cad\n=egg", 2, "", "=ab\n=egg");
    written("all goes", "=ab\n==ba", 1, "", "");
    written("all goes of section 0", "ab\nba", 0, "", "");
    written("an empty line is left", "\n=ab", 1, "", "");
    written("two empty lines are left", "\n\n=ab", 1, "", "\n");
    written("nothing of nothing", "", 0, "", "");
    written("something of nothing", "", 0, "ab", "ab");
  }

  private static void written(String what, String text, int section, String draft, String due) {
    Check.Past past = g -> {
      Gardens.plant(g, 0, text);
      Gardens.draft(g, draft);
    };
    Check.due(what, due, past, g -> {
      g.writeSection(0, section);
      return Gardens.text(g, 0);
    });
    Check.due(what + ": the draft is empty", "", past, g -> {
      g.writeSection(0, section);
      return g.draft();
    });
    Check.due(what + ": its version", text.equals(due) ? 0 : 1, past,
        g -> g.writeSection(0, section));
  }

  private static void emptyWordsAndDefaults() {
    read("[ab|]", "0(8(14<[ab|]>))", "\n");
    read("[ba|]", "0(8(14<[ba|]>))", "?\n");
    read("[ab||]", "0(8(14<[ab||]>))", "|\n");
    read("{0|}", "0(8(16<{0|}>))", "\n");
    read("{0}", "0(8(16<{0}>))", "\n");
    read("{2||}", "0(8(16<{2||}>))", "|\n");
    Check.due("a link without words is a link", 0, g -> Gardens.plant(g, 0, "[ab|]"),
        g -> g.link(0, 0));
    Check.due("a part without a sign in its argument is a part", 1,
        g -> Gardens.plant(g, 0, "{ba|}"), g -> g.ofPage(0, 6));
  }

  private static void emptyArguments() {
    put("{ba}", "<xyz>");
    put("{ba|}", "<yz>");
    put("{ba||}", "<z>");
    put("{ba|||}", "<>");
    put("{ba||||}", "<>");
    put("{ba|||a}", "<a>");
    put("{ba|a}", "<ayz>");
    put("{ba||a}", "<az>");
  }

  /** What a part puts in of three places whose defaults stand for x, y and z. */
  private static void put(String part, String due) {
    String shown = due.replace('x', 'h').replace('y', 'i').replace('z', 'j');
    Check.due(part, shown.replace("<", "=").replace(">", "=") + "\n", g -> {
      Gardens.plant(g, 0, part);
      Gardens.plant(g, 1, ">={0|h}{1|i}{2|j}=");
    }, g -> g.shown(0));
  }

  private static void emptyNames() {
    read("[]", "0(8(10<[]>))", "[]\n");
    read("[|a]", "0(8(10<[|a]>))", "[|a]\n");
    read("{}", "0(8(10<{}>))", "{}\n");
    read("{|}", "0(8(10<{|}>))", "{|}\n");
    read("@", "0(8(10<@>))", "@\n");
    read("#", "0(8(10<#>))", "#\n");
    read("[/]", "0(8(14<[/]>))", "/?\n");
    read("{/}", "0(8(15<{/}>))", "?\n");
    read("@/", "0(6<@/>)", "@/\n");
    // The prefix without a sign is that of all names.
    Pagegarden g = new Pagegarden();
    g.plant(0);
    g.plant(39);
    Check.due("all names begin with nothing", 3, () -> g.byPrefix(0));
    g.allow(1, 0, 1);
    Check.due("its right is that of all", 1, () -> g.right(1, 1));
  }

  private static void aRemarkOfNothing() {
    Pagegarden g = new Pagegarden();
    g.plant(0);
    g.login(3);
    Check.due("talk of nothing", 1, () -> g.talk(0));
    Check.due("what was said", "3:", () -> g.remark(0, 0));
    Check.due("it is one", 1, () -> g.ofPage(0, 15));
    Check.noArgument("no remark of a page", past -> past.plant(0), past -> past.remark(0, 0));
  }
}

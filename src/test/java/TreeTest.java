/** Promises 21 to 26: texts, and the tree into which each is read. */
public final class TreeTest {
  public static void main(String[] args) {
    tellsTexts();
    readsAllShortTexts();
    readsLines();
    readsSections();
    readsItems();
    readsRows();
    readsRedirects();
    readsCode();
    readsLinks();
    readsPlacesAndParts();
    readsNotesAndKinds();
    countsWithinNodes();
    tellsOfPages();
    listsContents();
    tellsSections();
    readsAgain();
    fullRows();
    wrongInputs();
    Check.end("TreeTest");
  }

  private static void reads(String text, String due) {
    Pagegarden g = new Pagegarden();
    Gardens.plant(g, 0, text);
    Check.due("tree of " + text, due, () -> Gardens.tree(g, 0));
    Check.due("sound with " + text, true, g::isSound);
  }

  private static void tellsTexts() {
    Pagegarden g = new Pagegarden();
    Gardens.plant(g, 0, "ab");
    for (int i = 1; i <= 25; i++) {
      Gardens.write(g, 0, "a".repeat(i));
    }
    Check.due("the newest", "a".repeat(25), () -> g.text(0, 25));
    Check.due("the oldest", "a".repeat(6), () -> g.text(0, 6));
    Check.noArgument("one that is not kept", g, () -> g.text(0, 5));
    Check.noArgument("version 26", g, () -> g.text(0, 26));
    Check.noArgument("version -1", g, () -> g.text(0, -1));
    Check.noIndex("text of no page", g, () -> g.text(1, 0));
    Check.noIndex("text of page -1", g, () -> g.text(-1, 99));
  }

  /** All texts of three signs, and of less: nodes and what is shown. */
  private static void readsAllShortTexts() {
    Pagegarden garden = null;
    int left = 0;
    for (int i = 0; i < 32 * 32 * 32; i++) {
      String text = sign(i) + sign(i / 32) + sign(i / 1024);
      boolean isTwice = sign(i).isEmpty() && !(sign(i / 32) + sign(i / 1024)).isEmpty()
          || sign(i / 32).isEmpty() && !sign(i / 1024).isEmpty();
      if (isTwice) {
        continue;
      }
      if (left == 0) {
        garden = new Pagegarden();
        garden.plant(0);
        left = 20;
      }
      left--;
      Gardens.write(garden, 0, text);
      Oracle oracle = new Oracle();
      for (char sign : text.toCharArray()) {
        oracle.type(Gardens.SIGNS.indexOf(sign));
      }
      oracle.plant(0);
      Pagegarden g = garden;
      Check.due("nodes of " + text, oracle.ofPage(0, 7), () -> g.ofPage(0, 7));
      for (int nth = 1; nth < oracle.ofPage(0, 7); nth++) {
        int node = nth;
        String due = oracle.node(0, nth, 0) + oracle.nodeText(0, nth);
        Check.due("node " + nth + " of " + text, due,
            () -> g.node(0, node, 0) + g.nodeText(0, node));
      }
      Check.due(text + ", shown", oracle.shown(0), () -> g.shown(0));
    }
  }

  /** One of the signs, or nothing. */
  private static String sign(int number) {
    int nth = number % 32;
    return nth == 31 ? "" : Gardens.SIGNS.substring(nth, nth + 1);
  }

  private static void readsLines() {
    reads("", "0(7<>)");
    reads("\n", "0(7<\n> 7<>)");
    reads("ab", "0(8(10<ab>))");
    reads("ab\n", "0(8(10<ab>) 7<>)");
    reads(" ", "0(8(10< >))");
    reads(">ab", "0(4(10<ab>))");
    reads(">", "0(4<>>)");
    reads(">>ab", "0(4(10<>ab>))");
    reads(" >ab", "0(8(10< >ab>))");
    reads("====", "0(8(10<====>))");
    reads("****ab", "0(8(10<****ab>))");
    reads(" =ab", "0(8(10< =ab>))");
    reads("ab=", "0(8(10<ab=>))");
    reads("@", "0(8(10<@>))");
    reads("=@ab", "0(1(2(10<@ab>)))");
    reads("=== =", "0(1(2(10< =>)))");
    reads("==*", "0(1(2(10<*>)))");
    reads("***=", "0(3(10<=>))");
    reads("*=*", "0(3(10<=*>))");
    reads("=====", "0(8(10<=====>))");
    reads("*****", "0(8(10<*****>))");
    reads("|=a", "0(5(9(10<=a>)))");
    reads(">=a", "0(4(10<=a>))");
    // What is begun in one line does not end in another one.
    reads("[ab\n]", "0(8(10<[ab>) 8(10<]>))");
    reads("{0\n}", "0(8(10<{0>) 8(10<}>))");
    reads("{ab|\n}", "0(8(10<{ab|>) 8(10<}>))");
    reads("(\n)", "0(8(10<(>) 8(10<)>))");
    reads("#\nab", "0(8(10<#>) 8(10<ab>))");
  }

  private static void readsSections() {
    reads("=", "0(1(2<=>))");
    reads("=ab", "0(1(2(10<ab>)))");
    reads("= =", "0(1(2(10< =>)))");
    reads("===ab\n==ba\n=cad",
        "0(1(2(10<ab>)) 1(2(10<ba>)) 1(2(10<cad>)))");
    reads("ab\n=ba\ncad\n===deaf\n==egg\n\n=fig",
        "0(8(10<ab>) 1(2(10<ba>) 8(10<cad>) 1(2(10<deaf>)) 1(2(10<egg>) 7<\n>)) 1(2(10<fig>)))");
    reads("==a\n==b", "0(1(2(10<a>)) 1(2(10<b>)))");
    Pagegarden g = new Pagegarden();
    Gardens.plant(g, 0, "=ba\ncad\n==e\n=f");
    Check.due("section, written", "=ba\ncad\n==e\n", () -> g.nodeText(0, 1));
    Check.due("head, written", "=ba\n", () -> g.nodeText(0, 2));
    Check.due("the last head, written", "=f", () -> g.nodeText(0, 10));
    Check.due("an item ends at a head", 0, () -> {
      Gardens.write(g, 0, "*a\n***b\n==c");
      return g.node(0, 5, 4) - 8;
    });
  }

  private static void readsItems() {
    reads("*", "0(3<*>)");
    reads("*a", "0(3(10<a>))");
    reads("*a\n**b\n***c\n*d", "0(3(10<a> 3(10<b> 3(10<c>))) 3(10<d>))");
    reads("***a\n**b\n*c", "0(3(10<a>) 3(10<b>) 3(10<c>))");
    reads("*a\n***b\n**c", "0(3(10<a> 3(10<b>) 3(10<c>)))");
    reads("*a\n\n**b", "0(3(10<a>) 7<\n> 3(10<b>))");
    reads("*a\nb\n**c", "0(3(10<a>) 8(10<b>) 3(10<c>))");
    reads("*a\n=b\n**c", "0(3(10<a>) 1(2(10<b>) 3(10<c>)))");
    reads("*a\n==b", "0(3(10<a>) 1(2(10<b>)))");
    Pagegarden g = new Pagegarden();
    Gardens.plant(g, 0, "*a\n**b\n*c\nd");
    Check.due("item, written with those in it", "*a\n**b\n", () -> g.nodeText(0, 1));
    Check.due("item in an item", "**b\n", () -> g.nodeText(0, 3));
    Check.due("the last item", "*c\n", () -> g.nodeText(0, 5));
  }

  private static void readsRows() {
    reads("|", "0(5(9<>))");
    reads("||", "0(5(9<> 9<>))");
    reads("|ab|ba", "0(5(9(10<ab>) 9(10<ba>)))");
    reads("|ab|", "0(5(9(10<ab>) 9<>))");
    reads("ab|ba", "0(8(10<ab|ba>))");
    // Cells are parted ahead of what is in them.
    reads("|[ab|ba]|`a|b`", "0(5(9(10<[ab>) 9(10<ba]>) 9(10<`a>) 9(10<b`>)))");
    reads("|'[ab]_|{0}", "0(5(9(11<'> 14<[ab]> 12<_>) 9(16<{0}>)))");
    Pagegarden g = new Pagegarden();
    Gardens.plant(g, 0, "|ab|ba\n|");
    Check.due("row, written", "|ab|ba\n", () -> g.nodeText(0, 1));
    Check.due("cell, written", "ba", () -> g.nodeText(0, 4));
    Check.due("a cell stands behind its bar", 4, () -> g.node(0, 4, 4));
  }

  private static void readsRedirects() {
    reads("@ab", "0(6<@ab>)");
    reads("@ab\n@ba", "0(6<@ab\n> 8(10<@ba>))");
    reads("@/", "0(6<@/>)");
    reads("@a//b", "0(6<@a//b>)");
    reads("@ab ", "0(8(10<@ab >))");
    reads("@", "0(8(10<@>))");
    reads("@ab0", "0(8(10<@ab0>))");
    reads(" @ab", "0(8(10< @ab>))");
    reads("\n@ab", "0(7<\n> 8(10<@ab>))");
    reads("@0", "0(8(10<@0>))");
    reads("@0ab", "0(8(10<@0ab>))");
    reads("@@ab", "0(8(10<@@ab>))");
    reads("@ ab", "0(8(10<@ ab>))");
    reads("@ab\n=a\n*b", "0(6<@ab\n> 1(2(10<a>) 3(10<b>)))");
  }

  private static void readsCode() {
    reads("`ab`", "0(8(13<`ab`>))");
    reads("``", "0(8(13<``>))");
    reads("```", "0(8(13<``> 10<`>))");
    reads("a`[ab]'`b", "0(8(10<a> 13<`[ab]'`> 10<b>))");
    reads("a`b\n`c", "0(8(10<a`b>) 8(10<`c>))");
    reads("[ab`]`", "0(8(10<[ab> 13<`]`>))");
    reads("=`a`", "0(1(2(13<`a`>)))");
  }

  private static void readsLinks() {
    reads("[ab]", "0(8(14<[ab]>))");
    reads("[a/b/c]", "0(8(14<[a/b/c]>))");
    reads("[ab|]", "0(8(14<[ab|]>))");
    reads("[ab|b a'|0]", "0(8(14<[ab|b a'|0]>))");
    reads("[]", "0(8(10<[]>))");
    reads("[0]", "0(8(10<[0]>))");
    reads("[1|a]", "0(8(10<[1|a]>))");
    reads("{ }", "0(8(10<{ }>))");
    reads("{*|a}", "0(8(10<{*|a}>))");
    reads("[|ab]", "0(8(10<[|ab]>))");
    reads("[ab ]", "0(8(10<[ab ]>))");
    reads("[ab", "0(8(10<[ab>))");
    reads("[[ab]", "0(8(10<[> 14<[ab]>))");
    reads("[ab|[ba]]", "0(8(10<[ab|> 14<[ba]> 10<]>))");
    reads("[ab]]", "0(8(14<[ab]> 10<]>))");
    reads("[ab][ba]", "0(8(14<[ab]> 14<[ba]>))");
    reads("[a(b]c)", "0(8(10<[a> 17<(b]c)>))");
    reads("[a|(b]c)", "0(8(14<[a|(b]> 10<c)>))");
    reads("['ab]", "0(8(10<[> 11<'> 10<ab]>))");
    reads("*[ab]\n>[ab]\n==[ab]", "0(3(14<[ab]>) 4(14<[ab]>) 1(2(14<[ab]>)))");
  }

  private static void readsPlacesAndParts() {
    reads("{0}{1}{2}", "0(8(16<{0}> 16<{1}> 16<{2}>))");
    reads("{0|}", "0(8(16<{0|}>))");
    reads("{2|a |'|b}", "0(8(16<{2|a |'|b}>))");
    reads("{01}", "0(8(10<{01}>))");
    reads("{0a}", "0(8(10<{0a}>))");
    reads("{0", "0(8(10<{0>))");
    reads("{}", "0(8(10<{}>))");
    reads("{", "0(8(10<{>))");
    reads("{|}", "0(8(10<{|}>))");
    reads("{a0}", "0(8(10<{a0}>))");
    reads("{ab}", "0(8(15<{ab}>))");
    reads("{/|||}", "0(8(15<{/|||}>))");
    reads("{ab|a b|[ba]}", "0(8(15<{ab|a b|[ba]}>))");
    reads("{ab|{0}}", "0(8(10<{ab|> 16<{0}> 10<}>))");
    reads("{ab}}", "0(8(15<{ab}> 10<}>))");
    reads("{0|[ab}]", "0(8(16<{0|[ab}> 10<]>))");
  }

  private static void readsNotesAndKinds() {
    reads("()", "0(8(17<()>))");
    reads("(a [ab] 'b)", "0(8(17<(a [ab] 'b)>))");
    reads("(a(b)c)", "0(8(10<(a> 17<(b)> 10<c)>))");
    reads("(ab", "0(8(10<(ab>))");
    reads("a)", "0(8(10<a)>))");
    reads("#ab", "0(8(18<#ab>))");
    reads("#ab/ba#a0", "0(8(18<#ab> 10</ba> 18<#a> 10<0>))");
    reads("#", "0(8(10<#>))");
    reads("##ab", "0(8(10<#> 18<#ab>))");
    reads("# ab", "0(8(10<# ab>))");
    reads("''_a_'", "0(8(11<'> 11<'> 12<_> 10<a> 12<_> 11<'>))");
    reads("]}012@=*>/", "0(8(10<]}012@=*>/>))");
  }

  private static void countsWithinNodes() {
    Pagegarden g = new Pagegarden();
    Gardens.plant(g, 0, "=a\n|b|[ab]\n*c\n**'\n");
    // page, section, head, text, row, cell, text, cell, link, item, text, item, bold, empty
    int[][] due = {
      {0, 0, 1, 18, 0}, {1, 1, 4, 18, 0}, {2, 2, 1, 3, 0}, {10, 3, 0, 1, 1}, {5, 2, 2, 8, 3},
      {9, 3, 1, 1, 4}, {10, 4, 0, 1, 4}, {9, 3, 1, 4, 6}, {14, 4, 0, 4, 6}, {3, 2, 2, 7, 11},
      {10, 3, 0, 1, 12}, {3, 3, 1, 4, 14}, {11, 4, 0, 1, 16}, {7, 2, 0, 0, 18}
    };
    Check.due("nodes", due.length, () -> g.ofPage(0, 7));
    for (int i = 0; i < due.length; i++) {
      for (int what = 0; what <= 4; what++) {
        int node = i;
        int asked = what;
        Check.due("node(0, " + i + ", " + what + ")", due[i][what], () -> g.node(0, node, asked));
      }
    }
    Check.due("the page, written", "=a\n|b|[ab]\n*c\n**'\n", () -> g.nodeText(0, 0));
    Check.due("the last one", "", () -> g.nodeText(0, 13));
  }

  private static void tellsOfPages() {
    Pagegarden g = new Pagegarden();
    Gardens.plant(g, 12, "@ba\n=a [ba]\n{ab|c}[cad]\n\n==b'c`d`");
    Gardens.plant(g, 1, "[a/cad]");
    Gardens.plant(g, 5, "");
    g.talk(0);
    int[] due = {12, 33, 5, 0, 0, 2, 1, 16, 2, 9, 1, 0, 1, 0, 0, 1};
    for (int what = 0; what <= 15; what++) {
      int asked = what;
      Check.due("ofPage(0, " + what + ")", due[what], () -> g.ofPage(0, asked));
    }
    Check.due("no redirect", -1, () -> g.ofPage(1, 10));
    int[] empty = {5, 0, 1, 0, 0, 0, 0, 2, 0, 0, -1, 0, 1, 1, 0, 0};
    for (int what = 0; what <= 15; what++) {
      int asked = what;
      Check.due("ofPage(2, " + what + ")", empty[what], () -> g.ofPage(2, asked));
    }
    g.shown(2);
    Check.due("it is kept", 1, () -> g.ofPage(2, 14));
  }

  private static void listsContents() {
    Pagegarden g = new Pagegarden();
    Gardens.plant(g, 0, "ab\n==a'b\n=\n=b[ab|c]\n*c\n==d\n===e\n===f\n==g\n=h\n===i\n==j\n====a");
    Check.due("contents",
        "0.1 a'b\n1 \n2 b[ab|c]\n2.1 d\n2.1.1 e\n2.1.2 f\n2.2 g\n3 h\n3.0.1 i\n3.1 j\n",
        () -> g.contents(0));
    Gardens.write(g, 0, "");
    Check.due("no contents", "", () -> g.contents(0));
    Gardens.write(g, 0, "===a");
    Check.due("a deep head alone", "0.0.1 a\n", () -> g.contents(0));
    Check.noIndex("contents of no page", g, () -> g.contents(1));
    Check.noIndex("contents of page -1", g, () -> g.contents(-1));
  }

  private static void tellsSections() {
    Pagegarden g = new Pagegarden();
    Gardens.plant(g, 0, "ab\n\n=ba\ncad\n==egg\nfig\n===a\n==gab\n=hid\n");
    String[] due = {
      "ab\n", "=ba\ncad\n==egg\nfig\n===a\n==gab", "==egg\nfig\n===a", "===a", "==gab", "=hid\n"
    };
    for (int i = 0; i < due.length; i++) {
      int section = i;
      Check.due("section " + i, due[i], () -> g.section(0, section));
    }
    Check.noArgument("section 6", g, () -> g.section(0, 6));
    Check.noArgument("section -1", g, () -> g.section(0, -1));
    Check.noIndex("section of no page", g, () -> g.section(1, 9));
    Gardens.write(g, 0, "=ab");
    Check.due("section 0 without lines", "", () -> g.section(0, 0));
    Gardens.write(g, 0, "");
    Check.due("section 0 of the empty text", "", () -> g.section(0, 0));
    Check.noArgument("no section 1", g, () -> g.section(0, 1));
  }

  /** Nothing of the tree before is left. */
  private static void readsAgain() {
    Pagegarden g = new Pagegarden();
    Gardens.plant(g, 0, "=a\n|b|[ab]{ba}\n*c\n**'\n");
    Gardens.write(g, 0, "{ba}\n[ba]\n\n`a`(b)#c\n*a");
    Check.due("the tree",
        "0(8(15<{ba}>) 8(14<[ba]>) 7<\n> 8(13<`a`> 17<(b)> 18<#c>) 3(10<a>))",
        () -> Gardens.tree(g, 0));
    // What stood behind the last node, or just there, is read no more.
    Gardens.write(g, 0, "a[ab]{ba}#cad\n=b");
    Gardens.write(g, 0, "a");
    Check.due("no link", "throws.IllegalArgumentException", () -> g.link(0, 0));
    Check.due("no links, parts, heads", "000",
        () -> "" + g.ofPage(0, 5) + g.ofPage(0, 6) + g.ofPage(0, 8));
    Check.due("one line is shown", "a\n", () -> g.shown(0));
    Check.due("no contents", "", () -> g.contents(0));
    Gardens.write(g, 0, "a\nb\nc");
    Gardens.write(g, 0, "a");
    Check.due("one line is shown then, too", "a\n", () -> g.shown(0));
    Gardens.write(g, 0, "a{ba}");
    Gardens.write(g, 0, "b");
    Check.due("no part", 0, () -> g.ofPage(0, 6));
    Gardens.write(g, 0, "*a\n\n");
    Check.due("the tree", "0(3(10<a>) 7<\n> 7<>)", () -> Gardens.tree(g, 0));
    Gardens.write(g, 0, "");
    Check.due("the tree", "0(7<>)", () -> Gardens.tree(g, 0));
  }

  /** The texts that have the most lines, nodes and words. */
  private static void fullRows() {
    Pagegarden lines = full("\n".repeat(200), "\n".repeat(198), 402);
    Check.due("lines", 400, () -> lines.ofPage(0, 2));
    full("=\n".repeat(99) + "='", "'".repeat(198), 402);
    full("'".repeat(200), "'".repeat(198), 402);
    full("|".repeat(200), "'".repeat(198), 402);
    // The last node of all is a head.
    Pagegarden head = full("\n".repeat(200), "\n".repeat(197) + "=", 402);
    Check.due("the last node", 2, () -> head.node(0, 401, 0));
    Check.due("its path", "1 \n2 \n", () -> head.contents(0));
    Check.due("heads", 2, () -> head.ofPage(0, 8));
    Check.due("its section", "=", () -> head.section(0, 2));
    Check.due("shown", "\n".repeat(201) + "1 \n" + "\n".repeat(196) + "2 \n",
        () -> head.shown(0));
    Pagegarden words = full("a ".repeat(100), " a".repeat(99), 6);
    Check.due("words", 199, () -> words.ofPage(0, 9));
    Pagegarden most = new Pagegarden();
    Gardens.plant(most, 0, "=a" + " a".repeat(99));
    Gardens.draft(most, "a ".repeat(99) + "a");
    most.writeSection(0, 0);
    Check.due("200 words", 200, () -> most.ofPage(0, 9));
    Check.due("sound", true, most::isSound);
  }

  private static Pagegarden full(String ahead, String behind, int nodes) {
    Pagegarden g = new Pagegarden();
    g.plant(0);
    Gardens.makeLong(g, 0, ahead, behind);
    Check.due("400 signs", 400, () -> g.ofPage(0, 1));
    Check.due("nodes", nodes, () -> g.ofPage(0, 7));
    Check.due("all of it is in the page", 400, () -> g.node(0, 0, 3));
    Check.due("sound", true, g::isSound);
    return g;
  }

  private static void wrongInputs() {
    Pagegarden g = new Pagegarden();
    Gardens.plant(g, 0, "ab");
    Check.noIndex("ofPage no page first", g, () -> g.ofPage(1, 16));
    Check.noIndex("ofPage page -1", g, () -> g.ofPage(-1, 0));
    Check.noArgument("ofPage 16", g, () -> g.ofPage(0, 16));
    Check.noArgument("ofPage -1", g, () -> g.ofPage(0, -1));
    Check.noIndex("node of no page", g, () -> g.node(1, 0, 0));
    Check.noIndex("no such node first", g, () -> g.node(0, 3, 5));
    Check.noIndex("node -1", g, () -> g.node(0, -1, 0));
    Check.noArgument("node what 5", g, () -> g.node(0, 2, 5));
    Check.noArgument("node what -1", g, () -> g.node(0, 2, -1));
    Check.noIndex("nodeText of no page", g, () -> g.nodeText(1, 0));
    Check.noIndex("nodeText of no node", g, () -> g.nodeText(0, 3));
    Check.noIndex("nodeText -1", g, () -> g.nodeText(0, -1));
    Check.noIndex("nodeText of a great number", g, () -> g.nodeText(0, Integer.MAX_VALUE));
  }
}

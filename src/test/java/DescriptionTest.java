/** What the document says ahead of its promises, sentence by sentence. */
public final class DescriptionTest {
  private static final Check.Past NOTHING = g -> { };

  public static void main(String[] args) {
    whatItIs();
    numbers();
    signsWordsNames();
    pages();
    lines();
    bodies();
    marksWithNames();
    otherMarks();
    trees();
    sections();
    leading();
    sets();
    ranks();
    shownLines();
    shownNodes();
    shownStyles();
    shownParts();
    kept();
    versions();
    joins();
    users();
    Check.end("DescriptionTest");
  }

  private static void whatItIs() {
    Walk.from("# Pagegarden");
    Walk.reads("# Pagegarden ## What it is");
    Walk.says("A garden of pages that name each other.");
    Walk.is("10", Walk.pages("[ba]", "[ab]"), g -> "" + g.link(0, 0) + g.link(1, 0));
    Walk.says("Each page has a text with marks, which is read into a tree: heads, lists in lists, "
        + "tables, quotes, marks that cross, code, links with other words, pages in pages with "
        + "places and defaults, notes, kinds, and pages that only lead on.");
    Walk.tree("0(6<@ba\n> 1(2(10<a>) 3(10<b> 3(10<c>)) 5(9(10<d>) 9(10<e>)) 4(10<f>) "
        + "8(11<'> 12<_> 11<'> 12<_>) 8(13<`a`> 14<[ba|b]> 15<{ba|c}> 16<{0|d}> 17<(e)> 18<#f>)))",
        "@ba\n=a\n*b\n**c\n|d|e\n>f\n'_'_\n`a`[ba|b]{ba|c}{0|d}(e)#f");
    Walk.says("Links follow a page that is renamed; sections are edited alone; edits are joined "
        + "three ways; every version can be made again; one asks who wrote which word, what links "
        + "here, who leads nowhere, how pages rank, and for the shortest walk.");
    Walk.is("[cad]", Walk.pages("[ba]", ""), g -> {
      g.rename(1, 2);
      return Gardens.text(g, 0);
    });
    Walk.is("=a\n=c", Walk.drafted(Walk.pages("=a\n=b"), "=c"), g -> {
      g.writeSection(0, 2);
      return Gardens.text(g, 0);
    });
    Walk.is("d\nb\ne", Walk.drafted(Walk.versions("a\nb\nc", "a\nb\ne"), "d\nb\nc"), g -> {
      g.writeOver(0, 0);
      return Gardens.text(g, 0);
    });
    Walk.is("a", Walk.versions("a", "b"), g -> {
      g.restore(0, 0);
      return Gardens.text(g, 0);
    });
    Walk.is("0 1 2 1/2 ab>ba", Walk.pages("[ba]ab", ""), g -> g.writer(0, 1) + " " + g.sets(1, 1)
        + " " + g.all(2) + " " + g.rank(0, 0) + " " + g.walk(0, 1));
    Walk.says("An object is used for at most 512 calls after it has been made; what later calls "
        + "answer is free.");
    Walk.is(512, g -> {
      for (int i = 1; i < 512; i++) {
        g.knock();
      }
    }, g -> g.knock());
    Walk.reads("## The public face");
    // FaceTest compares it.
    Walk.from("## Description");
  }

  private static void numbers() {
    Walk.reads("## Description");
    Walk.says("Whole numbers.");
    Walk.is("1/3", Walk.pages("", "", ""), g -> g.rank(0, 0));
    Walk.says("NONE is -1.");
    Walk.is(-1, NOTHING, g -> g.byName(0));
    Walk.is(-1, Walk.pages("[ba]"), g -> g.link(0, 0));
    Walk.is(-1, Walk.pages(""), g -> g.near(0, true));
    Walk.is(-1, Walk.pages(""), g -> g.ofPage(0, 10));
    Walk.is(-1, NOTHING, g -> g.allow(0, 0, 1));
    Walk.says("REFUSED is -9, where a method names it: what is told so is counted, ever, and "
        + "nothing else changes (an exception goes ahead of it).");
    Check.Past mayNot = Walk.drafted(Walk.pages("ab"), "ba");
    Walk.refused(Walk.then(mayNot, g -> g.allow(0, 0, 1)), g -> g.write(0), g -> g.plant(1));
    Walk.throwing("IndexOutOfBoundsException", Walk.then(mayNot, g -> g.allow(0, 0, 1)),
        g -> g.write(1));
    Walk.is(2, Walk.pages(""), g -> {
      g.see(0, 0);
      g.see(1, 0);
      g.uproot(0);
      g.reload();
      return g.garden(2);
    });
    Walk.says("A set of pages is the sum of 2^k for each number k in it.");
    Walk.is(1 + 4 + 2048, g -> {
      Walk.pages("", "", "", "", "", "", "", "", "", "", "", "").of(g);
      for (int page : new int[] {1, 3, 4, 5, 6, 7, 8, 9, 10}) {
        g.uproot(page);
      }
    }, g -> g.all(0));
    Walk.is(0, NOTHING, g -> g.all(0));
    Walk.says("X by X is by rising numbers; by NAMES is by rising NAMES.");
    Check.Past upside = g -> {
      Gardens.plant(g, 1, "=b\n[cad]\n=a");
      Gardens.plant(g, 0, "[cad]");
      Gardens.plant(g, 2, "");
    };
    Walk.is("1 b\n2 a\n", upside, g -> g.contents(0));
    Walk.is("102", upside, g -> "" + g.byName(0) + g.byName(1) + g.byName(2));
    Walk.is("%ab 1\n[cad]\n%ba 3\n=b\n[cad]\n=a\n%cad 1\n\n", upside, g -> g.exported());
    Walk.says("Of two texts the lesser one is that with the lesser sign at the first place at "
        + "which they differ, or the beginning of the other one; \"/\" is less than all LETTERS.");
    // "b/ab" "ba" "a/ba" "ab" "a/b/jig" "a/ab"
    Check.Past names = g -> {
      for (int name : new int[] {20, 1, 11, 0, 39, 10}) {
        g.plant(name);
      }
    };
    Walk.is("542301", names, g -> "" + g.byName(0) + g.byName(1) + g.byName(2) + g.byName(3)
        + g.byName(4) + g.byName(5));
  }

  private static void signsWordsNames() {
    Walk.reads("== 1. Signs, words, names");
    Walk.says("SIGNS, by their numbers from 0 on: the LETTERS \"a\" to \"j\", \"/\", the blank, "
        + "the LINE END (the line feed), and = * > | ' _ ` [ ] { } ( ) # @ 0 1 2.");
    Walk.is("abcdefghij/ \n=*>|'_`[]{}()#@012", g -> {
      for (int sign = 0; sign <= 30; sign++) {
        g.type(sign);
      }
    }, g -> g.draft());
    Walk.says("WORDS 0 to 9: ab ba cad deaf egg fig gab hid ice jig.");
    Walk.is("ab ba cad deaf egg fig gab hid ice jig", g -> {
      for (int word = 0; word <= 9; word++) {
        g.add(0, word, -1);
      }
    }, g -> g.draft());
    Walk.says("PREFIXES 0 to 3: \"\", \"a/\", \"b/\", \"a/b/\".");
    Walk.is("[ab][a/ab][b/ab][a/b/ab]", g -> {
      for (int prefix = 0; prefix <= 3; prefix++) {
        g.add(9, 10 * prefix, -1);
      }
    }, g -> g.draft());
    Walk.says("NAMES 0 to 39: NAME n is the PREFIX n / 10 (rounded down) and the WORD n % 10 "
        + "behind it.");
    String[] words = {"ab", "ba", "cad", "deaf", "egg", "fig", "gab", "hid", "ice", "jig"};
    String[] prefixes = {"", "a/", "b/", "a/b/"};
    for (int n = 0; n < 40; n++) {
      int name = n;
      Walk.is(prefixes[n / 10] + words[n % 10], g -> g.plant(name), g -> g.walk(0, 0));
    }
    Walk.says("A NAMING text has one sign at least, and only LETTERS and \"/\".");
    Walk.tree("0(8(14<[a]> 14<[/]> 14<[a/b/jig]> 14<[abcdefghij]> 14<[//a]>))",
        "[a][/][a/b/jig][abcdefghij][//a]");
    for (String none : new String[] {"[]", "[0]", "[a b]", "[a=]", "[*]"}) {
      Walk.tree("0(8(10<" + none + ">))", none);
    }
    Walk.says("The DRAFT is a text of at most 300 SIGNS (empty at first).");
    Walk.is("", NOTHING, g -> g.draft());
    Check.Past full = g -> Gardens.draft(g, Gardens.words(300));
    Walk.is(300, full, g -> g.garden(6));
    Walk.refused(full, g -> g.add(1, 0, -1));
    Walk.throwing("IllegalStateException", full, g -> g.type(0));
    Walk.says("WORDS in a TEXT: its longest pieces of LETTERS.");
    // "a", "abba", "cad", "ab", "c", "d", "jig"
    Check.Past pieces = Walk.pages("a abba/cad`ab`c0d\n#jig");
    Walk.is(7, pieces, g -> g.ofPage(0, 9));
    Walk.is("101", pieces, g -> "" + g.find(0) + g.find(1) + g.find(2));
    Walk.is(0, Walk.pages("/ \n=*>|'_`[]{}()#@012"), g -> g.ofPage(0, 9));
  }

  private static void pages() {
    Walk.says("PAGES: at most 12, numbered from 0; a new one gets the smallest number that is "
        + "free.");
    Check.Past twelve = Walk.pages("", "", "", "", "", "", "", "", "", "", "", "");
    Walk.throwing("IllegalStateException", twelve, g -> g.plant(12), g -> g.split(0, 0, 12));
    Walk.is(0, NOTHING, g -> g.plant(39));
    Walk.is(11, Walk.then(twelve, g -> g.uproot(11)), g -> g.plant(12));
    Walk.is(3, g -> {
      twelve.of(g);
      g.uproot(8);
      g.uproot(3);
      g.uproot(5);
    }, g -> g.plant(12));
    Walk.says("Each has a NAME, which no other one has, and a TEXT of at most 400 SIGNS.");
    Walk.throwing("IllegalStateException", Walk.pages("", ""), g -> g.plant(1),
        g -> g.rename(0, 1), g -> g.split(0, 0, 1));
    Check.Past both = Walk.pages(Gardens.words(200), Gardens.words(199));
    Walk.is(400, Walk.then(both, g -> g.merge(0, 1)), g -> g.ofPage(0, 1));
    Walk.refused(g -> {
      both.of(g);
      Gardens.write(g, 1, Gardens.words(200));
    }, g -> g.merge(0, 1));
  }

  private static void lines() {
    Walk.reads("== 2. What a text is");
    Walk.says("LINES: what is between two LINE ENDS (also ahead of the first and behind the last "
        + "one; a TEXT without any is one LINE).");
    String[] texts = {"", "ab", "\n", "ab\n", "\nab", "ab\nba", "\nab\n\n"};
    int[] many = {1, 1, 2, 2, 2, 2, 4};
    for (int i = 0; i < texts.length; i++) {
      Walk.is(many[i], Walk.pages(texts[i]), g -> g.ofPage(0, 2));
    }
    Walk.says("A LINE is: EMPTY, if it has no SIGN;");
    Walk.tree("0(7<\n> 7<\n> 7<>)", "\n\n");
    Walk.tree("0(8(10< >))", " ");
    Walk.says("a HEAD of LEVEL 1 to 3, if it begins with so many \"=\" and not one more;");
    Walk.tree("0(1(2(10<a>)) 1(2(10<b=>) 1(2(10< =c>) 1(2(10<a>)))))", "=a\n=b=\n== =c\n===a");
    Walk.tree("0(8(10<====a>) 8(10< =a>) 8(10<a=>))", "====a\n =a\na=");
    Walk.is("1 a\n1.1 b\n1.1.1 c\n", Walk.pages("=a\n==b\n===c\n====d"), g -> g.contents(0));
    Walk.says("an ITEM of DEPTH 1 to 3, likewise with \"*\";");
    Walk.tree("0(3(10<a> 3(10<b> 3(10<c*>))))", "*a\n**b\n***c*");
    Walk.tree("0(8(10<****a>) 8(10< *a>) 8(10<a*>))", "****a\n *a\na*");
    Walk.shown("- a\n-- b\n--- c\n****d\n", "*a\n**b\n***c\n****d");
    Walk.says("a QUOTE, if it begins with \">\";");
    Walk.tree("0(4(10<a>) 4(10<>b>) 4<>>)", ">a\n>>b\n>");
    Walk.says("a ROW, if it begins with \"|\";");
    Walk.tree("0(5(9(10<a>)) 8(10<a|>))", "|a\na|");
    Walk.says("a REDIRECT, if it is the first LINE and is \"@\" and a NAMING text;");
    Walk.tree("0(6<@ab\n> 8(10<@ab>))", "@ab\n@ab");
    Walk.tree("0(6<@//>)", "@//");
    for (String none : new String[] {"@", "@ab ", "@a=b", "@0", " @ab"}) {
      Walk.tree("0(8(10<" + none + ">))", none);
    }
    Walk.says("otherwise PLAIN.");
    Walk.tree("0(8(10<a>) 8(10<0>) 8(10<]>) 8(10<@a>))", "a\n0\n]\n@a");
    Walk.says("Its BODY is what comes behind these signs (of PLAIN all of it; of REDIRECT and "
        + "EMPTY there is none).");
    Walk.tree("0(6<@ab\n> 1(2(10< a>) 7<\n> 3(10< b>) 4(10< c>) 5(9(10< d>)) 8(10< e>)))",
        "@ab\n= a\n\n* b\n> c\n| d\n e");
    Walk.says("The BODY of a ROW is parted at each \"|\" into CELLS (one at least).");
    Walk.tree("0(5(9<>) 5(9<> 9<>) 5(9(10<a>) 9(10<b>) 9<>))", "|\n||\n|a|b|");
  }

  private static void bodies() {
    Walk.says("A BODY, or a CELL, is read from the left.");
    Walk.tree("0(8(13<`a`> 10<b`>) 5(9(13<`c`> 10<d`>)))", "`a`b`\n|`c`d`");
    Walk.tree("0(8(10<[a> 17<(])> 10<b>))", "[a(])b");
    Walk.tree("0(5(9(10<[ab>) 9(10<a]>)))", "|[ab|a]");
    Walk.says("At each place is the first of these that can be:");
    // Neither begins where the other one is already.
    Walk.tree("0(8(13<`[ab]`> 14<[ab|`a`]> 17<({0})> 16<{0|(a)}> 18<#a> 11<'>))",
        "`[ab]`[ab|`a`]({0}){0|(a)}#a'");
    Walk.says("CODE, from \"`\" to the next \"`\";");
    Walk.tree("0(8(13<``> 13<`'_#a`> 10<`>) 8(10<`>))", "```'_#a``\n`");
    Walk.says("a LINK, from \"[\" to the next \"]\", if between there is no \"[\", and it is a "
        + "NAMING text, or such one, \"|\" and words (perhaps without a SIGN; with \"|\" in them, "
        + "too);");
    Walk.tree("0(8(14<[ab]> 14<[a|]> 14<[/|b c|{0}`|]> 10<]>))", "[ab][a|][/|b c|{0}`|]]");
    Walk.tree("0(8(10<[> 14<[ab]>) 8(10<[ab|> 14<[ab]> 10<]>))", "[[ab]\n[ab|[ab]]");
    Walk.tree("0(8(10<[]>) 8(10<[|a]>) 8(10<[a |b]>) 8(10<[0]>) 8(10<[ab>))",
        "[]\n[|a]\n[a |b]\n[0]\n[ab");
  }

  private static void marksWithNames() {
    Walk.says("a PLACE or a PART, from \"{\" to the next \"}\", if between there is no \"{\":");
    Walk.tree("0(8(16<{0}> 15<{a}> 10<}>) 8(10<{> 16<{1}>) 8(10<{a|> 15<{b}> 10<}>) 8(10<{a>))",
        "{0}{a}}\n{{1}\n{a|{b}}\n{a");
    Walk.says("a PLACE, if it is one digit 0 to 2, or that, \"|\" and a default (likewise);");
    Walk.tree("0(8(16<{0}> 16<{1}> 16<{2}> 16<{0|}> 16<{1|a b}> 16<{2||[ab]|}>))",
        "{0}{1}{2}{0|}{1|a b}{2||[ab]|}");
    Walk.tree("0(8(10<{00}>) 8(10<{0a}>) 8(10<{ 0}>))", "{00}\n{0a}\n{ 0}");
    Walk.says("a PART, if it is a NAMING text, or such one, and \"|\" and an argument once or "
        + "oftener (an argument has no \"|\", perhaps no SIGN);");
    Walk.tree("0(8(15<{ab}> 15<{/}> 15<{a|}> 15<{a|b c}> 15<{a|0|[ab]||}>))",
        "{ab}{/}{a|}{a|b c}{a|0|[ab]||}");
    Walk.tree("0(8(10<{}>) 8(10<{|a}>) 8(10<{a0}>) 8(10<{a |b}>))", "{}\n{|a}\n{a0}\n{a |b}");
    Walk.shown("a=bc==\n", "{ba|a|bc|}", "{0}={1}={2|d}=");
  }

  private static void otherMarks() {
    Walk.says("a NOTE, from \"(\" to the next \")\", if between there is no \"(\";");
    Walk.tree("0(8(17<()> 17<(a [ab])> 10<)>) 8(10<(> 17<(a)>) 8(10<(a>))",
        "()(a [ab]))\n((a)\n(a");
    Walk.says("a KIND, \"#\" and all LETTERS behind it (one at least);");
    Walk.tree("0(8(18<#a> 18<#abcj> 10</b>) 8(10<#> 18<#a>) 8(10<# a>) 8(10<#>))",
        "#a#abcj/b\n##a\n# a\n#");
    Walk.says("BOLD \"'\"; ITALIC \"_\".");
    Walk.tree("0(8(11<'> 11<'> 12<_> 10<a> 11<'> 12<_> 12<_>))", "''_a'__");
    Walk.says("What is none of these is TEXT, as long a piece as can be.");
    Walk.tree("0(8(10<a]}) 012=*>|/@[b{c(d#> 11<'> 10<`ab>))", "a]}) 012=*>|/@[b{c(d#'`ab");
  }

  private static void trees() {
    Walk.says("The TREE: the PAGE; in it LINES, ITEMS and SECTIONS.");
    Walk.tree("0(8(10<a>) 3(10<b>) 1(2(10<c>)))", "a\n*b\n=c");
    Walk.says("A SECTION begins at a HEAD and has all up to the next HEAD of the same LEVEL or a "
        + "lesser one (so SECTIONS of greater LEVELS are in it); the HEAD is the first in it.");
    Walk.tree("0(1(2(10<a>) 8(10<b>) 7<\n>) 1(2(10<c>)))", "=a\nb\n\n=c");
    Walk.tree("0(1(2(10<a>) 1(2(10<b>) 1(2(10<c>)) 1(2(10<d>))) 1(2(10<e>))) 1(2(10<f>)))",
        "=a\n==b\n===c\n===d\n==e\n=f");
    Walk.tree("0(1(2(10<a>)) 1(2(10<b>) 1(2(10<c>))))", "==a\n=b\n===c");
    Walk.says("An ITEM has in it what its BODY is, then the ITEMS of greater DEPTH that come "
        + "right behind it, up to the first LINE that is none, or an ITEM of the same DEPTH or "
        + "less.");
    Walk.tree("0(3(10<a> 11<'> 3(10<b>) 3(10<c> 3(14<[d]>)) 3(10<e>)) 3(10<f>))",
        "*a'\n***b\n**c\n***[d]\n**e\n*f");
    Walk.tree("0(3(10<a>) 3(10<b>) 3(10<c>))", "***a\n**b\n*c");
    for (String between : new String[] {"", "b", ">", "|", "===", "****"}) {
      Walk.is(1, Walk.pages("*a\n" + between + "\n**c"), g -> g.node(0, 1, 2));
    }
    Walk.says("Other LINES have in them what their BODY is, a ROW its CELLS, and these what they "
        + "are.");
    Walk.tree("0(6<@ab\n> 8(10<a> 11<'>) 4(14<[ab]>) 5(9(13<`b`> 10<c>) 9(17<()>)) 7<\n> "
        + "1(2(18<#d> 16<{0}>)))", "@ab\na'\n>[ab]\n|`b`c|()\n\n=#d{0}");
    Walk.says("NODES are numbered as they come: each one, then what is in it.");
    // Page, section, head, text, item, text, item, text, row, cell, bold, cell.
    Check.Past some = Walk.pages("=a\n*b\n**c\n|'|");
    Walk.is("0 1 2 10 3 10 3 10 5 9 11 9", some, g -> nodes(g, 0));
    Walk.is("0 1 2 3 2 3 3 4 2 3 4 3", some, g -> nodes(g, 1));
    Walk.says("Their KINDS: 0 PAGE, 1 SECTION, 2 HEAD, 3 ITEM, 4 QUOTE, 5 ROW, 6 REDIRECT, "
        + "7 EMPTY, 8 PLAIN, 9 CELL, 10 TEXT, 11 BOLD, 12 ITALIC, 13 CODE, 14 LINK, 15 PART, "
        + "16 PLACE, 17 NOTE, 18 KIND.");
    Walk.is("0 6 7 8 10 11 12 13 14 15 16 17 18 1 2 3 4 5 9",
        Walk.pages("@a\n\na'_`a`[a]{a}{0}(a)#a\n=\n*\n>\n|"), g -> nodes(g, 0));
    Walk.says("WRITTEN, a NODE is all SIGNS that it has, a LINE with its LINE END (the last one "
        + "has none), an ITEM with those in it, a ROW with the \"|\" ahead of each CELL.");
    Walk.is("=a\n*b\n**c\n|'|;=a\n*b\n**c\n|'|;=a\n;a;*b\n**c\n;b;**c\n;c;|'|;';';", some, g -> {
      StringBuilder told = new StringBuilder();
      for (int nth = 0; nth < 11; nth++) {
        told.append(g.nodeText(0, nth)).append(';');
      }
      return told.append(g.nodeText(0, 11)).toString();
    });
    Walk.is("\n", Walk.pages("\n"), g -> g.nodeText(0, 1) + g.nodeText(0, 2));
  }

  private static String nodes(Pagegarden g, int what) {
    StringBuilder told = new StringBuilder();
    int many = g.ofPage(0, 7);
    for (int nth = 0; nth < many; nth++) {
      told.append(nth > 0 ? " " : "").append(g.node(0, nth, what));
    }
    return told.toString();
  }

  private static void sections() {
    Walk.says("Sections are numbered: 0 is all LINES ahead of the first HEAD (perhaps none), k is "
        + "that which begins at the k-th HEAD.");
    Walk.is("a\n;==b\nc\n===d;===d;=e\n", Walk.pages("a\n\n==b\nc\n===d\n=e\n"),
        g -> g.section(0, 0) + ";" + g.section(0, 1) + ";" + g.section(0, 2) + ";"
            + g.section(0, 3));
    Walk.is("", Walk.pages("=a"), g -> g.section(0, 0));
    Walk.is("a\nb", Walk.pages("a\nb"), g -> g.section(0, 0));
    Walk.says("The PATH of a HEAD of LEVEL l: for each LEVEL from 1 to l how many HEADS of it "
        + "there were since the last HEAD of a LEVEL less than that one (this one, too; perhaps "
        + "0), with \".\" between.");
    Walk.is("0.0.1 \n0.1 \n0.1.1 \n0.1.2 \n0.2 \n1 \n1.0.1 \n1.1 \n2 \n2.1 \n2.2 \n2.2.1 \n",
        Walk.pages("===\n==\n===\n===\n==\n=\n===\n==\n=\n==\n==\n==="), g -> g.contents(0));
  }

  private static void leading() {
    Walk.reads("== 3. Links, redirects");
    Walk.says("LINKS of a page: those of its TREE, in their order.");
    Check.Past some = Walk.pages("=[ba]\n`[ab]`*[cad|a]\n|[ba|b]|[cad]\n*[ba]", "", "");
    Walk.is(4, some, g -> g.ofPage(0, 5));
    Walk.is("1221", some, g -> "" + g.link(0, 0) + g.link(0, 1) + g.link(0, 2) + g.link(0, 3));
    Walk.says("A NAMING text LEADS to the page that has it as its NAME;");
    Walk.is(1, g -> {
      Gardens.plant(g, 0, "[a/b/jig]");
      Gardens.plant(g, 39, "");
    }, g -> g.link(0, 0));
    Walk.says("if that has a REDIRECT, on to where that LEADS, and so on;");
    Walk.is("333", Walk.pages("@ba", "@cad\n[ab]", "@deaf", "[ba]"),
        g -> "" + g.ofPage(0, 10) + g.ofPage(1, 10) + g.link(3, 0));
    Walk.says("to NONE, if there is no such page, or a page comes again.");
    Walk.is(-1, Walk.pages("[ba]"), g -> g.link(0, 0));
    Walk.is(-1, Walk.pages("[a]"), g -> g.link(0, 0));
    Walk.is(-1, Walk.pages("[ba]", "@cad"), g -> g.link(0, 0));
    Walk.is(-1, Walk.pages("@ab"), g -> g.ofPage(0, 10));
    Walk.is("-1-1", Walk.pages("[ba]", "@cad", "@ba\n[ab]"), g -> "" + g.link(0, 0)
        + g.ofPage(2, 10));
    // The page with the link is not among them.
    Walk.is(0, Walk.pages("[ba]", "@ab"), g -> g.link(0, 0));
    Walk.says("LINKS lead to pages so.");
    Walk.is(2, Walk.pages("[ba|a]", "@cad", ""), g -> g.link(0, 0));
  }

  private static void sets() {
    Walk.says("A page LEADS TO another one, if a LINK of it, or its REDIRECT, does (not to "
        + "itself).");
    // By a link, by its redirect, by both, only to itself, by a part, by a link through another.
    Check.Past some = Walk.pages("[cad]", "@cad", "@deaf\n[ab]", "[deaf]", "{ab}", "[ba]");
    Walk.is("8 8 9 0 0 8", some, g -> g.sets(0, 0) + " " + g.sets(1, 0) + " " + g.sets(2, 0) + " "
        + g.sets(3, 0) + " " + g.sets(4, 0) + " " + g.sets(5, 0));
    Walk.says("HERE of a page: all pages that LEAD TO it.");
    Walk.is("4 0 39", some, g -> g.sets(0, 1) + " " + g.sets(1, 1) + " " + g.sets(3, 1));
    Walk.is(4, some, g -> g.ofPage(3, 11));
    Walk.says("DEAD END: a page that LEADS TO none;");
    Walk.is(8 + 16, some, g -> g.all(2));
    Walk.is("01", some, g -> "" + g.ofPage(2, 13) + g.ofPage(3, 13));
    Walk.says("ORPHAN: one to which none LEADS.");
    Walk.is(2 + 4 + 16 + 32, some, g -> g.all(1));
    Walk.is("01", some, g -> "" + g.ofPage(0, 12) + g.ofPage(1, 12));
    Walk.says("ISLAND of a page: it, and all pages that LEAD TO, or are LED TO by, one that is in "
        + "it.");
    Walk.is("47 16", some, g -> g.sets(0, 2) + " " + g.sets(4, 2));
    Walk.is("15 15", Walk.pages("[ba]", "", "[ba][deaf]", ""), g -> g.sets(0, 2) + " "
        + g.sets(3, 2));
    Walk.says("A WALK: from a page to one that it LEADS TO, and so on.");
    Check.Past line = Walk.pages("[ba]", "[cad]", "[deaf]", "");
    Walk.is("ab>ba>cad>deaf", line, g -> g.walk(0, 3));
    Walk.is("", line, g -> g.walk(3, 0));
    Walk.says("CLOSED of a page: all pages to which WALKS lead from it, and itself.");
    Walk.is("15 14 12 8", line, g -> g.sets(0, 3) + " " + g.sets(1, 3) + " " + g.sets(2, 3) + " "
        + g.sets(3, 3));
    Walk.is("7 7 7", Walk.pages("[ba]", "[cad]", "[ab]"), g -> g.sets(0, 3) + " " + g.sets(1, 3)
        + " " + g.sets(2, 3));
  }

  private static void ranks() {
    Walk.says("RANK 0 of each of n pages is 1 / n.");
    for (int n = 1; n <= 12; n++) {
      String[] texts = new String[n];
      for (int i = 0; i < n; i++) {
        texts[i] = i == 0 ? "[ba]" : "";
      }
      int last = n - 1;
      Walk.is("1/" + n, Walk.pages(texts), g -> g.rank(last, 0));
    }
    Walk.says("RANK t + 1 of a page: the sum, over all that LEAD TO it, of RANK t of that one "
        + "through how many it LEADS TO;");
    // 1/4 each; then 1/4 + 1/8, 1/4 / 2, 1/4 + 1/4, 0.
    Check.Past ring = Walk.pages("[cad]", "[cad]", "[ab]", "[ab][ba]");
    Walk.is("3/8 1/8 1/2 0/1", ring, g -> ranks(g, 4, 1));
    Walk.is("1/2 0/1 1/2 0/1", ring, g -> ranks(g, 4, 2));
    Walk.says("and the sum of RANK t of all DEAD ENDS through n.");
    // 1/3 each; of both ends 2/3 / 3 to all, and 1/3 to the second one.
    Check.Past ends = Walk.pages("[ba]", "", "");
    Walk.is("2/9 5/9 2/9", ends, g -> ranks(g, 3, 1));
    // 7/27 to all, and 2/9 to the second one.
    Walk.is("7/27 13/27 7/27", ends, g -> ranks(g, 3, 2));
  }

  private static String ranks(Pagegarden g, int pages, int steps) {
    StringBuilder told = new StringBuilder();
    for (int page = 0; page < pages; page++) {
      told.append(page > 0 ? " " : "").append(g.rank(page, steps));
    }
    return told.toString();
  }

  private static void shownLines() {
    Walk.reads("== 4. Shown");
    Walk.says("SHOWN is LINE by LINE of a page, with a LINE END behind each:");
    Walk.shown("a\nb\n", "a\nb");
    Walk.shown("a\n\n", "a\n");
    Walk.says("EMPTY nothing;");
    Walk.shown("\n", "");
    Walk.shown("\na\n\n", "\na\n");
    Walk.says("a HEAD its PATH, a blank, and its BODY;");
    Walk.shown("0.1 a\n1 \n1.1  b?\n", "==a\n=\n== [b]");
    Walk.says("an ITEM as many \"-\" as its DEPTH, a blank, and its BODY;");
    Walk.shown("- a\n--- \n--  ab\n", "*a\n***\n** [ab]");
    Walk.says("a QUOTE \"> \" and its BODY;");
    Walk.shown("> a\n> \n> >ab\n", ">a\n>\n>>[ab]");
    Walk.says("a ROW its CELLS with \" | \" between two;");
    Walk.shown("a\n | a |  | \nab | b\n", "|a\n||a||\n|[ab]|`b`");
    Walk.says("a REDIRECT as it is;");
    Walk.shown("@a//b\n@c\n", "@a//b\n@c");
    Walk.says("PLAIN its BODY.");
    Walk.shown("a ab\n====b\n", "a [ab]\n====b");
    Walk.says("Behind all, for each NOTE, \"^\", its number (from 1 on, as they come), \": \" and "
        + "what is in it, and a LINE END.");
    Walk.shown("a^1\n1 ^2b^3\n^1: c\n^2: \n^3: d [ab]'\n", "a(c)\n=()b(d [ab]')");
  }

  private static void shownNodes() {
    Walk.says("A BODY is shown NODE by NODE: TEXT as it is;");
    Walk.shown("a 0]=*/\n", "a 0]=*/");
    Walk.says("CODE what is in it;");
    Walk.shown("'_[b](\n\n", "`'_[b](`\n``");
    Walk.says("a LINK its words (nothing, if they are without a SIGN), or the NAMING text, if no "
        + "words are told, and behind either \"?\", if it LEADS to NONE;");
    Walk.shown("ab ba? a?\n", "[ab] [ba] [a]");
    Walk.shown(" ? a|'b c?\n", "[ab|] [ba|] [ab|a|'b] [ba|c]");
    Walk.shown("ba? cad? deaf\n", "[ba] [cad] [deaf]", "@cad", "@ba", "@ab");
    Walk.says("a KIND nothing;");
    Walk.shown("a b\n", "a#c b#d");
    Walk.says("a NOTE \"^\" and its number;");
    Walk.shown("^1a^2\n^1: \n^2: b\n", "()a(b)");
  }

  private static void shownStyles() {
    Walk.says("BOLD and ITALIC: \"<\", the STYLE then, \">\" (STYLE: 1 if BOLD came an odd number "
        + "of times in this LINE so far, and 2 more if ITALIC did);");
    Walk.shown("<1>a<0>b<2>c<0>\n", "'a'b_c_");
    Walk.shown("<1>a<3>b<2>c<0>d\n", "'a_b'c_d");
    Walk.shown("<1><0><1><3><1><0>\n", "'''__'");
    Walk.shown("a\n<1><0>\n<1><0>\n", "a\n'\n'");
    // The LINE goes on in the next cell; code and notes are none.
    Walk.shown("<1>a | b<3> | '^1<2><0>\n^1: _\n", "|'a|b_|`'`(_)'");
    Walk.says("if the STYLE is not 0 at the end of a LINE, \"<0>\".");
    Walk.shown("<1>a<0>\n1 <2><0>\n> <1><3><0>\n- <1><0>\n", "'a\n=_\n>'_\n*''");
    Walk.says("A PLACE its default, or nothing.");
    Walk.shown("a|b'0\n", "{0}{1|a|b'}{2|}0");
  }

  private static void shownParts() {
    Walk.says("A PART: \"?\", if its NAMING text LEADS to NONE;");
    Walk.shown("a??\n", "a{ba}{a|b}");
    Walk.shown("?\n", "{ba}", "@cad", "@ba");
    Walk.says("otherwise \"!\", if it is in that page already (the page that is SHOWN, or a PART "
        + "through which one came here), or in a PART in a PART in a PART, or if 12 PARTS (those "
        + "that it is in counted) were put in;");
    Walk.shown("!a!\n", "{ab}{ba}", "a{ab}");
    Walk.shown("a!b\n", "{ba}", "a{cad}b", "{ba}");
    Walk.shown("!\n", "{ba}", "@ab");
    Walk.shown("aa\n", "{ba}{ba}", "a");
    Walk.shown("abcd!dcba\n", "a{ba}a", "b{cad}b", "c{deaf}c", "d{egg}d", "e");
    Walk.shown("a".repeat(12) + "!!\n", "{ba}".repeat(14), "a");
    Walk.shown("a".repeat(11) + "b!\n", "{ba}".repeat(11) + "{cad}", "a", "b{ba}");
    Walk.shown("a".repeat(10) + "ba!\n", "{ba}".repeat(10) + "{cad}{ba}", "a", "b{ba}");
    Walk.says("otherwise it is put in: the BODIES of all LINES of that page (of a ROW the CELLS, "
        + "with \" | \" between), with a blank between two, without BOLD and ITALIC, EMPTY ones "
        + "and REDIRECTS left out;");
    Walk.shown("ac d e f | g |  hb\n", "a{ba}b", "=c\n**d'\n\n>e_\n|f|g|\nh\n");
    Walk.shown("a b\n", "a{ba}b", "=\n\n*");
    Walk.shown("ac db\n", "a{ba}b", "@cad\na", "c\nd");
    Walk.shown("<1>a b<0>c\n", "'{ba}'c", "a'_\nb_");
    Walk.shown("b? ab ^1a\n^1: d\n", "{ba}", "[b] [ab]#c\n{0}(d)`a`");
    Walk.says("a PLACE of it is there the argument of that number (0 the first one), if there is "
        + "one.");
    Walk.shown("a=[ab]'=0d=e=f0\n", "{ba|a|[ab]'|}{ba}", "{0|d}={1|e}={2|f}0");
    Walk.shown("bca\n", "{ba|a}", "{cad|b}{0}", "{0}{1|c}");
    Walk.says("(NOTES in it are numbered and told like others.)");
    Walk.shown("^1^2^3\n^4\n^1: a\n^2: b\n^3: c\n^4: d\n", "(a){ba}(c)\n(d)", "(b)");
  }

  private static void kept() {
    Walk.says("KEPT: a page is KEPT as it is SHOWN;");
    Walk.is("0 2 1 2 1", Walk.pages("", ""), g -> {
      int before = g.all(5);
      g.shown(1);
      int then = g.all(5);
      g.shown(1);
      return before + " " + then + " " + g.ofPage(1, 14) + " " + (g.garden(4) + g.garden(5)) + " "
          + g.garden(5);
    });
    Walk.says("at most 4 are, the one that was SHOWN least lately goes first.");
    Check.Past six = Walk.pages("", "", "", "", "", "");
    Walk.is(2 + 4 + 8 + 16, Walk.then(six, g -> shows(g, 0, 1, 2, 3, 4)), g -> g.all(5));
    Walk.is(1 + 4 + 16 + 32, Walk.then(six, g -> shows(g, 0, 1, 2, 3, 0, 2, 4, 5)), g -> g.all(5));
    Walk.says("It is KEPT no more as soon as its TEXT, or that of a page which was put in, becomes "
        + "another one, or a NAMING text that was asked for a page (by a LINK or PART, and by "
        + "each REDIRECT on the way, by itself) would LEAD elsewhere.");
    keptTillATextIsAnotherOne();
    keptTillANameLeadsElsewhere();
  }

  private static void shows(Pagegarden g, int... pages) {
    for (int page : pages) {
      g.shown(page);
    }
  }

  /** Page 0 puts in page 1, page 2 links it, page 3 does neither. */
  private static void keptTillATextIsAnotherOne() {
    Check.Past past = g -> {
      Walk.pages("{ba}", "a\n=b", "[ba]", "").of(g);
      Gardens.write(g, 1, "a\n=c");
      shows(g, 0, 1, 2, 3);
      Gardens.draft(g, "=d");
    };
    Walk.is(15, past, g -> g.all(5));
    Check.Asked[] changes = {
      g -> g.write(1), g -> g.writeOver(1, 1), g -> g.writeSection(1, 1), g -> g.split(1, 1, 9),
      g -> g.undoEdit(1, 1), g -> g.restore(1, 0)
    };
    for (Check.Asked change : changes) {
      Walk.is(4 + 8, past, g -> {
        change.of(g);
        return g.all(5);
      });
    }
    // Both texts become other ones.
    Walk.is(4, past, g -> {
      g.merge(1, 3);
      return g.all(5);
    });
    // The texts of both pages that name page 1, but not its own.
    Walk.is(2 + 8, past, g -> {
      g.rename(1, 5);
      return g.all(5);
    });
    Check.Asked[] none = {
      g -> g.restore(1, 1), g -> g.writeOver(2, 0), g -> g.talk(1), g -> g.plant(7),
      g -> g.rename(1, 1), g -> g.rename(3, 6), g -> g.write(9), g -> g.isSound(), g -> g.digest()
    };
    for (Check.Asked call : none) {
      Walk.is(call == none[1] ? 11 : 15, past, g -> {
        Check.answerOf(() -> call.of(g));
        return g.all(5);
      });
    }
  }

  /** Page 0 asks by a link, page 1 by a part, page 2 by a redirect, page 3 does not. */
  private static void keptTillANameLeadsElsewhere() {
    Check.Past asking = Walk.pages("[jig]", "{jig|a}", "[egg]", "`[jig]`#jig", "@jig");
    Walk.is(8, Walk.then(asking, g -> shows(g, 0, 1, 2, 3)), g -> {
      g.plant(9);
      return g.all(5);
    });
    Check.Past planted = g -> {
      asking.of(g);
      g.plant(9);
      shows(g, 0, 1, 2, 3);
    };
    Walk.is(8, planted, g -> {
      g.uproot(5);
      return g.all(5);
    });
    // "egg" leads there still, but "jig", which its redirect asked for by itself, does not.
    Walk.is("5 8", planted, g -> {
      g.rename(5, 8);
      return g.link(2, 0) + " " + g.all(5);
    });
    // "egg" leads there by another way: all that was asked leads where it did.
    Walk.is("5 15", planted, g -> {
      Gardens.plant(g, 6, "@jig");
      Gardens.write(g, 4, "@gab");
      return g.link(2, 0) + " " + g.all(5);
    });
    Walk.is("4 11", planted, g -> {
      Gardens.write(g, 4, "");
      return g.link(2, 0) + " " + g.all(5);
    });
  }

  private static void versions() {
    Walk.reads("== 5. Versions, joining");
    Walk.says("As a page gets another TEXT than it has, that is its next VERSION (numbered from "
        + "0), by USER;");
    Walk.is("2 ab cad 31", g -> {
      g.login(3);
      Walk.versions("ab", "ba").of(g);
      g.login(1);
      Gardens.write(g, 0, "cad");
    }, g -> g.ofPage(0, 3) + " " + g.text(0, 0) + " " + g.text(0, 2) + " " + g.versionOf(0, 1, 0)
        + g.versionOf(0, 2, 0));
    Walk.says("the last 20 are kept.");
    for (int many : new int[] {20, 21, 45}) {
      String[] texts = new String[many];
      for (int i = 0; i < many; i++) {
        texts[i] = "a".repeat(i % 7 + 1);
      }
      int oldest = many - 20;
      Walk.is(oldest + " 20 " + texts[oldest], Walk.versions(texts),
          g -> g.ofPage(0, 4) + " " + g.garden(7) + " " + g.text(0, oldest));
      Walk.throwing("IllegalArgumentException", Walk.versions(texts),
          g -> g.text(0, oldest - 1));
    }
    Walk.says("(If it is the same TEXT, there is none.)");
    Walk.is("1 1 1", Walk.drafted(Walk.versions("ab", "ba"), "ba"), g -> g.write(0) + " "
        + g.restore(0, 1) + " " + g.ofPage(0, 3));
    Walk.says("WRITERS: of the WORDS of its TEXT, in their order; as a TEXT comes, those WORDS "
        + "that are the same from the beginning on as before, and then those that are the same "
        + "from the end on (none counted twice), keep theirs, the others are by USER (in VERSION "
        + "0 all).");
    writers("111", "a b a");
    writers("112", "a b a", "a b b");
    writers("12111", "a b c d", "a ab b c d");
    writers("1222", "a b c d", "a d c b");
    writers("11", "a b c d", "[a]\nd");
    writers("121", "a a", "a b a");
    writers("112", "a a", "a a a");
    writers("11", "a a a", "a a");
    writers("1231", "a b", "a c b", "a c d b");
    writers("3", "a", "b", "a");
  }

  /** Who wrote which word, if the versions are by USERS 1, 2 and 3. */
  private static void writers(String due, String... texts) {
    Walk.is(due, g -> {
      for (int i = 0; i < texts.length; i++) {
        g.login(i + 1);
        Gardens.draft(g, texts[i]);
        Check.answerOf(i == 0 ? () -> g.plant(0) : () -> g.write(0));
      }
    }, g -> {
      StringBuilder told = new StringBuilder();
      int many = g.ofPage(0, 9);
      for (int nth = 0; nth < many; nth++) {
        told.append(g.writer(0, nth));
      }
      return told.toString();
    });
  }

  private static void joins() {
    Walk.says("JOIN of X and Y over Z: if X is Z, it is Y;");
    join("a\nb", "c", "a\nb", "c");
    join("", "c", "", "c");
    Walk.says("if Y is Z, or is X, it is X.");
    join("c", "a\nb", "a\nb", "c");
    join("c", "c", "a\nb", "c");
    Walk.says("Otherwise, by LINES: X has with Z the first p LINES in common (as many as can be), "
        + "and of the others the last s (as many as can be, none of them twice in either): its "
        + "PIECE of Z are the LINES from p up to, without, how many Z has less s. Y has another "
        + "one.");
    join("d\nb\nc", "a\nb\ne", "a\nb\nc", "d\nb\ne");
    join("a\nd\nb\nc", "a\nb\nf\nc", "a\nb\nc", "a\nd\nb\nf\nc");
    // Over "a a" the third "a" comes behind both: p is 2, and nothing is left for s.
    join("a\na\na", "b\na", "a\na", "b\na\na");
    join("a\na\na", "a\nb", "a\na", null);
    // Of "a a a" that "a" went which is the last one.
    join("a\na", "b\na\na", "a\na\na", "b\na");
    Walk.says("If one PIECE ends ahead of where the other one begins, or just there and neither "
        + "is without LINES, the JOIN is Z with each PIECE in place of which stands what X, or Y, "
        + "has there (without any LINE the empty TEXT).");
    join("d\nb", "a\nc", "a\nb", "d\nc");
    join("b", "a\nc", "a\nb", "c");
    join("b", "a", "a\nb", "");
    join("d\na\nb", "a\nb\nc", "a\nb", "d\na\nb\nc");
    join("d\na\nb", "a\nc", "a\nb", "d\na\nc");
    // Empty lines are LINES, too.
    join("\nb", "a\n", "a\nb", "\n");
    join("\n\n\n", "b\n\n", "\n\n", "b\n\n\n");
    Walk.says("Otherwise it is a QUARREL.");
    join("c", "d", "a", null);
    join("d\na\nb", "c\nb", "a\nb", null);
    join("a\nd\nb", "a\nc\nb", "a\nb", null);
    join("a\nd\nb", "c\nb", "a\nb", null);
    join("a\nb\nd", "a\nc", "a\nb", null);
    join("c\nd", "a\nd", "a\nb", null);
  }

  /** What is joined; null for a QUARREL. It is the same the other way round. */
  private static void join(String x, String y, String z, String due) {
    Walk.is(due == null ? "REFUSED" : due, Walk.drafted(Walk.versions(z, y), x),
        g -> g.writeOver(0, 0) == -9 ? "REFUSED" : Gardens.text(g, 0));
    Walk.is(due == null ? "REFUSED" : due, Walk.drafted(Walk.versions(z, x), y),
        g -> g.writeOver(0, 0) == -9 ? "REFUSED" : Gardens.text(g, 0));
  }

  private static void users() {
    Walk.reads("== 6. Users");
    Walk.says("USERS 0 to 4; USER is 0 at first.");
    Walk.is("0044", NOTHING, g -> "" + g.garden(1) + g.login(4) + g.login(4) + g.garden(1));
    Walk.throwing("IllegalArgumentException", NOTHING, g -> g.login(5), g -> g.login(-1));
    Walk.says("RIGHT of a USER at a NAME: that told for the page with it;");
    Check.Past deep = g -> g.plant(35);
    Walk.is(0, Walk.then(deep, g -> {
      for (int prefix = 0; prefix < 4; prefix++) {
        g.allow(1, prefix, 2);
      }
      g.allowPage(1, 0, 0);
    }), g -> g.right(1, 0));
    Walk.says("otherwise that told for the longest of the PREFIXES with which it begins, for which "
        + "one is told;");
    Walk.is("211000", deep, g -> {
      StringBuilder told = new StringBuilder().append(g.right(1, 0));
      // "b/" is none with which "a/b/fig" begins.
      for (int prefix : new int[] {0, 2, 1, 3}) {
        g.allow(1, prefix, prefix == 0 ? 1 : prefix == 2 ? 2 : 0);
        told.append(g.right(1, 0));
      }
      g.allow(1, 1, 2);
      return told.append(g.right(1, 0)).toString();
    });
    Walk.says("otherwise 2.");
    Walk.is("22", Walk.then(deep, g -> {
      g.allow(0, 0, 0);
      g.allow(1, 2, 0);
    }), g -> "" + g.right(1, 0) + g.right(4, 0));
    Walk.says("With 2 one MAY change it.");
    for (int right = 0; right <= 2; right++) {
      int told = right;
      Walk.is(right == 2 ? 1 : -9, Walk.drafted(Walk.pages(""), "a"), g -> {
        g.allowPage(0, 0, told);
        return g.write(0);
      });
    }
    Walk.says("A USER may WATCH pages; each has SEEN its VERSIONS up to one.");
    Walk.is("2 0 0", Walk.pages("", ""), g -> {
      g.watch(2, 0, true);
      g.watch(3, 0, true);
      g.watch(2, 1, true);
      Gardens.write(g, 0, "a");
      g.see(3, 0);
      Gardens.write(g, 1, "b");
      return g.unseen(2) + " " + g.unseen(3) + " " + g.unseen(4);
    });
    whatHoldsForAll();
  }

  private static void whatHoldsForAll() {
    // BoundsTest asks every method.
    Walk.says("A method that throws an exception changes nothing.");
    Check.Past past = Walk.drafted(Walk.then(Walk.pages("a\n=b", "[ab]"), g -> g.shown(1)), "c");
    Walk.throwing("IllegalArgumentException", past, g -> g.writeSection(0, 2),
        g -> g.restore(0, 1), g -> g.add(0, 0, 10), g -> g.allow(0, 0, 3));
    Walk.says("If several exceptions apply, the one that is named first is thrown.");
    Walk.throwing("IndexOutOfBoundsException", past, g -> g.rename(2, 40), g -> g.split(2, 5, 1),
        g -> g.watch(5, 2, true));
    Walk.throwing("IllegalArgumentException", past, g -> g.split(0, 5, 1));
    Walk.says("If one is REFUSED, the DRAFT stays.");
    Walk.is("-9 c", Walk.then(past, g -> g.allow(0, 0, 0)), g -> g.write(0) + " " + g.draft());
    Walk.reads("The constructor and the methods follow, a promise each: the signature, then what "
        + "it does.");
    Walk.endsAhead("## Promise 1: A new object");
  }
}

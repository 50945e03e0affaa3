/** Promises 11 to 20: planting, writing, renaming, splitting, merging, uprooting, going back. */
public final class PagesTest {
  public static void main(String[] args) {
    plants();
    plantsAtMostTwelve();
    writes();
    writesOver();
    writesSections();
    renames();
    renameIsRefused();
    splits();
    splitIsRefused();
    merges();
    uproots();
    undoesEdits();
    restores();
    Check.end("PagesTest");
  }

  private static void plants() {
    Pagegarden g = new Pagegarden();
    Gardens.draft(g, "ab ba");
    Check.due("plant", 0, () -> g.plant(7));
    Check.due("its name", 7, () -> g.ofPage(0, 0));
    Check.due("its text", "ab ba", () -> g.text(0, 0));
    Check.due("draft is empty", "", g::draft);
    Check.due("plant an empty draft", 1, () -> g.plant(39));
    Check.due("empty text", "", () -> g.text(1, 0));
    g.uproot(0);
    Check.due("the smallest free number", 0, () -> g.plant(0));
    Check.noArgument("plant(-1)", g, () -> g.plant(-1));
    Check.noArgument("plant(40)", g, () -> g.plant(40));
    Check.noState("plant a name again", g, () -> g.plant(39));
    g.allow(0, 2, 1);
    Gardens.draft(g, "cad");
    Check.refused("plant without right", g, () -> g.plant(20));
    g.allow(0, 1, 1);
    Check.noState("a taken name goes ahead of the right", g, () -> g.plant(39));
    Check.due("plant with right", 2, () -> g.plant(1));
  }

  private static void plantsAtMostTwelve() {
    Pagegarden g = new Pagegarden();
    for (int i = 0; i < 12; i++) {
      int name = 3 * i;
      Check.due("plant " + i, i, () -> g.plant(name));
    }
    Check.due("all", 4095, () -> g.all(0));
    Gardens.draft(g, "ab");
    Check.noState("a thirteenth page", g, () -> g.plant(1));
    Check.noArgument("a wrong name goes ahead", g, () -> g.plant(40));
    g.allow(0, 0, 0);
    Check.noState("full goes ahead of the right", g, () -> g.plant(1));
    g.allow(0, 0, 2);
    g.uproot(5);
    Check.due("plant in the gap", 5, () -> g.plant(1));
  }

  private static void writes() {
    Pagegarden g = new Pagegarden();
    g.plant(0);
    Gardens.draft(g, "ab");
    Check.due("write", 1, () -> g.write(0));
    Check.due("draft is empty", "", g::draft);
    Check.due("text", "ab", () -> g.text(0, 1));
    Gardens.draft(g, "ab");
    Check.due("write the same", 1, () -> g.write(0));
    Check.due("draft is empty then, too", "", g::draft);
    Check.due("write nothing", 2, () -> g.write(0));
    Check.due("text is empty", "", () -> g.text(0, 2));
    Gardens.draft(g, "ba");
    Check.noIndex("write no page", g, () -> g.write(1));
    Check.noIndex("write page -1", g, () -> g.write(-1));
    Check.noIndex("write page 12", g, () -> g.write(12));
    g.allowPage(0, 0, 1);
    Check.refused("write without right", g, () -> g.write(0));
    Check.noIndex("no page goes ahead", g, () -> g.write(1));
  }

  private static void writesOver() {
    Pagegarden g = new Pagegarden();
    Gardens.plant(g, 0, "ab\nba\ncad");
    Gardens.write(g, 0, "ab\nba\njig");
    Gardens.draft(g, "fig\nba\ncad");
    Check.due("writeOver", 2, () -> g.writeOver(0, 0));
    Check.due("joined", "fig\nba\njig", () -> g.text(0, 2));
    Check.due("draft is empty", "", g::draft);
    Gardens.draft(g, "ab\negg\njig");
    Check.due("writeOver the next", 3, () -> g.writeOver(0, 1));
    Check.due("joined", "fig\negg\njig", () -> g.text(0, 3));
    Gardens.draft(g, "hid\nba\ncad");
    Check.refused("a quarrel", g, () -> g.writeOver(0, 0));
    Gardens.draft(g, "ab\nba\ncad");
    Check.due("nothing changed over it", 3, () -> g.writeOver(0, 0));
    Check.due("draft is empty then, too", "", g::draft);
    Gardens.draft(g, "a");
    Check.due("over the newest", 4, () -> g.writeOver(0, 3));
    Check.due("it is the draft", "a", () -> g.text(0, 4));
    Check.noIndex("writeOver no page", g, () -> g.writeOver(1, 9));
    Check.noArgument("writeOver no version", g, () -> g.writeOver(0, 5));
    Check.noArgument("writeOver version -1", g, () -> g.writeOver(0, -1));
    g.allowPage(0, 0, 1);
    Check.refused("writeOver without right", g, () -> g.writeOver(0, 4));
    Check.noArgument("no version goes ahead", g, () -> g.writeOver(0, 5));
    writesOverTooMuch();
  }

  private static void writesOverTooMuch() {
    Pagegarden g = new Pagegarden();
    Gardens.plant(g, 0, "ab\nba\ncad");
    Gardens.write(g, 0, "ab\nba\n" + Gardens.words(199));
    Gardens.draft(g, Gardens.words(198) + "\nba\ncad");
    Check.refused("401 signs", g, () -> g.writeOver(0, 0));
    Gardens.draft(g, Gardens.words(197) + "\nba\ncad");
    Check.due("400 signs", 2, () -> g.writeOver(0, 0));
    Check.due("its signs", 400, () -> g.ofPage(0, 1));
  }

  private static Pagegarden sectioned() {
    Pagegarden g = new Pagegarden();
    Gardens.plant(g, 0, "ab\n=ba\ncad\n==egg\nfig\n=gab\nhid");
    return g;
  }

  private static void writesSection(int section, String lines, String due) {
    Pagegarden g = sectioned();
    Gardens.draft(g, lines);
    Check.due("writeSection " + section, 1, () -> g.writeSection(0, section));
    Check.due("text then", due, () -> g.text(0, 1));
    Check.due("draft is empty", "", g::draft);
  }

  private static void writesSections() {
    writesSection(0, "jig\nice", "jig\nice\n=ba\ncad\n==egg\nfig\n=gab\nhid");
    writesSection(0, "", "=ba\ncad\n==egg\nfig\n=gab\nhid");
    writesSection(1, "jig", "ab\njig\n=gab\nhid");
    writesSection(1, "", "ab\n=gab\nhid");
    writesSection(2, "jig\n", "ab\n=ba\ncad\njig\n\n=gab\nhid");
    writesSection(2, "\n", "ab\n=ba\ncad\n\n\n=gab\nhid");
    writesSection(3, "=jig", "ab\n=ba\ncad\n==egg\nfig\n=jig");
    writesSection(3, "", "ab\n=ba\ncad\n==egg\nfig");
    Pagegarden g = new Pagegarden();
    Gardens.plant(g, 0, "=ab");
    Gardens.draft(g, "ba");
    Check.due("ahead of all", 1, () -> g.writeSection(0, 0));
    Check.due("text", "ba\n=ab", () -> g.text(0, 1));
    Check.due("without lines ahead of all", 2, () -> g.writeSection(0, 0));
    Check.due("text", "=ab", () -> g.text(0, 2));
    Check.due("nothing of nothing", 2, () -> g.writeSection(0, 0));
    Check.due("the last lines go", 3, () -> g.writeSection(0, 1));
    Check.due("empty", "", () -> g.text(0, 3));
    Gardens.draft(g, "\n");
    Check.due("the empty text's line", 4, () -> g.writeSection(0, 0));
    Check.due("two lines", "\n", () -> g.text(0, 4));
    Check.due("no lines", 5, () -> g.writeSection(0, 0));
    Check.due("empty", "", () -> g.text(0, 5));
    Gardens.write(g, 0, "\n=ab");
    Check.due("an empty line is left", 7, () -> g.writeSection(0, 1));
    Check.due("empty", "", () -> g.text(0, 7));
    Check.noIndex("writeSection no page", g, () -> g.writeSection(1, 9));
    Check.noArgument("writeSection no section", g, () -> g.writeSection(0, 1));
    Check.noArgument("writeSection -1", g, () -> g.writeSection(0, -1));
    g.allowPage(0, 0, 0);
    Gardens.draft(g, "ab");
    Check.refused("writeSection without right", g, () -> g.writeSection(0, 0));
    Check.noArgument("no section goes ahead", g, () -> g.writeSection(0, 1));
    writesLongSections();
  }

  private static void writesLongSections() {
    Pagegarden g = new Pagegarden();
    Gardens.plant(g, 0, "=" + "a".repeat(200));
    Gardens.draft(g, "b".repeat(199));
    Check.refused("401 signs", g, () -> g.writeSection(0, 0));
    g.rub(1);
    Check.due("400 signs", 1, () -> g.writeSection(0, 0));
    Check.due("its signs", 400, () -> g.ofPage(0, 1));
  }

  private static void renames() {
    Pagegarden g = new Pagegarden();
    Gardens.plant(g, 0, "[ab][ab|ab]{ab|ab}{ab}`[ab]`[ab ab([ab])");
    Gardens.plant(g, 1, "@ab\n@ab[b/ab]");
    Gardens.plant(g, 2, "ab");
    Gardens.plant(g, 3, "[ba]");
    g.login(3);
    g.allow(3, 0, 0);
    g.allow(3, 3, 2);
    g.allowPage(3, 0, 2);
    Gardens.draft(g, "jig");
    Check.due("rename", 5, () -> g.rename(0, 30));
    Check.due("draft stays", "jig", g::draft);
    Check.due("name", 30, () -> g.ofPage(0, 0));
    Check.due("its own text",
        "[a/b/ab][a/b/ab|ab]{a/b/ab|ab}{a/b/ab}`[ab]`[ab ab([ab])", () -> g.text(0, 1));
    Check.due("a redirect", "@a/b/ab\n@ab[b/ab]", () -> g.text(1, 1));
    Check.due("who wrote it", 3, () -> g.versionOf(1, 1, 0));
    Check.due("no new version", 0, () -> g.ofPage(2, 3));
    Check.due("no new version", 0, () -> g.ofPage(3, 3));
    Check.due("it leads on", 0, () -> g.ofPage(1, 10));
    Check.due("a word that came", 3, () -> g.writer(1, 0));
    Check.due("a word that stayed", 0, () -> g.writer(1, 3));
    Check.due("rename back and none names it", 0, () -> {
      g.login(0);
      return g.rename(2, 39);
    });
  }

  private static void renameIsRefused() {
    Pagegarden g = new Pagegarden();
    Gardens.plant(g, 0, "");
    Gardens.plant(g, 1, "[cad]");
    Gardens.draft(g, "ab");
    Check.noIndex("rename no page", g, () -> g.rename(2, 40));
    Check.noArgument("rename to 40", g, () -> g.rename(0, 40));
    Check.noArgument("rename to -1", g, () -> g.rename(0, -1));
    Check.noState("rename to another one's", g, () -> g.rename(0, 1));
    Check.refused("a link names it already", g, () -> g.rename(0, 2));
    Gardens.write(g, 1, "{cad}");
    Check.refused("a part names it already", g, () -> g.rename(0, 2));
    Gardens.write(g, 1, "@cad");
    Check.refused("a redirect names it already", g, () -> g.rename(0, 2));
    Gardens.write(g, 1, "`[cad]`\n@cad");
    Check.due("code names nothing", 0, () -> g.rename(0, 2));
    g.allow(0, 2, 1);
    Check.refused("no right at the new name", g, () -> g.rename(0, 20));
    g.allowPage(0, 0, 1);
    Check.refused("no right at the page", g, () -> g.rename(0, 3));
    Check.due("its own name is nothing", 0, () -> g.rename(0, 2));
    Check.due("and not refused", 5, () -> g.garden(2));
    Check.noState("another one's goes ahead", g, () -> g.rename(0, 1));
    g.allowPage(0, 0, 2);
    Gardens.write(g, 1, "[cad]".repeat(40));
    Check.due("200 signs", 200, () -> g.ofPage(1, 1));
    Check.due("to 400 signs, if 5 come", 40, () -> g.rename(0, 36));
    Check.due("360 signs", 360, () -> g.ofPage(1, 1));
    Pagegarden full = new Pagegarden();
    Gardens.plant(full, 0, "");
    Gardens.plant(full, 1, "[ab]".repeat(66) + "aaa");
    Check.due("267 signs", 267, () -> full.ofPage(1, 1));
    Check.due("66 signs more", 66, () -> full.rename(0, 2));
    Check.due("333 signs", 333, () -> full.ofPage(1, 1));
    Check.due("66 signs more", 66, () -> full.rename(0, 3));
    Check.due("399 signs", 399, () -> full.ofPage(1, 1));
    Check.refused("465 signs", full, () -> full.rename(0, 13));
    Pagegarden exact = new Pagegarden();
    Gardens.plant(exact, 0, "");
    Gardens.plant(exact, 1, "[ab]".repeat(50) + "a".repeat(100));
    Check.due("300 signs", 300, () -> exact.ofPage(1, 1));
    Check.due("400 signs", 50, () -> exact.rename(0, 10));
    Check.due("its signs", 400, () -> exact.ofPage(1, 1));
    Check.refused("450 signs", exact, () -> exact.rename(0, 12));
  }

  private static void splits() {
    Pagegarden g = sectioned();
    Gardens.draft(g, "jig");
    Check.due("split", 1, () -> g.split(0, 1, 39));
    Check.due("what is left", "ab\n[a/b/jig]\n=gab\nhid", () -> g.text(0, 1));
    Check.due("the new page", "=ba\ncad\n==egg\nfig", () -> g.text(1, 0));
    Check.due("its name", 39, () -> g.ofPage(1, 0));
    Check.due("it is linked", 1, () -> g.link(0, 0));
    Check.due("draft stays", "jig", g::draft);
    Check.due("split 0", 2, () -> g.split(0, 0, 8));
    Check.due("what is left", "[ice]\n=gab\nhid", () -> g.text(0, 2));
    Check.due("the new page", "ab\n[a/b/jig]", () -> g.text(2, 0));
    Check.due("split the last", 3, () -> g.split(0, 1, 9));
    Check.due("what is left", "[ice]\n[jig]", () -> g.text(0, 3));
    Check.due("the new page", "=gab\nhid", () -> g.text(3, 0));
    Check.due("split all", 4, () -> g.split(0, 0, 7));
    Check.due("what is left", "[hid]", () -> g.text(0, 4));
    Check.due("split its own link", 5, () -> g.split(0, 0, 6));
    Check.due("what is left", "[gab]", () -> g.text(0, 5));
    Pagegarden empty = new Pagegarden();
    empty.plant(0);
    Check.due("split an empty line", 1, () -> empty.split(0, 0, 1));
    Check.due("what is left", "[ba]", () -> empty.text(0, 1));
    Check.due("the new page is empty", "", () -> empty.text(1, 0));
    empty.login(2);
    empty.uproot(1);
    Check.due("split the same link", 1, () -> empty.split(0, 0, 1));
    Check.due("no new version", 1, () -> empty.ofPage(0, 3));
    Check.due("by the user", 2, () -> empty.versionOf(1, 0, 0));
    Check.due("all words by the user", 2, () -> empty.writer(1, 0));
    Check.due("it links itself", 1, () -> empty.link(1, 0));
  }

  private static void splitIsRefused() {
    Pagegarden g = sectioned();
    Gardens.plant(g, 1, "=ab");
    Gardens.draft(g, "jig");
    Check.noIndex("split no page", g, () -> g.split(2, 9, 40));
    Check.noArgument("split no section", g, () -> g.split(0, 4, 2));
    Check.noArgument("split section -1", g, () -> g.split(0, -1, 2));
    Check.noArgument("split to name 40", g, () -> g.split(0, 1, 40));
    Check.noArgument("split to name -1", g, () -> g.split(0, 1, -1));
    Check.noArgument("no section goes ahead", g, () -> g.split(0, 4, 1));
    Check.noState("split to a name that is taken", g, () -> g.split(0, 1, 1));
    Check.noState("split to its own name", g, () -> g.split(0, 1, 0));
    Check.refused("split a section without lines", g, () -> g.split(1, 0, 2));
    g.allow(0, 2, 0);
    Check.refused("no right at the new name", g, () -> g.split(0, 1, 20));
    g.allowPage(0, 0, 0);
    Check.refused("no right at the page", g, () -> g.split(0, 1, 2));
    Check.noState("a taken name goes ahead", g, () -> g.split(0, 1, 1));
    for (int name = 2; name < 12; name++) {
      g.plant(name);
    }
    Check.noState("split when there are twelve", g, () -> g.split(1, 1, 39));
    Check.noArgument("a wrong name goes ahead", g, () -> g.split(1, 1, 40));
    // A short section of 400 signs becomes a longer link.
    Pagegarden over = new Pagegarden();
    Gardens.plant(over, 0, "=\n=" + "b".repeat(200));
    Gardens.draft(over, "a".repeat(196));
    over.writeSection(0, 0);
    Check.due("400 signs", 400, () -> over.ofPage(0, 1));
    Check.refused("408 signs", over, () -> over.split(0, 1, 39));
    Check.due("the long section goes", 1, () -> over.split(0, 2, 39));
    Check.due("208 signs", 208, () -> over.ofPage(0, 1));
    Pagegarden exact = new Pagegarden();
    Gardens.plant(exact, 0, "=ab\n=" + "b".repeat(200));
    Gardens.draft(exact, "a".repeat(193));
    exact.writeSection(0, 0);
    Check.due("399 signs", 399, () -> exact.ofPage(0, 1));
    Check.due("400 signs", 1, () -> exact.split(0, 1, 1));
    Check.due("its signs", 400, () -> exact.ofPage(0, 1));
  }

  private static void merges() {
    Pagegarden g = new Pagegarden();
    Gardens.plant(g, 30, "ab");
    Gardens.plant(g, 1, "ba");
    Gardens.draft(g, "jig");
    g.login(4);
    Check.due("merge", 1, () -> g.merge(0, 1));
    Check.due("text", "ab\nba", () -> g.text(0, 1));
    Check.due("the other one's", "@a/b/ab", () -> g.text(1, 1));
    Check.due("it leads on", 0, () -> g.ofPage(1, 10));
    Check.due("by the user", 4, () -> g.versionOf(1, 1, 0));
    Check.due("a word that stayed", 0, () -> g.writer(0, 0));
    Check.due("a word that came", 4, () -> g.writer(0, 1));
    Check.due("draft stays", "jig", g::draft);
    Check.due("merge again", 2, () -> g.merge(0, 1));
    Check.due("text", "ab\nba\n@a/b/ab", () -> g.text(0, 2));
    Check.due("the same text is no new version", 1, () -> g.ofPage(1, 3));
    Check.noIndex("merge no page", g, () -> g.merge(2, 2));
    Check.noIndex("merge no other page", g, () -> g.merge(0, 2));
    Check.noIndex("merge page -1", g, () -> g.merge(-1, -1));
    Check.noArgument("merge with itself", g, () -> g.merge(0, 0));
    g.allowPage(4, 1, 1);
    Check.refused("no right at the other one", g, () -> g.merge(0, 1));
    Check.refused("no right at the one", g, () -> g.merge(1, 0));
    g.allowPage(4, 1, 2);
    Gardens.write(g, 0, Gardens.words(200));
    Gardens.write(g, 1, Gardens.words(200));
    Check.refused("401 signs", g, () -> g.merge(0, 1));
    Gardens.write(g, 1, Gardens.words(199));
    Check.due("400 signs", 4, () -> g.merge(0, 1));
    Check.due("its signs", 400, () -> g.ofPage(0, 1));
  }

  private static void uproots() {
    Pagegarden g = new Pagegarden();
    Gardens.plant(g, 0, "[ba]");
    Gardens.plant(g, 1, "[ab]");
    g.talk(0);
    g.watch(1, 0, true);
    g.allowPage(1, 0, 0);
    Gardens.write(g, 0, "[ba]ab");
    Gardens.draft(g, "jig");
    Check.noIndex("uproot no page", g, () -> g.uproot(2));
    Check.noIndex("uproot page -1", g, () -> g.uproot(-1));
    g.allowPage(0, 0, 1);
    Check.refused("uproot without right", g, () -> g.uproot(0));
    g.allowPage(0, 0, 2);
    Check.due("uproot", 1, () -> g.uproot(0));
    Check.due("draft stays", "jig", g::draft);
    Check.due("pages", 2, () -> g.all(0));
    Check.noIndex("it is gone", g, () -> g.ofPage(0, 0));
    Check.due("no link to it", -1, () -> g.link(1, 0));
    Check.due("rights are gone", 0, () -> g.garden(8));
    Check.due("versions are gone", 1, () -> g.garden(7));
    Check.due("plant it again", 0, () -> g.plant(0));
    Check.due("no remarks", 0, () -> g.ofPage(0, 15));
    Check.due("nobody watches", 0, () -> g.watch(1, 0, false));
    Check.due("one version", 0, () -> g.ofPage(0, 3));
    Check.due("uproot", 1, () -> g.uproot(1));
    Check.due("uproot the last", 0, () -> g.uproot(0));
    Check.due("nothing is exported", "", g::exported);
  }

  private static void undoesEdits() {
    Pagegarden g = new Pagegarden();
    Gardens.plant(g, 0, "ab\nba\ncad");
    Gardens.write(g, 0, "fig\nba\ncad");
    Gardens.write(g, 0, "fig\nba\njig");
    Gardens.draft(g, "ice");
    Check.due("undoEdit", 3, () -> g.undoEdit(0, 1));
    Check.due("text", "ab\nba\njig", () -> g.text(0, 3));
    Check.due("draft stays", "ice", g::draft);
    Check.due("undo the newest", 4, () -> g.undoEdit(0, 3));
    Check.due("text", "fig\nba\njig", () -> g.text(0, 4));
    Gardens.write(g, 0, "deaf\nba\njig");
    Check.refused("a quarrel", g, () -> g.undoEdit(0, 1));
    Check.noIndex("undoEdit no page", g, () -> g.undoEdit(1, 9));
    Check.noArgument("undoEdit the first", g, () -> g.undoEdit(0, 0));
    Check.noArgument("undoEdit no version", g, () -> g.undoEdit(0, 6));
    Check.noArgument("undoEdit version -1", g, () -> g.undoEdit(0, -1));
    g.allowPage(0, 0, 1);
    Check.refused("undoEdit without right", g, () -> g.undoEdit(0, 2));
    Check.noArgument("no version goes ahead", g, () -> g.undoEdit(0, 0));
    Pagegarden many = new Pagegarden();
    many.plant(0);
    for (int i = 1; i <= 21; i++) {
      Gardens.write(many, 0, i % 2 == 0 ? "ab" : "ba");
    }
    Check.due("the oldest", 2, () -> many.ofPage(0, 4));
    Check.noArgument("the one ahead is not kept", many, () -> many.undoEdit(0, 2));
    Check.due("the first that can be undone", 22, () -> many.undoEdit(0, 3));
    undoesToo();
  }

  private static void undoesToo() {
    Pagegarden g = new Pagegarden();
    Gardens.plant(g, 0, Gardens.words(250) + "\nba\ncad");
    Gardens.write(g, 0, "a\nba\ncad");
    Gardens.write(g, 0, "a\nba\n" + Gardens.words(146));
    Check.due("400 signs", 3, () -> g.undoEdit(0, 1));
    Check.due("its signs", 400, () -> g.ofPage(0, 1));
    Gardens.write(g, 0, "a\nba\n" + Gardens.words(147));
    Check.refused("401 signs", g, () -> g.undoEdit(0, 1));
  }

  private static void restores() {
    Pagegarden g = new Pagegarden();
    Gardens.plant(g, 0, "ab");
    Gardens.write(g, 0, "ba");
    Gardens.write(g, 0, "cad");
    Gardens.draft(g, "jig");
    g.login(2);
    Check.due("restore", 3, () -> g.restore(0, 0));
    Check.due("text", "ab", () -> g.text(0, 3));
    Check.due("draft stays", "jig", g::draft);
    Check.due("its words are the user's", 2, () -> g.writer(0, 0));
    Check.due("restore the newest", 3, () -> g.restore(0, 3));
    Check.due("restore the same text", 3, () -> g.restore(0, 0));
    Check.noIndex("restore no page", g, () -> g.restore(1, 9));
    Check.noArgument("restore no version", g, () -> g.restore(0, 4));
    Check.noArgument("restore version -1", g, () -> g.restore(0, -1));
    g.allowPage(2, 0, 1);
    Check.refused("restore without right", g, () -> g.restore(0, 1));
    Check.noArgument("no version goes ahead", g, () -> g.restore(0, 4));
  }
}

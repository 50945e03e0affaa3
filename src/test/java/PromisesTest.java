/** What each promise says, sentence by sentence. BoundsTest asks for all arguments of all calls. */
public final class PromisesTest {
  private static final String NO_PAGE = "if there is no such page";
  private static final Check.Past NOTHING = g -> { };
  private static final Check.Past ONE = Walk.drafted(Walk.pages("ab"), "jig");
  private static final Check.Past TWELVE =
      Walk.pages("", "", "", "", "", "", "", "", "", "", "", "");

  public static void main(String[] args) {
    Walk.from("## Promise 1: A new object");
    drafts();
    rights();
    plants();
    sections();
    renames();
    splits();
    merges();
    goesBack();
    pages();
    nodes();
    shownPages();
    links();
    walks();
    names();
    words();
    watches();
    talks();
    wholeGarden();
    lastPromises();
    Check.end("PromisesTest");
  }

  private static void mayNot(String draft, Check.Asked... calls) {
    Walk.refused(Walk.drafted(g -> {
      Walk.pages("a\n=b", "").of(g);
      Gardens.write(g, 0, "a\n=c");
      g.allow(0, 0, 1);
    }, draft), calls);
  }

  private static Check.Asked text(Check.Asked call) {
    return g -> {
      call.of(g);
      return Gardens.text(g, 0);
    };
  }

  private static Check.Asked draftThen(Check.Asked call) {
    return g -> {
      call.of(g);
      return g.draft();
    };
  }

  // ---- the draft

  private static void drafts() {
    Walk.promise(1, "A new object");
    Walk.says("Creates a garden without pages.");
    Walk.is("00", NOTHING, g -> "" + g.all(0) + g.garden(0));
    adds();
    Walk.promise(3, "type");
    Walk.says("Types a SIGN at the end of the DRAFT.");
    Walk.is("jig2", ONE, draftThen(g -> g.type(30)));
    Walk.says("- `sign`: the number of a SIGN");
    Walk.is("jig/", ONE, draftThen(g -> g.type(10)));
    Walk.says("Returns how many SIGNS it has then.");
    Walk.is(4, ONE, g -> g.type(0));
    Walk.noArgument("if sign is not 0 to 30", ONE, g -> g.type(-1), g -> g.type(31));
    Walk.noState("if it has 300", g -> Gardens.draft(g, Gardens.words(300)), g -> g.type(0));
    Walk.promise(4, "rub");
    Walk.says("Takes SIGNS from the end of the DRAFT.");
    Walk.is("ji", ONE, draftThen(g -> g.rub(1)));
    Walk.says("- `many`: how many at most");
    Walk.is("", ONE, draftThen(g -> g.rub(4)));
    Walk.says("Returns how many SIGNS it has then.");
    Walk.is("100", ONE, g -> "" + g.rub(2) + g.rub(1) + g.rub(300));
    Walk.noArgument("if many is not 1 to 300", ONE, g -> g.rub(0), g -> g.rub(301));
    Walk.promise(5, "draft");
    Walk.says("Returns the DRAFT.");
    Walk.is("jig", ONE, g -> g.draft());
    Walk.promise(6, "take");
    Walk.says("The DRAFT becomes the TEXT of a VERSION.");
    Check.Past taking = Walk.drafted(Walk.then(NOTHING, Walk.versions("ab", "cad")), "jig");
    Walk.is("ab", taking, draftThen(g -> g.take(0, 0)));
    Walk.reads("- `page`: a page - `version`: a VERSION");
    Walk.says("Returns how many SIGNS it has then.");
    Walk.is(3, taking, g -> g.take(0, 1));
    Walk.noIndex(NO_PAGE, taking, g -> g.take(1, 0), g -> g.take(-1, 0), g -> g.take(12, 2));
    Walk.noArgument("if that VERSION of it is not kept", taking, g -> g.take(0, 2),
        g -> g.take(0, -1));
    Walk.noState("if its TEXT has more than 300 SIGNS", g -> {
      g.plant(0);
      Gardens.makeLong(g, 0, "a".repeat(100), "b".repeat(199));
    }, g -> g.take(0, 2));
  }

  private static void adds() {
    Walk.promise(2, "add");
    Walk.reads("---- the draft");
    Walk.says("Adds something behind the DRAFT.");
    Walk.is("jig'", ONE, draftThen(g -> g.add(6, 0, -1)));
    Walk.says("- `kind`: 0 WORD a % 10 (a blank ahead of it, if the DRAFT ends with a LETTER);");
    Walk.is("jig ba ab", ONE, draftThen(g -> "" + g.add(0, 31, 5) + g.add(0, 0, -1)));
    Walk.is("/ba", g -> g.type(10), draftThen(g -> g.add(0, 1, -1)));
    Walk.says("1 a LINE END;");
    Walk.is("jig\n\n", ONE, draftThen(g -> "" + g.add(1, 7, 7) + g.add(1, 0, -1)));
    Walk.says("2 (a % 3 + 1) times \"=\", then WORD b; 3 likewise with \"*\"; 4 \">\" and WORD b; "
        + "5 \"|\", WORD a % 10, \"|\" and WORD b (2 to 5: a LINE END ahead, if the DRAFT is not "
        + "empty and does not end with one; without WORD b, if b is NONE);");
    adds("==cad\n=ab\n===", new int[] {2, 4, 2}, new int[] {2, 0, 0}, new int[] {2, 38, -1});
    adds("**cad\n*ab\n***", new int[] {3, 4, 2}, new int[] {3, 0, 0}, new int[] {3, 38, -1});
    adds(">cad\n>\n>ab", new int[] {4, 4, 2}, new int[] {4, 0, -1}, new int[] {4, 38, 0});
    adds("|egg|cad\n|ice|", new int[] {5, 4, 2}, new int[] {5, 38, -1});
    adds("ba\n=ab\n*ab", new int[] {0, 1, 2}, new int[] {1, 0, 0}, new int[] {2, 0, 0},
        new int[] {1, 0, 0}, new int[] {3, 0, 0});
    Walk.says("6 \"'\"; 7 \"_\"; 8 \"`\"; 9 \"[\", NAME a, \"]\"; 10 \"{\", NAME a, \"}\"; 11 "
        + "\"{\", the digit a % 3, \"}\" (9 to 11: \"|\" and WORD b ahead of the last sign, if b "
        + "is not NONE); 12 \"(\", WORD a % 10, \")\"; 13 \"#\" and WORD a % 10; 14 \"@\" and "
        + "NAME a");
    adds("'_`", new int[] {6, 4, 2}, new int[] {7, 4, 2}, new int[] {8, 4, 2});
    adds("[a/b/jig][ba|cad]", new int[] {9, 39, -1}, new int[] {9, 1, 2});
    adds("{a/ab}{b/jig|ab}", new int[] {10, 10, -1}, new int[] {10, 29, 0});
    adds("{2}{1|jig}{0|ab}", new int[] {11, 38, -1}, new int[] {11, 4, 9}, new int[] {11, 39, 0});
    adds("(ice)#jig@a/b/ab", new int[] {12, 38, 3}, new int[] {13, 29, 3}, new int[] {14, 30, 3});
    Walk.says("- `a`: 0 to 39, as kind says - `b`: a WORD, or NONE");
    adds("ab jig", new int[] {0, 30, -1}, new int[] {0, 39, 9});
    Walk.says("Returns how many SIGNS it has then; REFUSED if that would be more than 300.");
    Walk.is(9, ONE, g -> g.add(12, 3, -1));
    Walk.is(300, g -> Gardens.draft(g, Gardens.words(297)), g -> g.add(14, 0, -1));
    Walk.refused(g -> Gardens.draft(g, Gardens.words(298)), g -> g.add(14, 0, -1),
        g -> g.add(0, 0, -1));
    Walk.noArgument("if kind is not 0 to 14, a not 0 to 39, or b not -1 to 9", ONE,
        g -> g.add(-1, 0, 0), g -> g.add(15, 0, 0), g -> g.add(6, -1, 0), g -> g.add(6, 40, 0),
        g -> g.add(6, 0, -2), g -> g.add(6, 0, 10));
  }

  /** What the draft is when these were added. */
  private static void adds(String due, int[]... added) {
    Walk.is(due, NOTHING, g -> {
      for (int[] a : added) {
        g.add(a[0], a[1], a[2]);
      }
      return g.draft();
    });
  }

  // ---- users

  private static void rights() {
    Walk.promise(7, "login");
    Walk.reads("---- users");
    Walk.says("- `user`: USER from now on");
    Walk.is(3, g -> g.login(3), g -> g.garden(1));
    Walk.says("Returns USER before.");
    Walk.is("032", NOTHING, g -> "" + g.login(3) + g.login(2) + g.login(2));
    Walk.noArgument("if user is not 0 to 4", ONE, g -> g.login(-1), g -> g.login(5));
    Walk.promise(8, "allow");
    Walk.says("Tells the RIGHT of a USER for a PREFIX.");
    Check.Past told = Walk.then(g -> g.plant(32), g -> g.allow(4, 3, 1));
    Walk.is("12", told, g -> "" + g.right(4, 0) + g.right(3, 0));
    Walk.says("- `user`: a USER - `prefix`: a PREFIX - `right`: 0 to 2, or NONE: none is told");
    Walk.is("12 1 0", told, g -> "" + g.allow(4, 3, -1) + g.right(4, 0) + " "
        + (g.allow(4, 3, -1) + 2) + " " + g.garden(8));
    Walk.says("Returns what was told before for both (NONE).");
    Walk.is("-1120-1", NOTHING, g -> "" + g.allow(0, 0, 1) + g.allow(0, 0, 2) + g.allow(0, 0, 0)
        + g.allow(0, 0, 0) + g.allow(0, 1, 0));
    Walk.noArgument("if user is not 0 to 4, prefix not 0 to 3, or right not -1 to 2", told,
        g -> g.allow(-1, 0, 0), g -> g.allow(5, 0, 0), g -> g.allow(0, -1, 0),
        g -> g.allow(0, 4, 0), g -> g.allow(0, 0, -2), g -> g.allow(0, 0, 3));
    Walk.promise(9, "allowPage");
    Walk.says("Tells the RIGHT of a USER for a page (it goes with the page, whatever its NAME "
        + "is).");
    Check.Past paged = Walk.then(told, g -> g.allowPage(4, 0, 0));
    Walk.is("000", paged, g -> "" + g.right(4, 0) + g.rename(0, 5) + g.right(4, 0));
    Walk.says("- `user`: a USER - `page`: a page - `right`: 0 to 2, or NONE: none is told");
    Walk.is("01", paged, g -> "" + g.allowPage(4, 0, -1) + g.right(4, 0));
    Walk.says("Returns what was told before for both (NONE).");
    Walk.is("-1120-1", Walk.pages("", ""), g -> "" + g.allowPage(0, 0, 1) + g.allowPage(0, 0, 2)
        + g.allowPage(0, 0, 0) + g.allowPage(0, 0, 0) + g.allowPage(0, 1, 0));
    Walk.noIndex(NO_PAGE, paged, g -> g.allowPage(0, 1, 0), g -> g.allowPage(5, -1, 3));
    Walk.noArgument("if user is not 0 to 4, or right not -1 to 2", paged,
        g -> g.allowPage(-1, 0, 0), g -> g.allowPage(5, 0, 0), g -> g.allowPage(0, 0, -2),
        g -> g.allowPage(0, 0, 3));
    Walk.promise(10, "right");
    Walk.reads("- `user`: a USER - `page`: a page");
    Walk.says("Returns the RIGHT of the USER at the NAME of the page.");
    Walk.is("2102", paged, g -> "" + g.right(0, 0) + (g.right(4, 0) + 1) + g.right(4, 0)
        + g.right(1, 0));
    Walk.noIndex(NO_PAGE, paged, g -> g.right(0, 1), g -> g.right(5, 12));
    Walk.noArgument("if user is not 0 to 4", paged, g -> g.right(-1, 0), g -> g.right(5, 0));
  }

  // ---- pages

  private static void plants() {
    Walk.promise(11, "plant");
    Walk.reads("---- pages");
    Walk.says("A new page with the DRAFT as its TEXT; the DRAFT is empty then.");
    Walk.is("jig ", ONE, g -> g.text(g.plant(1), 0) + " " + g.draft());
    Walk.says("- `name`: its NAME");
    Walk.is(17, g -> g.plant(17), g -> g.ofPage(0, 0));
    Walk.says("Returns its number; REFUSED if USER MAY not change what has that NAME.");
    Walk.is(1, ONE, g -> g.plant(1));
    mayNot("a", g -> g.plant(2), g -> g.plant(12));
    Walk.noArgument("if name is not 0 to 39", ONE, g -> g.plant(-1), g -> g.plant(40));
    Walk.noState("if there are 12, or one has that NAME", ONE, g -> g.plant(0));
    Walk.throwing("IllegalStateException", TWELVE, g -> g.plant(12));
    Walk.promise(12, "write");
    Walk.says("The DRAFT becomes the TEXT of a page; the DRAFT is empty then.");
    Walk.is("jig", ONE, text(g -> g.write(0)));
    Walk.is("", ONE, draftThen(g -> g.write(0)));
    Walk.reads("- `page`: a page");
    Walk.says("Returns its newest VERSION then; REFUSED if USER MAY not change it.");
    Walk.is("12", ONE, g -> "" + g.write(0) + g.write(0));
    mayNot("a", g -> g.write(0));
    Walk.noIndex(NO_PAGE, ONE, g -> g.write(1), g -> g.write(-1), g -> g.write(12));
    Walk.promise(13, "writeOver");
    Walk.says("The TEXT of a page becomes the JOIN of the DRAFT and it over a VERSION; the DRAFT "
        + "is empty then.");
    Check.Past joining = Walk.drafted(Walk.versions("a\nb", "a\nc"), "d\nb");
    Walk.is("d\nc", joining, text(g -> g.writeOver(0, 0)));
    Walk.is("", joining, draftThen(g -> g.writeOver(0, 0)));
    Walk.reads("- `page`: a page - `version`: that over which the DRAFT was made");
    Walk.says("Returns its newest VERSION then; REFUSED if USER MAY not change it, if that is a "
        + "QUARREL, or would have more than 400 SIGNS.");
    Walk.is(2, joining, g -> g.writeOver(0, 0));
    Walk.is(1, Walk.drafted(joining, "a\nb"), g -> g.writeOver(0, 0));
    mayNot("a\n=d", g -> g.writeOver(0, 1));
    Walk.refused(Walk.drafted(joining, "a\ne"), g -> g.writeOver(0, 0));
    Walk.refused(Walk.drafted(Walk.versions("a\nb", "a\n" + "c".repeat(200)), "d".repeat(200)
        + "\nb"), g -> g.writeOver(0, 0));
    Walk.noIndex(NO_PAGE, joining, g -> g.writeOver(1, 0), g -> g.writeOver(-1, 5));
    Walk.noArgument("if that VERSION of it is not kept", joining, g -> g.writeOver(0, 2),
        g -> g.writeOver(0, -1));
  }

  private static void sections() {
    Walk.promise(14, "writeSection");
    Walk.says("The LINES of a section become those of the DRAFT (none, if that is empty; without "
        + "any LINE the TEXT is empty; those of a section 0 without LINES come ahead of all); the "
        + "DRAFT is empty then.");
    Check.Past parted = Walk.drafted(Walk.pages("a\n=b\nc\n==d\n=e"), "f\ng");
    String[] due = {"f\ng\n=b\nc\n==d\n=e", "a\nf\ng\n=e", "a\n=b\nc\nf\ng\n=e",
        "a\n=b\nc\n==d\nf\ng"};
    String[] none = {"=b\nc\n==d\n=e", "a\n=e", "a\n=b\nc\n=e", "a\n=b\nc\n==d"};
    for (int i = 0; i < 4; i++) {
      int section = i;
      Walk.is(due[i], parted, text(g -> g.writeSection(0, section)));
      Walk.is(none[i], Walk.drafted(parted, ""), text(g -> g.writeSection(0, section)));
    }
    Walk.is("", Walk.pages("=a\n==b"), text(g -> g.writeSection(0, 1)));
    Walk.is("b\n=a", Walk.drafted(Walk.pages("=a"), "b"), text(g -> g.writeSection(0, 0)));
    Walk.is("", parted, draftThen(g -> g.writeSection(0, 1)));
    Walk.reads("- `page`: a page - `section`: the number of a section");
    Walk.says("Returns its newest VERSION then; REFUSED if USER MAY not change it, or its TEXT "
        + "would have more than 400 SIGNS.");
    Walk.is(1, parted, g -> g.writeSection(0, 3));
    Walk.is(0, Walk.drafted(parted, "=e"), g -> g.writeSection(0, 3));
    mayNot("d", g -> g.writeSection(0, 1));
    Walk.refused(Walk.drafted(Walk.pages("=" + "a".repeat(199)), "b".repeat(200)),
        g -> g.writeSection(0, 0));
    Walk.noIndex(NO_PAGE, parted, g -> g.writeSection(1, 0), g -> g.writeSection(-1, 9));
    Walk.noArgument("if it has no such section", parted, g -> g.writeSection(0, 4),
        g -> g.writeSection(0, -1));
  }

  private static void renames() {
    Walk.promise(15, "rename");
    Walk.says("Renames a page: each LINK, PART and REDIRECT with the old NAME as its NAMING text "
        + "gets the new one (a new VERSION of each page that has such, by rising numbers, "
        + "whatever RIGHT USER has there).");
    Check.Past named = Walk.then(Walk.pages("[ab|ab]{ab|ab}{ba}`[ab]`ab", "@ab\n@ab\n[ab][abab]",
        "ab(ab)#ab"), g -> {
          g.login(2);
          g.allowPage(2, 1, 0);
        });
    Walk.is("39 [a/b/jig|ab]{a/b/jig|ab}{ba}`[ab]`ab @a/b/jig\n@ab\n[a/b/jig][abab] 110 22", named,
        g -> {
          g.rename(0, 39);
          return g.ofPage(0, 0) + " " + g.text(0, 1) + " " + g.text(1, 1) + " " + g.ofPage(0, 3)
              + g.ofPage(1, 3) + g.ofPage(2, 3) + " " + g.versionOf(0, 1, 0)
              + g.versionOf(1, 1, 0);
        });
    Walk.says("With the NAME that it has nothing is done: 0 (also if USER MAY not).");
    Walk.is("0 0 0", Walk.then(named, g -> g.allowPage(2, 0, 0)),
        g -> g.rename(0, 0) + " " + g.ofPage(0, 3) + " " + g.garden(2));
    Walk.says("- `page`: a page - `name`: its NAME from now on");
    Walk.is("ab>ba", Walk.pages("[cad]", "", ""), g -> {
      g.uproot(1);
      g.rename(2, 1);
      return g.walk(0, 2);
    });
    Walk.says("Returns how many LINKS, PARTS and REDIRECTS, of all pages, name it otherwise by "
        + "that; REFUSED if USER MAY not change it, or what has the new NAME (no page has it yet: "
        + "by PREFIXES); if a LINK, a PART or a REDIRECT has the new NAME as its NAMING text "
        + "already; or if a TEXT would have more than 400 SIGNS.");
    Walk.is("40", named, g -> "" + g.rename(0, 39) + g.rename(2, 38));
    mayNot("a", g -> g.rename(0, 2));
    Walk.refused(g -> {
      Walk.pages("", "").of(g);
      g.allow(0, 1, 1);
    }, g -> g.rename(0, 12), g -> g.rename(0, 32));
    for (String text : new String[] {"[jig]", "{jig|a}", "@jig"}) {
      Walk.refused(Walk.pages("", text), g -> g.rename(0, 9));
    }
    Walk.refused(Walk.pages("", "[ab]".repeat(60)), g -> g.rename(0, 33));
    Walk.noIndex(NO_PAGE, named, g -> g.rename(3, 9), g -> g.rename(-1, 40));
    Walk.noArgument("if name is not 0 to 39", named, g -> g.rename(0, 40), g -> g.rename(0, -1));
    Walk.noState("if another page has that NAME", named, g -> g.rename(0, 1));
  }

  private static void splits() {
    Walk.promise(16, "split");
    Walk.says("The LINES of a section go to a new page; where they were there is one LINE, a LINK "
        + "with that NAME and no words.");
    Check.Past parted = Walk.drafted(Walk.pages("a\n=b\nc\n==d\n=e"), "f\ng");
    String[] left = {"[a/jig]\n=b\nc\n==d\n=e", "a\n[a/jig]\n=e", "a\n=b\nc\n[a/jig]\n=e",
        "a\n=b\nc\n==d\n[a/jig]"};
    String[] gone = {"a", "=b\nc\n==d", "==d", "=e"};
    for (int i = 0; i < 4; i++) {
      int section = i;
      Walk.is(left[i], parted, text(g -> g.split(0, section, 19)));
      Walk.is(gone[i], parted, g -> g.text(g.split(0, section, 19), 0));
    }
    Walk.says("- `page`: a page - `section`: the number of a section - `name`: the NAME of the new "
        + "page");
    Walk.is(19, parted, g -> g.ofPage(g.split(0, 1, 19), 0));
    Walk.says("Returns the number of the new page; REFUSED if USER MAY not change it, or what has "
        + "that NAME, if the section has no LINE, or the TEXT would have more than 400 SIGNS.");
    Walk.is(1, parted, g -> g.split(0, 1, 19));
    mayNot("a", g -> g.split(0, 1, 5));
    Walk.refused(Walk.then(parted, g -> g.allow(0, 1, 0)), g -> g.split(0, 1, 19));
    Walk.refused(Walk.pages("=a"), g -> g.split(0, 0, 19));
    Walk.refused(g -> {
      Walk.pages("=\n=" + "a".repeat(200)).of(g);
      Gardens.draft(g, "b".repeat(196));
      g.writeSection(0, 0);
    }, g -> g.split(0, 1, 19));
    Walk.noIndex(NO_PAGE, parted, g -> g.split(1, 0, 19), g -> g.split(12, 9, 40));
    Walk.noArgument("if it has no such section, or name is not 0 to 39", parted,
        g -> g.split(0, 4, 19), g -> g.split(0, -1, 19), g -> g.split(0, 1, 40),
        g -> g.split(0, 1, -1));
    Walk.noState("if there are 12, or one has that NAME", parted, g -> g.split(0, 1, 0));
    Walk.throwing("IllegalStateException", TWELVE, g -> g.split(0, 0, 19));
  }

  private static void merges() {
    Walk.promise(17, "merge");
    Walk.says("The TEXT of another page comes, with a LINE END ahead, behind that of a page; the "
        + "other one's TEXT is \"@\" and the NAME of the page then.");
    Check.Past two = g -> {
      Gardens.plant(g, 21, "a\n");
      Gardens.plant(g, 1, "=b");
    };
    Walk.is("a\n\n=b @b/ba", two, g -> {
      g.merge(0, 1);
      return Gardens.text(g, 0) + " " + Gardens.text(g, 1);
    });
    Walk.says("- `page`: a page - `other`: another page");
    Walk.is("@ba =b\na\n", two, g -> {
      g.merge(1, 0);
      return Gardens.text(g, 0) + " " + Gardens.text(g, 1);
    });
    Walk.says("Returns its newest VERSION then; REFUSED if USER MAY not change one of both, or its "
        + "TEXT would have more than 400 SIGNS.");
    Walk.is(1, two, g -> g.merge(0, 1));
    mayNot("a", g -> g.merge(0, 1), g -> g.merge(1, 0));
    Walk.refused(Walk.then(two, g -> g.allowPage(0, 1, 1)), g -> g.merge(0, 1), g -> g.merge(1, 0));
    Walk.refused(Walk.pages("a".repeat(200), "b".repeat(200)), g -> g.merge(0, 1));
    Walk.noIndex(NO_PAGE + ", the one or the other", two, g -> g.merge(0, 2), g -> g.merge(2, 0),
        g -> g.merge(2, 2));
    Walk.noArgument("if both are the same", two, g -> g.merge(0, 0), g -> g.merge(1, 1));
    Walk.promise(18, "uproot");
    Walk.says("A page goes, with its VERSIONS, its remarks, the RIGHTS told for it, and who "
        + "WATCHES it.");
    Walk.is("0 2 1 0 0 0 0 2", Walk.pages("[ba]", "", ""), g -> {
      Gardens.write(g, 1, "a");
      g.talk(1);
      g.allowPage(2, 1, 0);
      g.watch(3, 1, true);
      g.uproot(1);
      String told = g.garden(8) + " " + g.garden(7) + " " + g.plant(1);
      return told + " " + g.ofPage(1, 3) + " " + g.ofPage(1, 15) + " " + g.watch(3, 1, false) + " "
          + g.text(1, 0).length() + " " + g.right(2, 1);
    });
    Walk.reads("- `page`: a page");
    Walk.says("Returns how many are left; REFUSED if USER MAY not change it.");
    Walk.is("10", Walk.pages("", ""), g -> "" + g.uproot(0) + g.uproot(1));
    mayNot("a", g -> g.uproot(0));
    Walk.noIndex(NO_PAGE, ONE, g -> g.uproot(1), g -> g.uproot(-1));
  }

  private static void goesBack() {
    Walk.promise(19, "undoEdit");
    Walk.says("The TEXT of a page becomes the JOIN of the VERSION ahead of that one and its TEXT "
        + "over that one.");
    Check.Past three = Walk.drafted(Walk.versions("a\nb", "c\nb", "c\nd"), "jig");
    Walk.is("a\nd", three, text(g -> g.undoEdit(0, 1)));
    Walk.is("jig", three, draftThen(g -> g.undoEdit(0, 1)));
    Walk.says("- `page`: a page - `version`: the one that is undone");
    Walk.is("c\nb", three, text(g -> g.undoEdit(0, 2)));
    Walk.says("Returns its newest VERSION then; REFUSED if USER MAY not change it, if that is a "
        + "QUARREL, or would have more than 400 SIGNS.");
    Walk.is(3, three, g -> g.undoEdit(0, 1));
    mayNot("a", g -> g.undoEdit(0, 1));
    Walk.refused(Walk.versions("a", "b", "c"), g -> g.undoEdit(0, 1));
    Walk.refused(Walk.versions("a".repeat(200) + "\nb", "c\nb", "c\n" + "d".repeat(200)),
        g -> g.undoEdit(0, 1));
    Walk.noIndex(NO_PAGE, three, g -> g.undoEdit(1, 1), g -> g.undoEdit(-1, 0));
    Walk.noArgument("if that VERSION of it, or the one ahead of it, is not kept", three,
        g -> g.undoEdit(0, 3), g -> g.undoEdit(0, 0), g -> g.undoEdit(0, -1));
    Walk.promise(20, "restore");
    Walk.says("The TEXT of a page becomes that of a VERSION.");
    Walk.is("a\nb", three, text(g -> g.restore(0, 0)));
    Walk.is("jig", three, draftThen(g -> g.restore(0, 0)));
    Walk.reads("- `page`: a page - `version`: a VERSION");
    Walk.says("Returns its newest VERSION then; REFUSED if USER MAY not change it.");
    Walk.is("233", three, g -> "" + g.restore(0, 2) + g.restore(0, 0) + g.restore(0, 3));
    mayNot("a", g -> g.restore(0, 0));
    Walk.noIndex(NO_PAGE, three, g -> g.restore(1, 0), g -> g.restore(12, 9));
    Walk.noArgument("if that VERSION of it is not kept", three, g -> g.restore(0, 3),
        g -> g.restore(0, -1));
  }

  // ---- what a page is

  private static void pages() {
    Walk.promise(21, "text");
    Walk.reads("---- what a page is - `page`: a page - `version`: a VERSION");
    Walk.says("Returns its TEXT.");
    Check.Past two = Walk.versions("a\nb", "");
    Walk.is("a\nb", two, g -> g.text(0, 0));
    Walk.is("", two, g -> g.text(0, 1));
    Walk.noIndex(NO_PAGE, two, g -> g.text(1, 0), g -> g.text(-1, 9));
    Walk.noArgument("if that VERSION of it is not kept", two, g -> g.text(0, 2),
        g -> g.text(0, -1));
    Walk.promise(22, "ofPage");
    Walk.says("- `page`: a page - `what`: 0 the number of its NAME, 1 SIGNS, 2 LINES, 3 its newest "
        + "VERSION, 4 the oldest one that is kept, 5 LINKS, 6 PARTS, 7 NODES, 8 HEADS, 9 WORDS in "
        + "its TEXT, 10 where its REDIRECT LEADS (NONE without one), 11 how many pages are HERE, "
        + "12 1 if it is an ORPHAN, otherwise 0, 13 1 if it is a DEAD END, otherwise 0, 14 1 if it "
        + "is KEPT, otherwise 0, 15 how many remarks it has");
    Check.Past whole = g -> {
      Gardens.plant(g, 26, "");
      Gardens.plant(g, 1, "[b/gab]");
      Gardens.plant(g, 2, "@b/gab\n");
      for (int i = 1; i <= 21; i++) {
        Gardens.write(g, 0, "a".repeat(i));
      }
      // Page and redirect; section, head, text, link; another one of these and a part; row.
      Gardens.write(g, 0, "@ba\n=a[cad]\n==b{ba}[a]\n|c");
      g.talk(0);
      g.talk(0);
      g.shown(0);
    };
    int[] due = {26, 25, 4, 22, 3, 2, 1, 14, 2, 7, 1, 0, 1, 0, 1, 2};
    whole(whole, due);
    Walk.says("Returns that.");
    whole(Walk.pages("a", "[ab]", "@ab"), new int[] {0, 1, 1, 0, 0, 0, 0, 3, 0, 1, -1, 2, 0, 1, 0,
        0});
    whole(Walk.pages(""), new int[] {0, 0, 1, 0, 0, 0, 0, 2, 0, 0, -1, 0, 1, 1, 0, 0});
    Walk.is("1-1", Walk.pages("@ba", "", "[ba]"), g -> "" + g.ofPage(0, 10) + g.ofPage(2, 10));
    Walk.noIndex(NO_PAGE, whole, g -> g.ofPage(3, 0), g -> g.ofPage(-1, 16));
    Walk.noArgument("if what is not 0 to 15", whole, g -> g.ofPage(0, 16), g -> g.ofPage(0, -1));
  }

  private static void whole(Check.Past past, int[] due) {
    for (int i = 0; i < due.length; i++) {
      int what = i;
      Walk.is(due[i], past, g -> g.ofPage(0, what));
    }
  }

  private static void nodes() {
    Walk.promise(23, "node");
    Walk.reads("- `page`: a page - `nth`: its number");
    Walk.says("- `what`: 0 its KIND, 1 in how many NODES it is, 2 how many NODES are right in it, "
        + "3 how many SIGNS it is, WRITTEN, 4 how many SIGNS of the TEXT are ahead of it");
    // Page, plain, text, section, head, text, item, text, item, text, row, cell, text, link, cell.
    Check.Past some = Walk.pages("a\n=b\n*c\n**d\n|e[f]|");
    int[][] due = {
      {0, 0, 2, 18, 0}, {8, 1, 1, 2, 0}, {10, 2, 0, 1, 0}, {1, 1, 3, 16, 2}, {2, 2, 1, 3, 2},
      {10, 3, 0, 1, 3}, {3, 2, 2, 7, 5}, {10, 3, 0, 1, 6}, {3, 3, 1, 4, 8}, {10, 4, 0, 1, 10},
      {5, 2, 2, 6, 12}, {9, 3, 2, 4, 13}, {10, 4, 0, 1, 13}, {14, 4, 0, 3, 14}, {9, 3, 0, 0, 18}
    };
    for (int i = 0; i < due.length; i++) {
      for (int k = 0; k < 5; k++) {
        int nth = i;
        int what = k;
        Walk.is(due[i][k], some, g -> g.node(0, nth, what));
      }
    }
    Walk.says("Returns that of a NODE.");
    Walk.is("7 1 0 0 1", Walk.pages("\n"), g -> g.node(0, 2, 0) + " " + g.node(0, 2, 1) + " "
        + g.node(0, 2, 2) + " " + g.node(0, 2, 3) + " " + g.node(0, 2, 4));
    Walk.noIndex(NO_PAGE + ", or NODE of it", some, g -> g.node(1, 0, 0), g -> g.node(0, 15, 0),
        g -> g.node(0, -1, 0), g -> g.node(0, 15, 5));
    Walk.noArgument("if what is not 0 to 4", some, g -> g.node(0, 0, 5), g -> g.node(0, 0, -1));
    Walk.promise(24, "nodeText");
    Walk.reads("- `page`: a page - `nth`: its number");
    Walk.says("Returns the NODE, WRITTEN.");
    String[] written = {"a\n=b\n*c\n**d\n|e[f]|", "a\n", "a", "=b\n*c\n**d\n|e[f]|", "=b\n", "b",
        "*c\n**d\n", "c", "**d\n", "d", "|e[f]|", "e[f]", "e", "[f]", ""};
    for (int i = 0; i < written.length; i++) {
      int nth = i;
      Walk.is(written[i], some, g -> g.nodeText(0, nth));
    }
    Walk.noIndex(NO_PAGE + ", or NODE of it", some, g -> g.nodeText(1, 0),
        g -> g.nodeText(0, 15), g -> g.nodeText(0, -1));
    Walk.promise(25, "contents");
    Walk.reads("- `page`: a page");
    Walk.says("Returns HEAD by HEAD its PATH, a blank, its BODY WRITTEN, and a LINE END.");
    Check.Past heads = Walk.pages("a\n==[b|c]'\n*d\n=\n===(e) \n");
    Walk.is("0.1 [b|c]'\n1 \n1.0.1 (e) \n", heads, g -> g.contents(0));
    Walk.is("", Walk.pages("a\n*b"), g -> g.contents(0));
    Walk.noIndex(NO_PAGE, heads, g -> g.contents(1), g -> g.contents(-1));
    Walk.promise(26, "section");
    Walk.reads("- `page`: a page - `section`: the number of a section");
    Walk.says("Returns its LINES, with a LINE END between two.");
    Walk.is("a;==[b|c]'\n*d;=\n===(e) \n;===(e) \n", heads, g -> g.section(0, 0) + ";"
        + g.section(0, 1) + ";" + g.section(0, 2) + ";" + g.section(0, 3));
    Walk.noIndex(NO_PAGE, heads, g -> g.section(1, 0), g -> g.section(-1, 9));
    Walk.noArgument("if it has no such section", heads, g -> g.section(0, 4),
        g -> g.section(0, -1));
  }

  private static void shownPages() {
    Walk.promise(27, "shown");
    Walk.reads("- `page`: a page");
    Walk.says("Returns it, SHOWN (it is KEPT then).");
    Check.Past some = Walk.pages("=a'{ba|b}\n", "{0}(c)");
    Walk.is("1 a<1>b^1<0>\n\n^1: c\n 1", some, g -> g.shown(0) + " " + g.all(5));
    Walk.is("1 a<1>b^1<0>\n\n^1: c\n 11", Walk.then(some, g -> g.shown(0)),
        g -> g.shown(0) + " " + g.garden(4) + g.garden(5));
    Walk.noIndex(NO_PAGE, some, g -> g.shown(2), g -> g.shown(-1));
    Walk.promise(28, "writer");
    Walk.reads("- `page`: a page - `nth`: which one, from 0 on");
    Walk.says("Returns the WRITER of the nth WORD of its TEXT.");
    Check.Past written = g -> {
      g.login(4);
      Gardens.plant(g, 0, "a [b]");
      g.login(1);
      Gardens.write(g, 0, "a c [b]");
    };
    Walk.is("414", written, g -> "" + g.writer(0, 0) + g.writer(0, 1) + g.writer(0, 2));
    Walk.noIndex(NO_PAGE, written, g -> g.writer(1, 0), g -> g.writer(-1, 9));
    Walk.noArgument("if it has no such WORD", written, g -> g.writer(0, 3),
        g -> g.writer(0, -1));
    Walk.promise(29, "versionOf");
    Walk.reads("- `page`: a page - `version`: a VERSION");
    Walk.says("- `what`: 0 by which USER it is, 1 how many SIGNS it has, 2 how many LINES");
    Walk.is("451171", written, g -> "" + g.versionOf(0, 0, 0) + g.versionOf(0, 0, 1)
        + g.versionOf(0, 0, 2) + g.versionOf(0, 1, 0) + g.versionOf(0, 1, 1)
        + g.versionOf(0, 1, 2));
    Walk.says("Returns that of a VERSION.");
    Walk.is("23", Walk.pages("\n\n"), g -> "" + g.versionOf(0, 0, 1) + g.versionOf(0, 0, 2));
    Walk.noIndex(NO_PAGE, written, g -> g.versionOf(1, 0, 0), g -> g.versionOf(-1, 9, 9));
    Walk.noArgument("if that VERSION of it is not kept, or what is not 0 to 2", written,
        g -> g.versionOf(0, 2, 0), g -> g.versionOf(0, -1, 0), g -> g.versionOf(0, 0, 3),
        g -> g.versionOf(0, 0, -1));
  }

  // ---- links and walks

  private static void links() {
    Walk.promise(30, "link");
    Walk.reads("---- links and walks - `page`: a page - `nth`: which one, from 0 on");
    Walk.says("Returns the page to which the nth LINK of it LEADS, or NONE.");
    Check.Past some = Walk.pages("[ab][jig]\n|[cad]{ba}\n>[ba|a]", "@cad", "");
    Walk.is("0-122", some, g -> "" + g.link(0, 0) + g.link(0, 1) + g.link(0, 2) + g.link(0, 3));
    Walk.noIndex(NO_PAGE, some, g -> g.link(3, 0), g -> g.link(-1, 9));
    Walk.noArgument("if it has no such LINK", some, g -> g.link(0, 4), g -> g.link(0, -1),
        g -> g.link(1, 0));
    Walk.promise(31, "sets");
    Walk.says("- `page`: a page - `what`: 0 the pages that it LEADS TO, 1 HERE of it, 2 its "
        + "ISLAND, 3 CLOSED of it");
    Check.Past sets = Walk.pages("[ba]", "[cad][ba]", "", "[ba]{egg}", "");
    Walk.is("4 9 15 6", sets, g -> g.sets(1, 0) + " " + g.sets(1, 1) + " " + g.sets(1, 2) + " "
        + g.sets(1, 3));
    Walk.says("Returns that set.");
    Walk.is("0 0 16 16", sets, g -> g.sets(4, 0) + " " + g.sets(4, 1) + " " + g.sets(4, 2) + " "
        + g.sets(4, 3));
    Walk.noIndex(NO_PAGE, sets, g -> g.sets(5, 0), g -> g.sets(-1, 4));
    Walk.noArgument("if what is not 0 to 3", sets, g -> g.sets(0, 4), g -> g.sets(0, -1));
  }

  private static void walks() {
    Walk.promise(32, "walk");
    Walk.reads("- `from`: a page - `to`: a page");
    Walk.says("Returns the NAMES of the WALK from the one to the other one with the fewest pages, "
        + "of several that whose NAME is least at the first place at which they differ, with "
        + "\">\" between; \"\" if there is none; the one NAME, if both are the same.");
    // From "ab" by "cad", "b/ab" or "a/b/ab" to "jig", which goes on to "ba" and back.
    Check.Past ways = g -> {
      Gardens.plant(g, 0, "[cad][b/ab][ba]");
      Gardens.plant(g, 2, "[jig]");
      Gardens.plant(g, 20, "[jig]");
      Gardens.plant(g, 9, "[ba][ab]");
      Gardens.plant(g, 1, "[deaf]");
      Gardens.plant(g, 3, "[jig]");
    };
    Walk.is("ab>b/ab>jig", ways, g -> g.walk(0, 3));
    Walk.is("ab>a/b/ab>jig", ways, g -> {
      g.rename(1, 30);
      return g.walk(0, 3);
    });
    Walk.is("cad>jig>ab>b/ab", ways, g -> g.walk(1, 2));
    Walk.is("ba>deaf>jig>ab", ways, g -> g.walk(4, 0));
    Walk.is("", Walk.pages("[ba]", ""), g -> g.walk(1, 0));
    Walk.is("jig", ways, g -> g.walk(3, 3));
    Walk.noIndex(NO_PAGE + ", the one or the other", ways, g -> g.walk(0, 6), g -> g.walk(6, 0),
        g -> g.walk(-1, -1));
    Walk.promise(33, "rank");
    Walk.reads("- `page`: a page - `steps`: 0 to 4");
    Walk.says("Returns RANK of so many steps, in least terms: how many, \"/\", of how many.");
    // Both thirds of page 0 and 1 go to page 2, which leads to nobody.
    Check.Past three = Walk.pages("[cad]", "[cad]", "");
    Walk.is("1/3 1/9 7/27 13/81 55/243", three, g -> ranks(g, 0));
    Walk.is("1/3 7/9 13/27 55/81 133/243", three, g -> ranks(g, 2));
    Walk.is("1/3 0/1 0/1 0/1 0/1", Walk.pages("[ba]", "[cad]", "[ba]"), g -> ranks(g, 0));
    Walk.noIndex(NO_PAGE, three, g -> g.rank(3, 0), g -> g.rank(-1, 5));
    Walk.noArgument("if steps is not 0 to 4", three, g -> g.rank(0, 5), g -> g.rank(0, -1));
  }

  private static String ranks(Pagegarden g, int page) {
    return g.rank(page, 0) + " " + g.rank(page, 1) + " " + g.rank(page, 2) + " " + g.rank(page, 3)
        + " " + g.rank(page, 4);
  }

  private static void names() {
    Walk.promise(34, "byName");
    Walk.reads("- `nth`: which one, from 0 on");
    Walk.says("Returns the nth page by NAMES; NONE if there are not so many.");
    // "b/ab" "ab" "a/b/ab" "a/ab" "ba"
    Check.Past five = g -> {
      for (int name : new int[] {20, 0, 30, 10, 1}) {
        g.plant(name);
      }
    };
    Walk.is("32104-1", five, g -> "" + g.byName(0) + g.byName(1) + g.byName(2) + g.byName(3)
        + g.byName(4) + g.byName(5));
    Walk.noArgument("if nth is below 0", five, g -> g.byName(-1));
    Walk.promise(35, "near");
    Walk.says("- `page`: a page - `isAhead`: whether the one ahead, otherwise the one behind");
    Walk.is("20", five, g -> "" + g.near(1, true) + g.near(1, false));
    Walk.says("Returns the page whose NAME is next to its NAME; NONE without one.");
    Walk.is("32101-14", five, g -> "" + g.near(2, true) + g.near(3, false) + g.near(0, true)
        + g.near(1, false) + g.near(0, true) + g.near(3, true) + g.near(0, false));
    Walk.is("0-1", five, g -> "" + g.near(4, true) + g.near(4, false));
    Walk.noIndex(NO_PAGE, five, g -> g.near(5, true), g -> g.near(-1, false));
    Walk.promise(36, "byPrefix");
    Walk.reads("- `prefix`: a PREFIX");
    Walk.says("Returns the set of pages whose NAMES begin with it.");
    Walk.is("31 12 1 4", five, g -> g.byPrefix(0) + " " + g.byPrefix(1) + " " + g.byPrefix(2) + " "
        + g.byPrefix(3));
    Walk.noArgument("if prefix is not 0 to 3", five, g -> g.byPrefix(-1), g -> g.byPrefix(4));
  }

  private static void words() {
    Walk.promise(37, "find");
    Walk.reads("- `word`: a WORD");
    Walk.says("Returns the set of pages that have it as one of the WORDS in their TEXT.");
    Check.Past some = Walk.pages("ab cad", "abcad", "[jig|ab]", "=jig`cad`", "");
    Walk.is("5 0 9 12", some, g -> g.find(0) + " " + g.find(1) + " " + g.find(2) + " "
        + g.find(9));
    Walk.noArgument("if word is not 0 to 9", some, g -> g.find(-1), g -> g.find(10));
    Walk.promise(38, "kinds");
    Walk.reads("- `one`: a WORD - `other`: a WORD - `op`: 0 to 2");
    Walk.says("Returns the set of pages that have a KIND \"#\" with 0 both WORDS, 1 one of both at "
        + "least, 2 the first one and not the other one.");
    Check.Past marked = Walk.pages("#ab #ba", "a#ab#cad", "=#ba", "#abba`#ab`(#ba)ab", "|#ba|#ab");
    Walk.is("17 23 2 4", marked, g -> g.kinds(0, 1, 0) + " " + g.kinds(0, 1, 1) + " "
        + g.kinds(0, 1, 2) + " " + g.kinds(1, 0, 2));
    Walk.is("19 19 0", marked, g -> g.kinds(0, 0, 0) + " " + g.kinds(0, 0, 1) + " "
        + g.kinds(0, 0, 2));
    Walk.noArgument("if one or other is not 0 to 9, or op not 0 to 2", marked,
        g -> g.kinds(-1, 0, 0), g -> g.kinds(10, 0, 0), g -> g.kinds(0, -1, 0),
        g -> g.kinds(0, 10, 0), g -> g.kinds(0, 0, -1), g -> g.kinds(0, 0, 3));
    Walk.promise(39, "all");
    Walk.says("- `what`: 0 all, 1 ORPHANS, 2 DEAD ENDS, 3 those with a REDIRECT, 4 those whose "
        + "REDIRECT LEADS to NONE, 5 those that are KEPT");
    Check.Past leading = Walk.then(Walk.pages("[ba]", "", "@ba", "@jig", "@ab\n[deaf]", ""), g -> {
      g.uproot(5);
      g.shown(2);
      g.shown(0);
    });
    Walk.is("31 28 10 28 8 5", leading, g -> g.all(0) + " " + g.all(1) + " " + g.all(2) + " "
        + g.all(3) + " " + g.all(4) + " " + g.all(5));
    Walk.says("Returns that set of pages.");
    Walk.is("000000", NOTHING, g -> "" + g.all(0) + g.all(1) + g.all(2) + g.all(3) + g.all(4)
        + g.all(5));
    Walk.noArgument("if what is not 0 to 5", leading, g -> g.all(-1), g -> g.all(6));
  }

  // ---- who watches and talks

  private static void watches() {
    Walk.promise(40, "watch");
    Walk.reads("---- who watches and talks - `user`: a USER - `page`: a page");
    Walk.says("- `isWatching`: whether the USER WATCHES it from now on (who begins has SEEN all of "
        + "it; who goes on, what was SEEN)");
    Check.Past watched = Walk.then(Walk.versions("a", "b"), g -> g.watch(3, 0, true));
    Check.Past written = Walk.then(watched, g -> {
      Gardens.write(g, 0, "c");
      Gardens.write(g, 0, "d");
    });
    Walk.is(0, watched, g -> g.unseen(3));
    Walk.is("12", written, g -> "" + g.watch(3, 0, true) + g.unseen(3));
    Walk.is("1000", written, g -> "" + g.watch(3, 0, false) + g.unseen(3) + g.watch(3, 0, true)
        + g.unseen(3));
    Walk.says("Returns 1 if the USER did so before, otherwise 0.");
    Walk.is("00110", Walk.pages(""), g -> "" + g.watch(2, 0, false) + g.watch(2, 0, true)
        + g.watch(2, 0, true) + g.watch(2, 0, false) + g.watch(4, 0, true));
    Walk.noIndex(NO_PAGE, watched, g -> g.watch(0, 1, true), g -> g.watch(5, -1, false));
    Walk.noArgument("if user is not 0 to 4", watched, g -> g.watch(5, 0, true),
        g -> g.watch(-1, 0, false));
    Walk.promise(41, "see");
    Walk.says("The USER has SEEN all VERSIONS of a page then.");
    Walk.is(0, Walk.then(written, g -> g.see(3, 0)), g -> g.unseen(3));
    Walk.reads("- `user`: a USER - `page`: a page");
    Walk.says("Returns how many VERSIONS the USER had not SEEN; REFUSED if the USER does not WATCH "
        + "it.");
    Walk.is("20", written, g -> "" + g.see(3, 0) + g.see(3, 0));
    Walk.is(30, Walk.then(watched, g -> {
      for (int i = 0; i < 30; i++) {
        Gardens.write(g, 0, "a".repeat(i % 2));
      }
    }), g -> g.see(3, 0));
    Walk.refused(written, g -> g.see(1, 0), g -> g.see(0, 0));
    Walk.noIndex(NO_PAGE, written, g -> g.see(3, 1), g -> g.see(5, -1));
    Walk.noArgument("if user is not 0 to 4", written, g -> g.see(5, 0), g -> g.see(-1, 0));
    Walk.promise(42, "unseen");
    Walk.reads("- `user`: a USER");
    Walk.says("Returns how many VERSIONS of all pages that the USER WATCHES are not SEEN.");
    Walk.is("30", Walk.then(written, g -> {
      g.plant(1);
      g.plant(2);
      g.watch(3, 1, true);
      Gardens.write(g, 1, "[ab]");
      Gardens.write(g, 2, "[ab]");
    }), g -> "" + g.unseen(3) + g.unseen(0));
    Walk.noArgument("if user is not 0 to 4", written, g -> g.unseen(-1), g -> g.unseen(5));
  }

  private static void talks() {
    Walk.promise(43, "talk");
    Walk.says("The DRAFT becomes a remark of USER behind those of a page; the DRAFT is empty "
        + "then.");
    Check.Past said = Walk.then(ONE, g -> {
      g.login(2);
      g.talk(0);
    });
    Walk.is("2:jig 2: ", said, g -> {
      g.talk(0);
      return g.remark(0, 0) + " " + g.remark(0, 1) + " " + g.draft();
    });
    Walk.reads("- `page`: a page");
    Walk.says("Returns how many remarks it has then.");
    Walk.is("23", said, g -> "" + g.talk(0) + g.talk(0));
    Walk.noIndex(NO_PAGE, said, g -> g.talk(1), g -> g.talk(-1));
    Walk.noState("if it has 6", Walk.then(said, g -> {
      for (int many = 1; many < 6; many++) {
        g.talk(0);
      }
      g.add(0, 0, -1);
    }), g -> g.talk(0));
    Walk.promise(44, "remark");
    Walk.reads("- `page`: a page - `nth`: which one, from 0 on");
    Walk.says("Returns the number of the USER, \":\", and the nth remark.");
    Walk.is("4:[a]\n\n", Walk.then(Walk.drafted(said, "[a]\n\n"), g -> {
      g.login(4);
      g.talk(0);
      g.login(0);
    }), g -> g.remark(0, 1));
    Walk.noIndex(NO_PAGE, said, g -> g.remark(1, 0), g -> g.remark(-1, 9));
    Walk.noArgument("if it has no such remark", said, g -> g.remark(0, 1),
        g -> g.remark(0, -1));
  }

  // ---- all

  private static void wholeGarden() {
    Walk.promise(45, "exported");
    Walk.reads("---- all");
    Walk.says("Returns page by page by NAMES: \"%\", the NAME, a blank, how many LINES, a LINE "
        + "END, its TEXT, a LINE END.");
    Check.Past three = g -> {
      g.allow(1, 2, 0);
      Gardens.plant(g, 1, "[ab]\n");
      Gardens.plant(g, 0, "");
      Gardens.plant(g, 39, "a");
      Gardens.plant(g, 9, "");
      g.uproot(1);
      Gardens.write(g, 2, "=a");
    };
    Walk.is("%a/b/jig 1\n=a\n%ba 2\n[ab]\n\n%jig 1\n\n", three, g -> g.exported());
    Walk.is("", NOTHING, g -> g.exported());
    Walk.promise(46, "reload");
    Walk.says("The garden becomes what exported() tells: the pages, numbered by NAMES from 0 on, "
        + "each with its TEXT as VERSION 0 by USER; nobody WATCHES, there are no remarks, no "
        + "RIGHTS for pages, and no page is KEPT; the DRAFT, USER, the RIGHTS for PREFIXES, and "
        + "garden() of 2 to 5 stay.");
    Check.Past used = Walk.drafted(Walk.then(three, g -> {
      g.watch(2, 0, true);
      g.talk(3);
      g.allowPage(2, 0, 0);
      g.see(0, 2);
      g.knock();
      g.knock();
      g.shown(0);
      g.shown(2);
      g.shown(2);
      g.login(4);
    }), "jig");
    Check.Past again = Walk.then(used, g -> g.reload());
    Walk.is("%a/b/jig 1\n=a\n%ba 2\n[ab]\n\n%jig 1\n\n", again, g -> g.exported());
    Walk.is("7 39 1 9", again, g -> g.all(0) + " " + g.ofPage(0, 0) + " " + g.ofPage(1, 0) + " "
        + g.ofPage(2, 0));
    Walk.is("=a 0 0 4 4", again, g -> g.text(0, 0) + " " + g.ofPage(0, 3) + " " + g.ofPage(0, 4)
        + " " + g.versionOf(0, 0, 0) + " " + g.writer(0, 0));
    Walk.is("000 000 2 0", again, g -> "" + g.watch(2, 0, false) + g.watch(2, 1, false)
        + g.watch(2, 2, false) + " " + g.ofPage(0, 15) + g.ofPage(1, 15) + g.ofPage(2, 15) + " "
        + g.right(2, 1) + " " + g.all(5));
    Walk.is("jig 4 1 2 2 1 3 1", again, g -> g.draft() + " " + g.garden(1) + " " + g.garden(2)
        + " " + g.garden(3) + " " + g.garden(4) + " " + g.garden(5) + " " + g.garden(7) + " "
        + g.garden(8));
    Walk.says("Returns how many pages there are.");
    Walk.is(3, used, g -> g.reload());
    Walk.promise(47, "garden");
    Walk.says("- `what`: 0 how many pages, 1 USER, 2 how often REFUSED was told ever, 3 how often "
        + "one knocked, 4 how often ever a page was SHOWN that was not KEPT just ahead of that, 5 "
        + "how often ever one that was, 6 SIGNS of the DRAFT, 7 how many VERSIONS of all pages are "
        + "kept, 8 for how many pairs of a USER and a PREFIX, or a USER and a page, a RIGHT is "
        + "told");
    int[] due = {3, 4, 1, 2, 2, 1, 3, 4, 2};
    for (int i = 0; i < due.length; i++) {
      int what = i;
      Walk.is(due[i], used, g -> g.garden(what));
    }
    Walk.says("Returns that.");
    for (int i = 0; i < due.length; i++) {
      int what = i;
      Walk.is(0, NOTHING, g -> g.garden(what));
    }
    Walk.noArgument("if what is not 0 to 8", used, g -> g.garden(-1), g -> g.garden(9));
    Walk.promise(48, "knock");
    Walk.says("Knocks at the gate.");
    Walk.is(3, Walk.then(used, g -> g.knock()), g -> g.garden(3));
    Walk.says("Returns how often one knocked, with this.");
    Walk.is("12", NOTHING, g -> "" + g.knock() + g.knock());
    sound(used);
  }

  /** SoundTest breaks each of these. */
  private static void sound(Check.Past used) {
    Walk.promise(49, "isSound");
    Walk.says("Returns whether all of this is so (nothing of that counts as SHOWN): of each page "
        + "the TREE, WRITTEN, is its TEXT, and NODE 0 has all of its SIGNS; if it is KEPT, it is, "
        + "made anew, the same; its newest VERSION is its TEXT, and it has as many WRITERS as "
        + "WORDS; the JOIN of its TEXT and its oldest VERSION that is kept, over the one behind "
        + "that (the same one, if there is none behind), is the same the other way round; those "
        + "HERE are those that, by reading all pages anew, LEAD TO it; RANKS of 2 steps of all "
        + "pages, if there are some, are together 1; and of exported(), read again, the NAMES and "
        + "TEXTS are the same.");
    Walk.is("true 2 1 5", used, g -> g.isSound() + " " + g.garden(4) + " " + g.garden(5) + " "
        + g.all(5));
    Walk.is(true, NOTHING, g -> g.isSound());
    Walk.is(true, TWELVE, g -> g.isSound());
    // A join, a quarrel, and no line at all.
    Walk.is(true, Walk.versions("d\nb", "a\nb", "a\nc"), g -> g.isSound());
    Walk.is(true, Walk.versions("a", "b", "c"), g -> g.isSound());
    Walk.is(true, Walk.versions("b", "a\nb", "a"), g -> g.isSound());
  }

  private static void lastPromises() {
    Walk.promise(50, "digest");
    Walk.says("Computes a checksum.");
    Walk.is(false, ONE, g -> {
      long first = g.digest();
      g.rub(1);
      return first == g.digest();
    });
    // ChecksumTest makes it again of the other answers.
    Walk.says("A number d starts with 5803; then d becomes d * 31 + v, which wraps around as a "
        + "64-bit integer, for each v in this order (of a text how many signs of any kind it has, "
        + "then each one's code, as in ASCII): garden() of 0 to 8; all() of 0 to 5; page by page "
        + "by NAMES its number, ofPage() of 0 to 15, its TEXT, its NODES' KINDS, sets() of 0 to 3, "
        + "the WRITERS of its WORDS, and it, SHOWN (made anew, without being KEPT or counted by "
        + "that); 1 if isSound(), otherwise 0.");
    long due = 5803;
    int[] told = {1, 2, 0, 0, 0, 0, 3, 1, 0, 1, 1, 1, 0, 0, 0, 0,
        0, 2, 1, 0, 0, 0, 0, 3, 0, 1, -1, 0, 1, 1, 0, 0, 2, 'a', 'b', 0, 8, 10, 0, 0, 1, 1, 2,
        3, 'a', 'b', '\n', 1};
    for (int v : told) {
      due = due * 31 + v;
    }
    Walk.is(due, g -> {
      g.login(2);
      ONE.of(g);
    }, g -> g.digest());
    Walk.says("Returns d.");
    Walk.is("true 0 0", ONE, g -> (g.digest() == g.digest()) + " " + g.garden(4) + " " + g.all(5));
    Walk.reads("## Not promised How the state is held inside the object is free, as are the speed "
        + "of each call, the text of toString and the behaviour of equals and hashCode. Use of one "
        + "object from several threads at once is not promised to be safe. Nothing is promised "
        + "beyond the answers and state changes described above, and nothing about an object after "
        + "its 512th call.");
    Walk.ends();
  }
}

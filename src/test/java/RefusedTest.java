/**
 * What is REFUSED, each reason by itself: it is counted and nothing else changes, the draft stays;
 * what just is not refused; and the exceptions that go ahead of it.
 */
public final class RefusedTest {
  public static void main(String[] args) {
    addsOneSignTooMany();
    changesWithoutRight();
    needsTheNewNamesRight();
    mergesNeedBothRights();
    writesOneSignTooMany();
    renamesUpTo400();
    quarrels();
    renamesToWhatIsNamed();
    renamesWithoutPagesThatWent();
    splitsWithoutLines();
    seesWithoutWatching();
    isNotRefused();
    exceptionsGoAhead();
    isCountedEver();
    Check.end("RefusedTest");
  }

  private static void is(String what, int answer, Check.Past past, Check.Asked call) {
    Check.due(what, answer, past, call);
  }

  /** Whatever is added: the 300th sign is taken, and with one more nothing is. */
  private static void addsOneSignTooMany() {
    for (int kind = 0; kind <= 14; kind++) {
      for (int b = -1; b <= 9; b += 10) {
        addsUpTo300(kind, b);
      }
    }
  }

  private static void addsUpTo300(int kind, int b) {
    int k = kind;
    int word = b;
    int signs = Check.made(g -> { }).add(k, 38, word);
    String what = "add(" + k + ", 38, " + word + ")";
    String ends = "\n".repeat(300);
    is(what + " up to 300", 300, g -> Gardens.draft(g, ends.substring(signs)),
        g -> g.add(k, 38, word));
    Check.refused(what + " up to 301", g -> Gardens.draft(g, ends.substring(signs - 1)),
        g -> g.add(k, 38, word));
    Check.refused(what + " to 300", g -> Gardens.draft(g, ends), g -> g.add(k, 38, word));
    // A blank comes ahead of a word, a line end ahead of a line.
    int ahead = k == 0 || k >= 2 && k <= 5 ? 1 : 0;
    String letters = "a".repeat(300);
    is(what + " behind a letter up to 300", 300,
        g -> Gardens.draft(g, letters.substring(signs + ahead)), g -> g.add(k, 38, word));
    Check.refused(what + " behind a letter up to 301",
        g -> Gardens.draft(g, letters.substring(signs + ahead - 1)), g -> g.add(k, 38, word));
  }

  /** Two pages that are kept, and two versions of the first one. */
  private static void twoPages(Pagegarden g) {
    Gardens.plant(g, 0, "ab\n=ba\ncad");
    Gardens.plant(g, 11, "[ab]");
    Gardens.write(g, 0, "ab\n=ba\njig");
    g.shown(1);
    g.shown(0);
    g.watch(3, 0, true);
    Gardens.draft(g, "fig\n=ba\ncad");
  }

  private interface Change {
    int of(Pagegarden g);
  }

  private static void changesWithoutRight() {
    changes("write", g -> g.write(0));
    changes("writeOver", g -> g.writeOver(0, 0));
    changes("writeSection", g -> g.writeSection(0, 1));
    changes("rename", g -> g.rename(0, 2));
    changes("split", g -> g.split(0, 1, 2));
    changes("merge", g -> g.merge(0, 1));
    changes("uproot", g -> g.uproot(0));
    changes("undoEdit", g -> g.undoEdit(0, 1));
    changes("restore", g -> g.restore(0, 0));
  }

  /** USER 0 may change it with 2 alone, whoever else may not. */
  private static void changes(String what, Change change) {
    for (int right = -1; right <= 2; right++) {
      int told = right;
      Check.Past past = g -> {
        twoPages(g);
        g.allowPage(0, 0, told);
        g.allowPage(1, 0, 2);
        g.allowPage(2, 0, 0);
      };
      mayChange(what + " with right " + right + " for the page", right == -1 || right == 2, past,
          change);
      Check.Past byPrefix = g -> {
        twoPages(g);
        g.allow(0, 1, 2);
        g.allow(0, 0, told);
        // Of the new name, too.
        g.allow(1, 0, 0);
      };
      mayChange(what + " with right " + right + " for the prefix", right == -1 || right == 2,
          byPrefix, change);
    }
    mayChange(what + " with the page's right ahead of the prefix's", !what.equals("rename")
        && !what.equals("split"), g -> {
      twoPages(g);
      g.allow(0, 0, 0);
      g.allow(0, 1, 2);
      g.allowPage(0, 0, 2);
    }, change);
    mayChange(what + " without the page's right ahead of the prefix's", false, g -> {
      twoPages(g);
      g.allow(0, 0, 2);
      g.allowPage(0, 0, 1);
    }, change);
    mayChange(what + " by another user", false, g -> {
      twoPages(g);
      g.allowPage(4, 0, 0);
      g.login(4);
    }, change);
  }

  private static void mayChange(String what, boolean may, Check.Past past, Change change) {
    if (may) {
      Check.due(what, true, past, g -> change.of(g) >= 0);
    } else {
      Check.refused(what, past, change::of);
    }
  }

  private static void needsTheNewNamesRight() {
    int[] names = {5, 15, 25, 35};
    for (int told = 0; told < 4; told++) {
      for (int right = 0; right <= 2; right++) {
        int prefix = told;
        int r = right;
        Check.Past past = g -> {
          twoPages(g);
          g.allowPage(0, 0, 2);
          g.allow(0, prefix, r);
        };
        for (int i = 0; i < 4; i++) {
          int name = names[i];
          // "a/b/" begins with "", "a/" and itself, but not with "b/".
          boolean isOther = prefix != 0 && prefix != i && !(prefix == 1 && i == 3);
          boolean may = r == 2 || isOther;
          String what = " to " + Gardens.name(name) + " with " + r + " for prefix " + prefix;
          mayChange("plant" + what, may, past, g -> g.plant(name));
          mayChange("rename" + what, may, past, g -> g.rename(0, name));
          mayChange("split" + what, may, past, g -> g.split(0, 0, name));
        }
      }
    }
    Check.Past longest = g -> {
      twoPages(g);
      g.allow(0, 0, 0);
      g.allow(0, 1, 2);
      g.allow(0, 3, 1);
    };
    mayChange("plant with the longest prefix", true, longest, g -> g.plant(15));
    mayChange("plant without the longest prefix", false, longest, g -> g.plant(33));
    mayChange("plant with another one's prefix", false, longest, g -> g.plant(25));
    mayChange("a right of a page that went", true, g -> {
      twoPages(g);
      g.allowPage(0, 0, 2);
      g.allowPage(1, 0, 0);
      g.uproot(0);
      g.login(1);
    }, g -> g.plant(0));
  }

  private static void mergesNeedBothRights() {
    for (int right = 0; right <= 1; right++) {
      int told = right;
      Check.Past past = g -> {
        twoPages(g);
        g.allowPage(0, 1, told);
      };
      Check.refused("merge with right " + right + " of the other one", past, g -> g.merge(0, 1));
      Check.refused("merge with right " + right + " of the one", past, g -> g.merge(1, 0));
    }
  }

  /** A past that takes another sign, or none. */
  private interface MorePast {
    void of(Pagegarden g, String more);
  }

  /** Each change that can make 401 signs: with 400 it is taken. */
  private static void writesOneSignTooMany() {
    signs("writeOver", 2, (g, more) -> {
      Gardens.plant(g, 0, "a\nb\nc");
      Gardens.write(g, 0, "a\nb\n" + "c".repeat(200));
      Gardens.draft(g, more + "a".repeat(197) + "\nb\nc");
    }, g -> g.writeOver(0, 0));
    signs("writeSection ahead of all", 1, (g, more) -> {
      Gardens.plant(g, 0, "=" + "a".repeat(199));
      Gardens.draft(g, more + "b".repeat(199));
    }, g -> g.writeSection(0, 0));
    signs("writeSection behind all", 1, (g, more) -> {
      Gardens.plant(g, 0, "a".repeat(199) + "\n=b");
      Gardens.draft(g, "=" + "b".repeat(199) + more);
    }, g -> g.writeSection(0, 1));
    signs("writeSection in the middle", 1, (g, more) -> {
      Gardens.plant(g, 0, "a".repeat(99) + "\n=b\n=" + "c".repeat(100));
      Gardens.draft(g, "b".repeat(198) + more);
    }, g -> g.writeSection(0, 1));
    signs("rename of what another page links", 1, (g, more) -> {
      Gardens.plant(g, 0, "=" + "a".repeat(195) + "[ba]");
      Gardens.plant(g, 1, "");
      Gardens.draft(g, more + "b".repeat(195));
      g.writeSection(0, 0);
      Gardens.draft(g, "jig");
      g.allowPage(0, 0, 0);
    }, g -> g.rename(1, 31));
    signs("rename of what it puts in itself", 1, (g, more) -> {
      Gardens.plant(g, 0, "=" + "a".repeat(195) + "{ab}");
      Gardens.draft(g, more + "b".repeat(195));
      g.writeSection(0, 0);
    }, g -> g.rename(0, 31));
    signs("rename of where it leads on", 1, (g, more) -> {
      Gardens.plant(g, 0, "@ba\n=" + "a".repeat(200));
      Gardens.plant(g, 1, "");
      Gardens.draft(g, "@ba\n" + "b".repeat(190) + more);
      g.writeSection(0, 0);
    }, g -> g.rename(1, 31));
    signs("split", 1, (g, more) -> {
      Gardens.plant(g, 0, "=a\n=" + "b".repeat(194));
      Gardens.draft(g, more + "c".repeat(193));
      g.writeSection(0, 0);
    }, g -> g.split(0, 1, 33));
    signs("merge", 1, (g, more) -> {
      Gardens.plant(g, 0, "a".repeat(200));
      Gardens.plant(g, 1, more + "b".repeat(199));
    }, g -> g.merge(0, 1));
    signs("undoEdit", 3, (g, more) -> {
      Gardens.plant(g, 0, "a".repeat(200) + "\nb\nc");
      Gardens.write(g, 0, "a\nb\nc");
      Gardens.write(g, 0, "a\nb\n" + "c".repeat(197) + more);
    }, g -> g.undoEdit(0, 1));
  }

  /** Each name is as long as it is: so is what is left for it. */
  private static void renamesUpTo400() {
    // Names 0 and 1 are as short as can be: with them a text gets no longer.
    for (int name = 2; name < 40; name++) {
      int fresh = name;
      String mark = Gardens.name(name);
      signs("rename to " + mark, 1, (g, more) -> {
        Gardens.plant(g, fresh == 10 ? 20 : 10, "=" + "a".repeat(190) + "[ba]");
        Gardens.plant(g, 1, "");
        // A head of 193 signs and the name, and a line end ahead of it.
        Gardens.draft(g, "b".repeat(400 - 193 - mark.length() - 1) + more);
        g.writeSection(0, 0);
      }, g -> g.rename(1, fresh));
    }
  }

  /** Page 0 has 400 signs then, and with one more it would have 401. */
  private static void signs(String what, int answer, MorePast past, Check.Asked call) {
    Check.due(what + ": page 0 has 400 signs", 400, g -> past.of(g, ""), g -> {
      Check.due(what + " up to 400", answer, () -> call.of(g));
      return g.ofPage(0, 1);
    });
    Check.refused(what + " up to 401", g -> {
      past.of(g, "a");
      g.shown(0);
    }, call);
  }

  private static void quarrels() {
    Check.Past past = g -> {
      Gardens.plant(g, 0, "ab\nba");
      Gardens.write(g, 0, "ab\ncad");
      Gardens.write(g, 0, "ab\ndeaf");
      g.shown(0);
      Gardens.draft(g, "ab\negg");
    };
    Check.refused("writeOver with a quarrel", past, g -> g.writeOver(0, 0));
    Check.refused("undoEdit with a quarrel", past, g -> g.undoEdit(0, 1));
    is("writeOver the newest", 3, past, g -> g.writeOver(0, 2));
    is("undoEdit the newest", 3, past, g -> g.undoEdit(0, 2));
  }

  private static void renamesToWhatIsNamed() {
    String[] naming = {"[cad]", "a[cad|]", "{cad}", "{cad||}", "@cad", "=a\n|[ab]|{cad}", "*[cad]"};
    for (String text : naming) {
      Check.refused("rename to what is named by " + text, g -> {
        Gardens.plant(g, 0, "");
        Gardens.plant(g, 1, text);
        g.shown(1);
        Gardens.draft(g, "jig");
      }, g -> g.rename(0, 2));
      Check.refused("rename to what it names itself by " + text, g -> Gardens.plant(g, 0, text),
          g -> g.rename(0, 2));
    }
    String[] other = {"cad", "#cad", "(cad)", "`[cad]`", "[ab|cad]", "{0|cad}", "{ab|cad}",
        "\n@cad", "[cad ]", "[cadb]", "[a/cad]", "@cad ", "[cad", "|[cad|[ab]|{cad|a}", "/cad"};
    for (String text : other) {
      int named = text.contains("[ab") || text.contains("{ab") ? 1 : 0;
      is("rename to what is not named by " + text, named, g -> {
        Gardens.plant(g, 0, "");
        Gardens.plant(g, 1, text);
      }, g -> g.rename(0, 2));
    }
  }

  /** Nothing of a page that went is in the way: neither what it named, nor how long it was. */
  private static void renamesWithoutPagesThatWent() {
    Check.due("rename to what only a page named that went", 0, g -> {
      Gardens.plant(g, 0, "");
      Gardens.plant(g, 1, "[cad]{cad}");
      g.uproot(1);
    }, g -> g.rename(0, 2));
    Check.due("rename of what only a long page named that went", 1, g -> {
      Gardens.plant(g, 0, "[ab]");
      g.plant(1);
      Gardens.makeLong(g, 1, Gardens.words(200), Gardens.words(194) + "[ab]");
      Check.due("it is refused while it is there", -9, () -> g.rename(0, 2));
      g.uproot(1);
    }, g -> g.rename(0, 2));
  }

  private static void splitsWithoutLines() {
    Check.Past past = g -> {
      Gardens.plant(g, 0, "=ab");
      g.shown(0);
      Gardens.draft(g, "jig");
    };
    Check.refused("split a section without lines", past, g -> g.split(0, 0, 1));
    is("split the other one", 1, past, g -> g.split(0, 1, 1));
    is("split an empty line", 1, g -> Gardens.plant(g, 0, "\n=ab"), g -> g.split(0, 0, 1));
  }

  private static void seesWithoutWatching() {
    Check.Past past = g -> {
      twoPages(g);
      g.watch(4, 1, true);
      g.watch(4, 1, false);
    };
    Check.refused("see what another user watches", past, g -> g.see(2, 0));
    Check.refused("see another page", past, g -> g.see(3, 1));
    Check.refused("see what one watches no more", past, g -> g.see(4, 1));
    is("see what one watches", 0, past, g -> g.see(3, 0));
  }

  private static void isNotRefused() {
    Check.Past past = g -> {
      Gardens.plant(g, 0, "[ab]{ab}");
      Gardens.plant(g, 1, "@ab");
      g.shown(0);
      Gardens.draft(g, "jig");
      g.allowPage(0, 0, 0);
      g.allow(0, 0, 0);
    };
    Pagegarden twin = Check.made(past);
    String all = Gardens.everything(twin);
    Check.due("rename to its own name does nothing", all, past, g -> {
      Check.due("rename to its own name", 0, () -> g.rename(0, 0));
      Check.due("nothing is counted", 0, () -> g.garden(2));
      return Gardens.everything(g);
    });
    is("talk needs no right", 1, past, g -> g.talk(0));
    is("take needs no right", 8, past, g -> g.take(0, 0));
    is("watch needs no right", 0, past, g -> g.watch(0, 0, true));
    is("allowPage needs no right", 0, past, g -> g.allowPage(0, 0, 2));
    is("reload needs no right", 2, past, g -> g.reload());
    Check.due("shown needs no right", "ab!\n", past, g -> g.shown(0));
    is("the same text is no quarrel", 0, g -> {
      Gardens.plant(g, 0, "ab");
      Gardens.draft(g, "ab");
    }, g -> g.writeOver(0, 0));
  }

  private static void exceptionsGoAhead() {
    Check.Past past = g -> {
      twoPages(g);
      g.allow(0, 0, 0);
      g.allow(0, 1, 1);
    };
    Check.noIndex("write no page", past, g -> g.write(2));
    Check.noArgument("writeOver no version", past, g -> g.writeOver(0, 2));
    Check.noArgument("writeSection no section", past, g -> g.writeSection(0, 2));
    Check.noArgument("rename to no name", past, g -> g.rename(0, 40));
    Check.noState("rename to another one's name", past, g -> g.rename(0, 11));
    Check.noArgument("split no section", past, g -> g.split(0, 2, 2));
    Check.noArgument("split to no name", past, g -> g.split(0, 1, 40));
    Check.noState("split to a name that is taken", past, g -> g.split(0, 1, 11));
    Check.noState("split to its own name", past, g -> g.split(0, 1, 0));
    Check.noIndex("merge no page", past, g -> g.merge(2, 2));
    Check.noArgument("merge the same", past, g -> g.merge(0, 0));
    Check.noIndex("uproot no page", past, g -> g.uproot(2));
    Check.noArgument("undoEdit the first", past, g -> g.undoEdit(0, 0));
    Check.noArgument("restore no version", past, g -> g.restore(0, 2));
    Check.noArgument("plant no name", past, g -> g.plant(40));
    Check.noState("plant a name that is taken", past, g -> g.plant(11));
    Check.noArgument("see by no user", past, g -> g.see(5, 0));
    Check.noIndex("see no page", past, g -> g.see(5, 2));
    Check.noArgument("add what is no kind to 300", g -> Gardens.draft(g, "a".repeat(300)),
        g -> g.add(15, 0, 0));
    Check.Past full = g -> {
      Gardens.plant(g, 0, "=ab");
      for (int name = 1; name < 12; name++) {
        g.plant(name);
      }
      g.allow(0, 0, 0);
    };
    Check.noState("plant a thirteenth page without right", full, g -> g.plant(30));
    Check.noState("split to a thirteenth page without right", full, g -> g.split(0, 1, 30));
    Check.noState("split no line to a thirteenth page", full, g -> g.split(0, 0, 30));
    Check.noArgument("a wrong name goes ahead of twelve pages", full, g -> g.plant(40));
    Check.noArgument("no section goes ahead of twelve pages", full, g -> g.split(0, 2, 30));
    Check.noIndex("no page goes ahead of a wrong name", full, g -> g.split(12, 9, 40));
  }

  private static void isCountedEver() {
    Pagegarden g = new Pagegarden();
    Gardens.plant(g, 0, "=ab");
    g.allow(0, 0, 0);
    g.write(0);
    Check.due("one", 1, () -> g.garden(2));
    // Two reasons are one refusal.
    g.split(0, 0, 1);
    Check.due("two", 2, () -> g.garden(2));
    g.see(0, 0);
    g.allow(0, 0, -1);
    g.login(3);
    g.uproot(0);
    g.reload();
    Check.due("three, when the page went", 3, () -> g.garden(2));
    Gardens.draft(g, "a".repeat(300));
    g.add(6, 0, 0);
    Check.due("four", 4, () -> g.garden(2));
    Check.noArgument("an exception is none", g, () -> g.add(15, 0, 0));
    Check.due("four still", 4, () -> g.garden(2));
  }
}

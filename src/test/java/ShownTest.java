/** Promise 27: pages as they are shown, and which of them are kept. */
public final class ShownTest {
  public static void main(String[] args) {
    showsLines();
    showsPaths();
    showsStyles();
    showsLinks();
    showsNotes();
    showsPlaces();
    showsParts();
    showsArguments();
    showsPartsInParts();
    showsTwelveParts();
    showsTheLastPage();
    showsArgumentsInTheDeepestPart();
    keepsFour();
    keepsTillTextsChange();
    keepsWhatWasNotPutIn();
    keepsTillNamesLeadElsewhere();
    keepsTillRedirectsLeadElsewhere();
    keepsTillAnyNameLeadsElsewhere();
    keepsTillAnyRedirectLeadsElsewhere();
    dropsAnyOfFour();
    wrongInputs();
    Check.end("ShownTest");
  }

  private static void shows(String text, String due) {
    Pagegarden g = new Pagegarden();
    Gardens.plant(g, 0, text);
    Check.due("shown " + text, due, () -> g.shown(0));
  }

  private static void showsLines() {
    shows("", "\n");
    shows("\n", "\n\n");
    shows("ab", "ab\n");
    shows("ab\n\n>ba\n>", "ab\n\n> ba\n> \n");
    shows("*a\n**b\n***c\n****d\n*", "- a\n-- b\n--- c\n****d\n- \n");
    shows("|ab|ba|\n|\n||", "ab | ba | \n\n | \n");
    shows("@cad\n@cad", "@cad\n@cad\n");
    shows("`a'b`#ab c#", "a'b c#\n");
    shows("a#ab", "a\n");
  }

  private static void showsPaths() {
    shows("=a\n==b\n==c\n=d\n==e\n===f", "1 a\n1.1 b\n1.2 c\n2 d\n2.1 e\n2.1.1 f\n");
    shows("===a\n===b\n==c\n===d\n=e\n===f", "0.0.1 a\n0.0.2 b\n0.1 c\n0.1.1 d\n1 e\n1.0.1 f\n");
    shows("=\n=a", "1 \n2 a\n");
    shows("=a\n".repeat(11), String.join("\n", "1 a", "2 a", "3 a", "4 a", "5 a", "6 a", "7 a",
        "8 a", "9 a", "10 a", "11 a", "", ""));
  }

  private static void showsStyles() {
    shows("'a'", "<1>a<0>\n");
    shows("'a_b'c_d", "<1>a<3>b<2>c<0>d\n");
    shows("a'", "a<1><0>\n");
    shows("_a\n'b", "<2>a<0>\n<1>b<0>\n");
    shows("''", "<1><0>\n");
    shows("='a\n*_b\n>'c", "1 <1>a<0>\n- <2>b<0>\n> <1>c<0>\n");
    shows("|'a|b_|'", "<1>a | b<3> | <2><0>\n");
    shows("`'`(_)[ab|']", "'^1'\n^1: _\n");
  }

  private static void showsLinks() {
    shows("[ab] [ba] [ab|c] [ba|c] [ab|] [ba|]", "ab ba? c c?  ?\n");
    shows("[ab|a|`b'|(c)]", "a|`b'|(c)\n");
    shows("[//]", "//?\n");
    Pagegarden g = new Pagegarden();
    Gardens.plant(g, 0, "[b/ab][a/b/jig|j]");
    Gardens.plant(g, 39, "");
    Check.due("links with prefixes", "b/ab?j\n", () -> g.shown(0));
    Gardens.plant(g, 1, "@ba\n[ba]");
    Check.due("a link to nothing but itself", "@ba\nba?\n", () -> g.shown(2));
  }

  private static void showsNotes() {
    shows("a(b)c()\n(d)", "a^1c^2\n^3\n^1: b\n^2: \n^3: d\n");
    shows("(a [ab] 'b#c)", "^1\n^1: a [ab] 'b#c\n");
    Pagegarden g = new Pagegarden();
    Gardens.plant(g, 0, "(a){ba}(d)");
    Gardens.plant(g, 1, "(b)e(c)");
    Check.due("notes in parts", "^1^2e^3^4\n^1: a\n^2: b\n^3: c\n^4: d\n", () -> g.shown(0));
  }

  private static void showsPlaces() {
    shows("{0}{1|ab}{2|a|'b}{0|}", "aba|'b\n");
  }

  private static void showsParts() {
    shows("{ba}", "?\n");
    shows("{ab}", "!\n");
    Pagegarden g = new Pagegarden();
    Gardens.plant(g, 0, ">a{ba}b");
    Gardens.plant(g, 1, "=a\n\n*b'c'\n**d_\n>e\n|f|g|\nh[ab][cad|i][cad]`j`#a");
    Check.due("all bodies of a part",
        "> aa bc d e f | g |  habi?cad?jb\n", () -> g.shown(0));
    Gardens.write(g, 1, "");
    Check.due("an empty part", "> ab\n", () -> g.shown(0));
    Gardens.write(g, 1, "\na\n\n\n=\nb\n");
    Check.due("a head without a body", "> aa  bb\n", () -> g.shown(0));
    Gardens.write(g, 1, "@cad\na");
    Gardens.plant(g, 2, "c\nd");
    Check.due("a part through a redirect", "> ac db\n", () -> g.shown(0));
    Gardens.write(g, 2, "@ba");
    Check.due("a part into a ring", "> a?b\n", () -> g.shown(0));
    Gardens.write(g, 0, "'{ba|'}{ba|_}'");
    Gardens.write(g, 1, "'{0}_{0}");
    Check.due("no styles in parts, but in arguments they are signs", "<1>''__<0>\n",
        () -> g.shown(0));
    Gardens.write(g, 0, "|a|{ba}|b");
    Gardens.write(g, 1, "|c|d\n|e|f");
    Check.due("rows in rows", "a | c | d e | f | b\n", () -> g.shown(0));
  }

  private static void showsArguments() {
    Pagegarden g = new Pagegarden();
    Gardens.plant(g, 0, "{ba|a b|[c]}{ba}{ba|}{ba|||d}");
    Gardens.plant(g, 1, "({0}){0}{1|e}{2|f|g}{0|h}/");
    Check.due("arguments and defaults",
        "^1a b[c]f|ga b/^2ef|gh/^3ef|g/^4d/\n"
            + "^1: {0}\n^2: {0}\n^3: {0}\n^4: {0}\n", () -> g.shown(0));
    Gardens.plant(g, 2, "{0}{ba|{1}|(a)|'}");
    Gardens.write(g, 1, "{0|a}{1|b}{2|c}");
    Gardens.write(g, 0, "{cad|d|e}");
    Check.due("a place ends what would be a part", "d{ba|e|^1|}\n^1: a\n", () -> g.shown(0));
    Gardens.write(g, 2, "{0}{ba||(a)|'}{1}");
    Check.due("each part has its own arguments", "d(a)'e\n", () -> g.shown(0));
    Gardens.write(g, 2, "{ba}");
    Check.due("none go further down", "abc\n", () -> g.shown(0));
  }

  private static void showsPartsInParts() {
    Pagegarden g = new Pagegarden();
    Gardens.plant(g, 0, "0{ba}0");
    Gardens.plant(g, 1, "1{cad}1{cad}");
    Gardens.plant(g, 2, "2{deaf}2");
    Gardens.plant(g, 3, "a{egg}a{jig}");
    Gardens.plant(g, 4, "b");
    Check.due("a part in a part in a part has none",
        "012a!a?212a!a?20\n", () -> g.shown(0));
    Check.due("one less", "12aba?212aba?2\n", () -> g.shown(1));
    Gardens.write(g, 3, "{ba}{cad}{deaf}{ab}");
    Check.due("all that are on the way", "012!!!!212!!!!20\n", () -> g.shown(0));
    Check.due("not on the way", "12!!!0!0212!!!0!02\n", () -> g.shown(1));
  }

  private static void showsTwelveParts() {
    Pagegarden g = new Pagegarden();
    Gardens.plant(g, 0, "{ba}".repeat(13) + "\n{cad}{ba}");
    Gardens.plant(g, 1, "a");
    Check.due("twelve parts", "a".repeat(12) + "!\n?!\n", () -> g.shown(0));
    Gardens.write(g, 1, "a{cad}");
    Gardens.plant(g, 2, "b");
    Check.due("those in parts are counted", "ab".repeat(6) + "!!!!!!!\n!!\n", () -> g.shown(0));
    Gardens.write(g, 1, "a{cad}{cad}{cad}{cad}");
    Check.due("the limit within a part", "abbbbabbbbab!!!!!!!!!!!!!\n!!\n",
        () -> g.shown(0));
  }

  /** The first page and the last one, each as it is shown and put in. */
  private static void showsTheLastPage() {
    Pagegarden g = new Pagegarden();
    for (int i = 0; i < 12; i++) {
      Gardens.plant(g, i, "=" + Gardens.WORDS[i % 10] + "[ab]{a/ba|c}{0}");
    }
    Check.due("the first page", "1 ababbaab!c\n", () -> g.shown(0));
    Check.due("the last page", "1 baab!\n", () -> g.shown(11));
    Gardens.write(g, 11, "{0}a{ab}");
    Check.due("the last page in the first one", "1 ababca!\n", () -> g.shown(0));
    Check.due("the first page in the last one", "aabab!\n", () -> g.shown(11));
    kept(g, 1 + 2048);
  }

  private static void showsArgumentsInTheDeepestPart() {
    Pagegarden g = new Pagegarden();
    Gardens.plant(g, 0, "{ba|c}{0|d}");
    Gardens.plant(g, 1, "{0}{cad|e}");
    Gardens.plant(g, 2, "{0}{deaf|f|g}{0}");
    Gardens.plant(g, 3, "{0}{1}{2|h}{egg|i}{0}");
    Check.due("each part's own arguments", "cefgh?fed\n", () -> g.shown(0));
  }

  private static void kept(Pagegarden g, int due) {
    Check.due("kept pages", due, () -> g.all(5));
  }

  private static void keepsFour() {
    Pagegarden g = new Pagegarden();
    for (int i = 0; i < 6; i++) {
      g.plant(i);
      g.shown(i);
    }
    kept(g, 4 + 8 + 16 + 32);
    Check.due("anew", 6, () -> g.garden(4));
    Check.due("kept", 0, () -> g.garden(5));
    g.shown(2);
    Check.due("kept", 1, () -> g.garden(5));
    g.shown(0);
    kept(g, 1 + 4 + 16 + 32);
    Check.due("anew", 7, () -> g.garden(4));
    Check.due("page 2 is kept", 1, () -> g.ofPage(2, 14));
    Check.due("page 3 is not", 0, () -> g.ofPage(3, 14));
    g.digest();
    g.isSound();
    Check.due("a digest shows nothing", 7, () -> g.garden(4));
    Check.due("a digest shows nothing", 1, () -> g.garden(5));
    kept(g, 1 + 4 + 16 + 32);
    g.uproot(4);
    kept(g, 1 + 4 + 32);
    Gardens.plant(g, 4, "jig");
    kept(g, 1 + 4 + 32);
    Check.due("a new page is not the old one", "jig\n", () -> g.shown(4));
    Check.due("anew", 8, () -> g.garden(4));
    g.uproot(4);
    g.shown(1);
    kept(g, 1 + 2 + 4 + 32);
    g.shown(3);
    kept(g, 1 + 2 + 4 + 8);
    g.reload();
    kept(g, 0);
    Check.due("reload keeps how often", 10, () -> g.garden(4));
    Check.due("reload keeps how often", 1, () -> g.garden(5));
  }

  private static void keepsTillTextsChange() {
    Pagegarden g = new Pagegarden();
    Gardens.plant(g, 0, "{ba}{jig}");
    Gardens.plant(g, 1, "{cad}");
    Gardens.plant(g, 2, "a");
    Gardens.plant(g, 3, "[ab][ba][cad]");
    for (int i = 0; i < 4; i++) {
      g.shown(i);
    }
    kept(g, 15);
    Gardens.write(g, 2, "a");
    kept(g, 15);
    Gardens.write(g, 2, "b");
    kept(g, 8);
    Check.due("shown anew", "b?\n", () -> g.shown(0));
    g.shown(1);
    Gardens.write(g, 0, "{ba}");
    kept(g, 8 + 2);
    g.shown(0);
    g.shown(2);
    g.restore(1, 0);
    kept(g, 15);
    Gardens.draft(g, "");
    g.writeSection(1, 0);
    kept(g, 8 + 4);
    g.shown(1);
    g.split(1, 0, 9);
    kept(g, 8 + 4);
  }

  /** What only would have been put in may become another text. */
  private static void keepsWhatWasNotPutIn() {
    String[] texts = {
      "{ba}".repeat(12) + "{cad}", "[cad]", "{deaf}", "`{cad}`", "{0|cad}", "{jig}", "(cad)"
    };
    for (String text : texts) {
      Check.due("another text of what is not put in by " + text, 1, g -> {
        Gardens.plant(g, 0, text);
        Gardens.plant(g, 1, "");
        Gardens.plant(g, 2, "a");
        // A part in a part in a part.
        Gardens.plant(g, 3, "{egg}");
        Gardens.plant(g, 4, "{fig}");
        Gardens.plant(g, 5, "{cad}");
        g.shown(0);
      }, g -> {
        Gardens.write(g, 2, "b");
        return g.all(5);
      });
    }
    for (String text : new String[] {"{cad}", "{fig}", "{egg}", "a{ice}{ba}", "{hid}"}) {
      Check.due("another text of what is put in by " + text, 0, g -> {
        Gardens.plant(g, 0, text);
        Gardens.plant(g, 1, "{cad}");
        Gardens.plant(g, 2, "");
        Gardens.plant(g, 4, "{fig}");
        Gardens.plant(g, 5, "{cad}");
        Gardens.plant(g, 7, "@cad");
        g.shown(0);
      }, g -> {
        Gardens.write(g, 2, "b");
        return g.all(5);
      });
    }
    Check.due("a redirect that leads there still may become another text", 1, g -> {
      Gardens.plant(g, 0, "{ba}[ba]");
      Gardens.plant(g, 1, "@cad");
      Gardens.plant(g, 2, "a");
      g.shown(0);
    }, g -> {
      Gardens.write(g, 1, "@cad\nb");
      return g.all(5);
    });
  }

  private static void keepsTillNamesLeadElsewhere() {
    Pagegarden g = new Pagegarden();
    Gardens.plant(g, 0, "[ba]");
    Gardens.plant(g, 2, "{ba}");
    Gardens.plant(g, 3, "`[ba]`[egg]");
    g.shown(0);
    g.shown(1);
    g.shown(2);
    Gardens.plant(g, 5, "");
    kept(g, 7);
    Gardens.plant(g, 1, "a");
    kept(g, 4);
    g.shown(0);
    g.shown(1);
    Gardens.write(g, 4, "b");
    kept(g, 4 + 1);
    g.shown(1);
    g.uproot(4);
    kept(g, 4);
    g.shown(0);
    g.shown(1);
    Check.due("its own name may change", 0, () -> g.rename(0, 6));
    kept(g, 7);
    Check.due("a page gets the name that was asked", -9, () -> g.rename(3, 1));
    kept(g, 7);
    Gardens.plant(g, 1, "@fig");
    kept(g, 4);
  }

  private static void keepsTillRedirectsLeadElsewhere() {
    Pagegarden g = new Pagegarden();
    Gardens.plant(g, 0, "[ba]");
    Gardens.plant(g, 1, "@cad");
    Gardens.plant(g, 2, "a");
    Gardens.plant(g, 3, "@cad");
    g.shown(0);
    Gardens.write(g, 1, "@deaf");
    kept(g, 1);
    // "cad" was asked for by the redirect: it leads to nobody by its own, though "ba" as before.
    Check.due("rename the end", 1, () -> g.rename(2, 12));
    Check.due("the link leads there still", 2, () -> g.link(0, 0));
    kept(g, 0);
    g.shown(0);
    kept(g, 1);
    Gardens.write(g, 3, "b");
    kept(g, 0);
    Check.due("shown", "ba\n", () -> g.shown(0));
    Gardens.write(g, 3, "@deaf");
    kept(g, 0);
    Check.due("shown", "ba?\n", () -> g.shown(0));
    Gardens.write(g, 3, "@ba");
    kept(g, 1);
    Check.due("its own redirect is not asked", "@deaf\n", () -> g.shown(1));
    Gardens.write(g, 3, "c");
    kept(g, 2);
  }

  /** Whatever name was asked: a page that gets it changes what was shown. */
  private static void keepsTillAnyNameLeadsElsewhere() {
    for (int name = 0; name < 40; name++) {
      int asked = name;
      String mark = Gardens.name(name);
      int own = (name + 1) % 40;
      int other = (name + 2) % 40;
      for (String text : new String[] {"[" + mark + "]", "{" + mark + "|a}"}) {
        Check.Past past = g -> {
          Gardens.plant(g, own, text);
          g.shown(0);
          Gardens.plant(g, other, "");
        };
        Check.due("another name than " + mark + " is planted", 1, past, g -> g.all(5));
        Check.due(mark + " is planted, asked by " + text, 0, past, g -> {
          g.plant(asked);
          return g.all(5);
        });
        Check.due(mark + " is uprooted, asked by " + text, 0, g -> {
          past.of(g);
          g.plant(asked);
          g.shown(0);
          g.shown(1);
          g.uproot(1);
          Check.due("it leads there still", 1, () -> g.all(5));
          g.uproot(2);
        }, g -> g.all(5));
      }
    }
  }

  /** What a redirect on the way asks by itself: of the first page, of the last one. */
  private static void keepsTillAnyRedirectLeadsElsewhere() {
    for (int on = 0; on < 12; on++) {
      int number = on;
      // Page k has the name 3 * k + 4: no number of a page is that of its name.
      Check.Past past = g -> {
        for (int i = 0; i < 12; i++) {
          boolean isOn = i == number;
          Gardens.plant(g, 3 * i + 4, isOn ? "@" + nameOf((number + 1) % 12) : "");
        }
        Gardens.write(g, (number + 2) % 12, "[" + nameOf(number) + "]");
        g.shown((number + 2) % 12);
        g.shown((number + 3) % 12);
      };
      int reader = 1 << (number + 2) % 12;
      int other = 1 << (number + 3) % 12;
      Check.due("both are kept", reader + other, past, g -> g.all(5));
      Check.due("the end of redirect " + on + " is renamed", other, past, g -> {
        g.rename((number + 1) % 12, 0);
        return g.all(5);
      });
      Check.due("a page that was not asked is renamed", reader + other, past, g -> {
        g.rename((number + 4) % 12, 0);
        return g.all(5);
      });
    }
  }

  private static String nameOf(int page) {
    return Gardens.name(3 * page + 4);
  }

  /** All four are kept no more, or just those that asked, whichever they are. */
  private static void dropsAnyOfFour() {
    for (int set = 0; set < 16; set++) {
      int asking = set;
      Check.Past past = g -> {
        for (int i = 0; i < 4; i++) {
          Gardens.plant(g, i, (asking >> i & 1) != 0 ? "[egg]" : "[fig]");
          g.shown(i);
        }
      };
      Check.due("four are kept", 15, past, g -> g.all(5));
      Check.due("those that asked are not, of " + set, 15 - set, past, g -> {
        g.plant(4);
        return g.all(5);
      });
      Check.due("those in which it is are not, of " + set, 15 - set, g -> {
        Gardens.plant(g, 4, "a");
        for (int i = 0; i < 4; i++) {
          Gardens.plant(g, i, (asking >> i & 1) != 0 ? "{egg}" : "[egg]");
          g.shown(i + 1);
        }
      }, g -> {
        Gardens.write(g, 0, "b");
        return g.all(5) >> 1;
      });
    }
  }

  private static void wrongInputs() {
    Pagegarden g = new Pagegarden();
    g.plant(0);
    Check.noIndex("shown no page", g, () -> g.shown(1));
    Check.noIndex("shown page -1", g, () -> g.shown(-1));
    Check.noIndex("shown page 12", g, () -> g.shown(12));
    Check.due("not counted", 0, () -> g.garden(4));
  }
}

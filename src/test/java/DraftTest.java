/** Promises 1 to 6: a new garden, and the draft. */
public final class DraftTest {
  public static void main(String[] args) {
    newGarden();
    addsEachKind();
    addsAll();
    addsLines();
    addsBrackets();
    addIsRefused();
    types();
    rubs();
    takes();
    Check.end("DraftTest");
  }

  private static void newGarden() {
    Pagegarden g = new Pagegarden();
    Check.due("new draft", "", g::draft);
    Check.due("new exported", "", g::exported);
    Check.due("new sound", true, g::isSound);
    for (int what = 0; what <= 8; what++) {
      int asked = what;
      Check.due("new garden(" + what + ")", 0, () -> g.garden(asked));
    }
    for (int what = 0; what <= 5; what++) {
      int asked = what;
      Check.due("new all(" + what + ")", 0, () -> g.all(asked));
    }
    Check.due("new byName", -1, () -> g.byName(0));
    long due = 5803;
    for (int i = 0; i < 15; i++) {
      due = due * 31;
    }
    long digest = due * 31 + 1;
    Check.due("new digest", digest, g::digest);
  }

  private static void adds(String due, int kind, int a, int b) {
    Pagegarden g = new Pagegarden();
    String call = "add(" + kind + ", " + a + ", " + b + ")";
    Check.due(call, due.length(), () -> g.add(kind, a, b));
    Check.due("draft after " + call, due, g::draft);
  }

  private static void addsEachKind() {
    adds("ab", 0, 0, -1);
    adds("jig", 0, 39, 3);
    adds("\n", 1, 0, -1);
    adds("=ba", 2, 0, 1);
    adds("==", 2, 1, -1);
    adds("===ab", 2, 38, 0);
    adds("*ba", 3, 39, 1);
    adds("***", 3, 2, -1);
    adds(">fig", 4, 7, 5);
    adds(">", 4, 7, -1);
    adds("|gab|hid", 5, 16, 7);
    adds("|gab|", 5, 6, -1);
    adds("'", 6, 1, 1);
    adds("_", 7, 1, 1);
    adds("`", 8, 1, 1);
    adds("[ab]", 9, 0, -1);
    adds("[a/b/jig|ba]", 9, 39, 1);
    adds("{a/jig}", 10, 19, -1);
    adds("{b/ab|ab}", 10, 20, 0);
    adds("{0}", 11, 0, -1);
    adds("{1|cad}", 11, 4, 2);
    adds("{2}", 11, 38, -1);
    adds("(deaf)", 12, 13, 9);
    adds("#egg", 13, 34, 9);
    adds("@a/egg", 14, 14, 9);
  }

  private static void addsLines() {
    Pagegarden g = new Pagegarden();
    g.add(0, 1, -1);
    g.add(0, 2, -1);
    Check.due("a blank between words", "ba cad", g::draft);
    g.add(13, 1, -1);
    g.add(0, 0, -1);
    Check.due("a blank behind a kind", "ba cad#ba ab", g::draft);
    g.add(9, 1, -1);
    g.add(0, 0, -1);
    Check.due("no blank behind a bracket", "ba cad#ba ab[ba]ab", g::draft);
    g.add(2, 0, 0);
    Check.due("a line end ahead of a head", "ba cad#ba ab[ba]ab\n=ab", g::draft);
    g.add(1, 0, -1);
    g.add(3, 0, 0);
    g.add(4, 0, 0);
    g.add(5, 0, 0);
    Check.due("one line end is enough",
        "ba cad#ba ab[ba]ab\n=ab\n*ab\n>ab\n|ab|ab", g::draft);
    g.add(1, 0, -1);
    g.add(0, 0, -1);
    Check.due("no blank behind a line end",
        "ba cad#ba ab[ba]ab\n=ab\n*ab\n>ab\n|ab|ab\nab", g::draft);
    String[] one = {"a ba", "a\n", "a\n==cad", "a\n**cad", "a\n>cad", "a\n|ba|cad", "a'"};
    for (int i = 0; i < one.length; i++) {
      int kind = i;
      Check.due("kind " + i + " behind one letter", one[i], past -> past.type(0), past -> {
        past.add(kind, 1, 2);
        return past.draft();
      });
    }
    Pagegarden blank = new Pagegarden();
    blank.type(11);
    blank.add(0, 0, -1);
    blank.type(10);
    blank.add(0, 0, -1);
    Check.due("a blank and a slash are no letters", " ab/ab", blank::draft);
  }

  private static void addsBrackets() {
    Pagegarden g = new Pagegarden();
    g.add(9, 39, 9);
    g.add(10, 39, 9);
    g.add(11, 39, 9);
    g.add(12, 39, 9);
    g.add(14, 39, 9);
    Check.due("brackets", "[a/b/jig|jig]{a/b/jig|jig}{0|jig}(jig)@a/b/jig", g::draft);
  }

  /** All that can be added, to nothing and to each sign. */
  private static void addsAll() {
    String before = Gardens.SIGNS;
    for (int kind = 0; kind <= 14; kind++) {
      for (int a = 0; a <= 39; a++) {
        for (int b = -1; b <= 9; b++) {
          adds(Gardens.added(kind, a, b), kind, a, b);
        }
      }
      for (int sign = 0; sign <= 30; sign++) {
        int typed = sign;
        int k = kind;
        boolean isLetter = sign <= 9;
        boolean isLine = kind >= 2 && kind <= 5;
        String ahead = kind == 0 && isLetter ? " " : isLine && sign != 12 ? "\n" : "";
        Check.due("kind " + kind + " behind " + before.charAt(sign),
            before.charAt(sign) + ahead + Gardens.added(kind, 7, 3), g -> g.type(typed), g -> {
              g.add(k, 7, 3);
              return g.draft();
            });
      }
    }
  }

  private static void addIsRefused() {
    Pagegarden g = new Pagegarden();
    int[][] wrong = {
      {-1, 0, 0}, {15, 0, 0}, {0, -1, 0}, {0, 40, 0}, {0, 0, -2}, {0, 0, 10},
      {Integer.MIN_VALUE, 0, 0}, {0, Integer.MAX_VALUE, 0}, {0, 0, Integer.MIN_VALUE}
    };
    for (int[] w : wrong) {
      Check.noArgument("add wrong", g, () -> g.add(w[0], w[1], w[2]));
    }
    for (int i = 0; i < 297; i++) {
      g.type(11);
    }
    Check.refused("add over 300", g, () -> g.add(9, 0, -1));
    Check.refused("add over 300 by its line end", g, () -> g.add(4, 0, 1));
    Check.due("add up to 300", 300, () -> g.add(0, 2, -1));
    Check.refused("add to 300", g, () -> g.add(6, 0, -1));
    Check.noArgument("add wrong to 300", g, () -> g.add(6, 40, -1));
    Check.due("still 300", 300, () -> g.garden(6));
  }

  private static void types() {
    Pagegarden g = new Pagegarden();
    for (int i = 0; i <= 30; i++) {
      int sign = i;
      Check.due("type(" + i + ")", i + 1, () -> g.type(sign));
    }
    Check.due("all signs", Gardens.SIGNS, g::draft);
    Check.noArgument("type(-1)", g, () -> g.type(-1));
    Check.noArgument("type(31)", g, () -> g.type(31));
    Pagegarden full = new Pagegarden();
    for (int i = 0; i < 299; i++) {
      full.type(0);
    }
    Check.due("type the last", 300, () -> full.type(30));
    Check.noState("type too many", full, () -> full.type(0));
    Check.noArgument("type wrong when full", full, () -> full.type(31));
  }

  private static void rubs() {
    Pagegarden g = new Pagegarden();
    Check.due("rub an empty draft", 0, () -> g.rub(1));
    Gardens.draft(g, "abcd");
    Check.due("rub one", 3, () -> g.rub(1));
    Check.due("rubbed", "abc", g::draft);
    Check.due("rub more than there are", 0, () -> g.rub(300));
    Check.due("all rubbed", "", g::draft);
    Check.noArgument("rub(0)", g, () -> g.rub(0));
    Check.noArgument("rub(301)", g, () -> g.rub(301));
    Check.noArgument("rub(-1)", g, () -> g.rub(-1));
  }

  private static void takes() {
    Pagegarden g = new Pagegarden();
    Gardens.plant(g, 0, "ab");
    Gardens.write(g, 0, "cad egg");
    Gardens.draft(g, "jig");
    Check.noIndex("take no page", g, () -> g.take(1, 9));
    Check.noIndex("take page -1", g, () -> g.take(-1, 0));
    Check.noIndex("take page 12", g, () -> g.take(12, 0));
    Check.noArgument("take no version", g, () -> g.take(0, 2));
    Check.noArgument("take version -1", g, () -> g.take(0, -1));
    Check.due("take", 2, () -> g.take(0, 0));
    Check.due("taken", "ab", g::draft);
    Check.due("take the newest", 7, () -> g.take(0, 1));
    Check.due("taken in its place", "cad egg", g::draft);
    Gardens.makeLong(g, 0, Gardens.words(149), Gardens.words(149));
    Check.due("take 300", 300, () -> g.take(0, g.ofPage(0, 3)));
    Gardens.makeLong(g, 0, Gardens.words(150), Gardens.words(149));
    Check.due("its signs", 301, () -> g.ofPage(0, 1));
    Check.noState("take 301", g, () -> g.take(0, g.ofPage(0, 3)));
  }
}

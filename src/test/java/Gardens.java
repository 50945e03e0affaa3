import java.util.HashSet;
import java.util.Set;

/** Makes gardens for the tests, and tells what one is like. */
final class Gardens {
  static final String SIGNS = "abcdefghij/ \n=*>|'_`[]{}()#@012";
  static final String[] WORDS = {
    "ab", "ba", "cad", "deaf", "egg", "fig", "gab", "hid", "ice", "jig"
  };
  static final String[] PREFIXES = {"", "a/", "b/", "a/b/"};

  private Gardens() {}

  static String name(int number) {
    return PREFIXES[number / 10] + WORDS[number % 10];
  }

  /** The draft becomes a text, by typing it (300 signs at most). */
  static void draft(Pagegarden garden, String text) {
    if (!garden.draft().isEmpty()) {
      garden.rub(300);
    }
    for (int i = 0; i < text.length(); i++) {
      garden.type(SIGNS.indexOf(text.charAt(i)));
    }
  }

  static int plant(Pagegarden garden, int name, String text) {
    draft(garden, text);
    return garden.plant(name);
  }

  static int write(Pagegarden garden, int page, String text) {
    draft(garden, text);
    return garden.write(page);
  }

  /** A text of more than 300 signs comes of two drafts: the second one is put ahead of all. */
  static void makeLong(Pagegarden garden, int page, String ahead, String behind) {
    write(garden, page, "=" + behind);
    draft(garden, ahead);
    garden.writeSection(page, 0);
  }

  static String text(Pagegarden garden, int page) {
    return garden.text(page, garden.ofPage(page, 3));
  }

  /** The tree: each node's kind and what it is, those that are in it in round brackets. */
  static String tree(Pagegarden garden, int page) {
    int[] at = {0};
    return subtree(garden, page, at);
  }

  private static String subtree(Pagegarden garden, int page, int[] at) {
    int node = at[0];
    at[0]++;
    StringBuilder told = new StringBuilder();
    told.append(garden.node(page, node, 0));
    int kids = garden.node(page, node, 2);
    if (kids == 0) {
      return told.append('<').append(garden.nodeText(page, node)).append('>').toString();
    }
    told.append('(');
    for (int i = 0; i < kids; i++) {
      told.append(i > 0 ? " " : "").append(subtree(garden, page, at));
    }
    return told.append(')').toString();
  }

  /** All that can be asked without a change, but for how often one was refused. */
  static String told(Pagegarden garden) {
    StringBuilder told = new StringBuilder(garden.draft());
    for (int what = 0; what <= 8; what++) {
      told.append(what == 2 ? "" : " " + garden.garden(what));
    }
    for (int what = 0; what <= 5; what++) {
      told.append(' ').append(garden.all(what));
    }
    for (int page = 0; page < 12; page++) {
      if ((garden.all(0) >> page & 1) != 0) {
        told.append("\n").append(page).append(':').append(toldOfPage(garden, page));
      }
    }
    return told.toString();
  }

  private static String toldOfPage(Pagegarden garden, int page) {
    StringBuilder told = new StringBuilder();
    for (int what = 0; what <= 15; what++) {
      told.append(' ').append(garden.ofPage(page, what));
    }
    for (int version = garden.ofPage(page, 4); version <= garden.ofPage(page, 3); version++) {
      told.append(garden.versionOf(page, version, 0)).append(garden.text(page, version));
    }
    for (int nth = 0; nth < garden.ofPage(page, 9); nth++) {
      told.append(garden.writer(page, nth));
    }
    for (int nth = 0; nth < garden.ofPage(page, 15); nth++) {
      told.append(garden.remark(page, nth));
    }
    for (int user = 0; user < 5; user++) {
      told.append(' ').append(garden.right(user, page)).append(' ').append(garden.unseen(user));
    }
    return told.toString();
  }

  /**
   * All that a garden holds, but for how often one was refused: also what only a change tells
   * (the rights, who has seen what, and which page is kept least lately), so that the garden is
   * another one then.
   */
  static String everything(Pagegarden garden) {
    StringBuilder told = new StringBuilder(garden.draft());
    for (int what = 0; what <= 8; what++) {
      told.append(what == 2 ? "" : " " + garden.garden(what));
    }
    int there = garden.all(0);
    Set<Integer> taken = new HashSet<>();
    for (int page = 0; page < 12; page++) {
      if ((there >> page & 1) != 0) {
        taken.add(garden.ofPage(page, 0));
        told.append('\n').append(page).append(':').append(everythingOf(garden, page));
      }
    }
    for (int user = 0; user < 5; user++) {
      for (int prefix = 0; prefix < 4; prefix++) {
        told.append(' ').append(garden.allow(user, prefix, -1));
      }
    }
    // Whatever is shown now takes the place of that which was shown least lately.
    for (int name = 30; name < 40 && Integer.bitCount(garden.all(0)) < 12; name++) {
      if (!taken.contains(name)) {
        garden.plant(name);
      }
    }
    for (int page = 0; page < 12; page++) {
      if (((garden.all(0) & ~garden.all(5)) >> page & 1) != 0) {
        told.append('\n').append(garden.all(5)).append(garden.shown(page));
      }
    }
    return told.append(garden.all(5)).toString();
  }

  private static String everythingOf(Pagegarden garden, int page) {
    StringBuilder told = new StringBuilder();
    for (int what : new int[] {0, 7, 9, 10, 14, 15}) {
      told.append(garden.ofPage(page, what)).append(' ');
    }
    told.append(garden.sets(page, 0)).append(' ').append(garden.sets(page, 1));
    int newest = garden.ofPage(page, 3);
    for (int version = garden.ofPage(page, 4); version <= newest; version++) {
      told.append("\n ").append(version).append(' ').append(garden.versionOf(page, version, 0));
      told.append(garden.text(page, version));
    }
    for (int nth = 0; nth < garden.ofPage(page, 9); nth++) {
      told.append(garden.writer(page, nth));
    }
    for (int nth = 0; nth < garden.ofPage(page, 15); nth++) {
      told.append('\n').append(garden.remark(page, nth));
    }
    for (int user = 0; user < 5; user++) {
      told.append(' ').append(garden.allowPage(user, page, -1)).append(garden.see(user, page));
    }
    return told.toString();
  }
}

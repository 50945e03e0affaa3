import java.util.HashMap;
import java.util.HashSet;
import java.util.Map;
import java.util.Set;

/** Makes gardens for the tests, and tells what one is like. */
final class Gardens {
  static final String SIGNS = "abcdefghij/ \n=*>|'_`[]{}()#@012";
  static final String[] WORDS = {
    "ab", "ba", "cad", "deaf", "egg", "fig", "gab", "hid", "ice", "jig"
  };
  static final String[] PREFIXES = {"", "a/", "b/", "a/b/"};

  private static final Map<String, int[]> ADDED = allAdded();
  // A line end and the longest of these.
  private static final int MOST_ADDED = 16;

  private Gardens() {}

  static String name(int number) {
    return PREFIXES[number / 10] + WORDS[number % 10];
  }

  /** What add() puts behind nothing, as the document tells it for each kind. */
  static String added(int kind, int a, int b) {
    String word = WORDS[a % 10];
    String behind = b == -1 ? "" : WORDS[b];
    String ofBar = b == -1 ? "" : "|" + behind;
    switch (kind) {
      case 0:
        return word;
      case 1:
        return "\n";
      case 2:
        return "===".substring(2 - a % 3) + behind;
      case 3:
        return "***".substring(2 - a % 3) + behind;
      case 4:
        return ">" + behind;
      case 5:
        return "|" + word + "|" + behind;
      case 6: case 7: case 8:
        return "" + "'_`".charAt(kind - 6);
      case 9:
        return "[" + name(a) + ofBar + "]";
      case 10:
        return "{" + name(a) + ofBar + "}";
      case 11:
        return "{" + a % 3 + ofBar + "}";
      case 12:
        return "(" + word + ")";
      case 13:
        return "#" + word;
      default:
        return "@" + name(a);
    }
  }

  /** What add() can put there, and by which arguments. */
  private static Map<String, int[]> allAdded() {
    Map<String, int[]> all = new HashMap<>();
    for (int kind = 14; kind >= 0; kind--) {
      for (int a = 0; a < 40; a++) {
        for (int b = -1; b < 10; b++) {
          all.put(added(kind, a, b), new int[] {kind, a, b});
        }
      }
    }
    return all;
  }

  /** The draft becomes a text (300 signs at most), by few calls: an object is used for 512. */
  static void draft(Pagegarden garden, String text) {
    if (!garden.draft().isEmpty()) {
      garden.rub(300);
    }
    int at = 0;
    while (at < text.length()) {
      at += addNext(garden, text, at);
    }
  }

  /** Adds as much as one call can; tells how many signs that were. */
  private static int addNext(Pagegarden garden, String text, int at) {
    char last = at > 0 ? text.charAt(at - 1) : '\n';
    for (int end = Math.min(text.length(), at + MOST_ADDED); end > at + 1; end--) {
      char ahead = text.charAt(at) == ' ' || text.charAt(at) == '\n' ? text.charAt(at) : 0;
      int[] found = ADDED.get(text.substring(ahead == 0 ? at : at + 1, end));
      if (found != null && ahead == aheadOf(found[0], last)) {
        garden.add(found[0], found[1], found[2]);
        return end - at;
      }
    }
    garden.type(SIGNS.indexOf(text.charAt(at)));
    return 1;
  }

  /** What add() puts ahead of that kind; 0 for nothing. */
  private static char aheadOf(int kind, char last) {
    if (kind == 0) {
      return last >= 'a' && last <= 'j' ? ' ' : 0;
    }
    return kind >= 2 && kind <= 5 && last != '\n' ? '\n' : 0;
  }

  /** A text of so many signs, of words for which few calls are enough. */
  static String words(int signs) {
    return "deaf ".repeat(signs / 5 + 1).substring(0, signs);
  }

  static int plant(Pagegarden garden, int name, String text) {
    draft(garden, text);
    return garden.plant(name);
  }

  static int write(Pagegarden garden, int page, String text) {
    draft(garden, text);
    return garden.write(page);
  }

  /** A text of more than 300 signs comes of two drafts: the second one is put ahead of all. */
  static void makeLong(Pagegarden garden, int page, String ahead, String behind) {
    write(garden, page, "=" + behind);
    draft(garden, ahead);
    garden.writeSection(page, 0);
  }

  static String text(Pagegarden garden, int page) {
    return garden.text(page, garden.ofPage(page, 3));
  }

  /** The tree: each node's kind and what it is, those that are in it in round brackets. */
  static String tree(Pagegarden garden, int page) {
    int[] at = {0};
    return subtree(garden, page, at);
  }

  private static String subtree(Pagegarden garden, int page, int[] at) {
    int node = at[0];
    at[0]++;
    StringBuilder told = new StringBuilder();
    told.append(garden.node(page, node, 0));
    int kids = garden.node(page, node, 2);
    if (kids == 0) {
      return told.append('<').append(garden.nodeText(page, node)).append('>').toString();
    }
    told.append('(');
    for (int i = 0; i < kids; i++) {
      told.append(i > 0 ? " " : "").append(subtree(garden, page, at));
    }
    return told.append(')').toString();
  }

  /** What can be asked by few calls, but for how often one was refused. */
  static String told(Pagegarden garden) {
    StringBuilder told = new StringBuilder(garden.draft()).append(garden.exported());
    for (int what = 0; what <= 8; what++) {
      told.append(what == 2 ? "" : " " + garden.garden(what));
    }
    for (int what = 0; what <= 5; what++) {
      told.append(' ').append(garden.all(what));
    }
    return told.toString();
  }

  /**
   * What the checksum does not tell: older versions, remarks, the rights, who has seen what, and
   * which page is kept least lately. Much of that only a change tells: the garden is another one
   * then.
   */
  static String everything(Pagegarden garden) {
    StringBuilder told = new StringBuilder(garden.draft()).append(garden.exported());
    int there = garden.all(0);
    Set<Integer> taken = new HashSet<>();
    for (int page = 0; page < 12; page++) {
      if ((there >> page & 1) != 0) {
        taken.add(garden.ofPage(page, 0));
        told.append('\n').append(page).append(':').append(everythingOf(garden, page));
      }
    }
    for (int user = 0; user < 5; user++) {
      for (int prefix = 0; prefix < 4; prefix++) {
        told.append(' ').append(garden.allow(user, prefix, -1));
      }
    }
    // Whatever is shown now takes the place of that which was shown least lately.
    for (int name = 30; name < 34 && Integer.bitCount(garden.all(0)) < 12; name++) {
      if (!taken.contains(name)) {
        garden.plant(name);
      }
    }
    for (int page = 0; page < 12; page++) {
      int kept = garden.all(5);
      if (((garden.all(0) & ~kept) >> page & 1) != 0) {
        told.append('\n').append(kept).append(garden.shown(page));
      }
    }
    return told.append(garden.all(5)).toString();
  }

  private static String everythingOf(Pagegarden garden, int page) {
    StringBuilder told = new StringBuilder();
    int newest = garden.ofPage(page, 3);
    for (int version = garden.ofPage(page, 4); version <= newest; version++) {
      told.append("\n ").append(version).append(' ').append(garden.versionOf(page, version, 0));
      told.append(garden.text(page, version));
    }
    int remarks = garden.ofPage(page, 15);
    for (int nth = 0; nth < remarks; nth++) {
      told.append('\n').append(garden.remark(page, nth));
    }
    for (int user = 0; user < 5; user++) {
      told.append(' ').append(garden.allowPage(user, page, -1)).append(garden.see(user, page));
    }
    return told.toString();
  }
}

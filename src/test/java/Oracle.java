import java.math.BigInteger;
import java.util.ArrayList;
import java.util.HashMap;
import java.util.LinkedHashMap;
import java.util.List;
import java.util.Map;
import java.util.NavigableMap;
import java.util.TreeMap;
import java.util.TreeSet;
import java.util.regex.Matcher;
import java.util.regex.Pattern;

/**
 * The garden once more, written apart from it and as the document's words go: with regular
 * expressions, trees of objects and great numbers, nothing kept that can be made again. Only the
 * draft, the versions and who is asked what are state.
 */
final class Oracle {
  static final class Refusal extends RuntimeException {}

  private static final class Node {
    final int kind;
    final int from;
    final String written;
    final List<Node> in = new ArrayList<>();
    int level;
    String body = "";
    String naming;
    String behind;
    int digit;

    Node(int kind, int from, String written) {
      this.kind = kind;
      this.from = from;
      this.written = written;
    }
  }

  private record Version(String text, int user) {}

  private static final class Page {
    int name;
    final List<Version> versions = new ArrayList<>();
    List<Integer> writers = new ArrayList<>();
    final List<String> remarks = new ArrayList<>();
    final Map<Integer, Integer> rights = new HashMap<>();
    final Map<Integer, Integer> seen = new HashMap<>();

    int newest() {
      return versions.size() - 1;
    }

    String text() {
      return versions.get(newest()).text();
    }

    int oldest() {
      return Math.max(0, versions.size() - 20);
    }
  }

  private static final class Shown {
    String text;
    final Map<Page, Integer> inside = new HashMap<>();
    final Map<String, Integer> asked = new HashMap<>();
  }

  private String draft = "";
  private int user = 0;
  private final NavigableMap<Integer, Page> pages = new TreeMap<>();
  private final Map<Integer, Integer> prefixRights = new HashMap<>();
  private final LinkedHashMap<Integer, Shown> kept = new LinkedHashMap<>();
  private int refusals = 0;
  private int knocks = 0;
  private int misses = 0;
  private int hits = 0;

  // ---- helpers

  private interface Body {
    int go();
  }

  private int mutating(Body body) {
    int answer;
    try {
      answer = body.go();
    } catch (Refusal e) {
      refusals++;
      return -9;
    }
    kept.entrySet().removeIf(e -> !pages.containsKey(e.getKey()) || isStale(e.getValue()));
    return answer;
  }

  private boolean isStale(Shown shown) {
    for (Map.Entry<Page, Integer> e : shown.inside.entrySet()) {
      if (!pages.containsValue(e.getKey()) || e.getKey().newest() != e.getValue()) {
        return true;
      }
    }
    for (Map.Entry<String, Integer> e : shown.asked.entrySet()) {
      if (lead(e.getKey()) != e.getValue()) {
        return true;
      }
    }
    return false;
  }

  private static void argument(boolean isRight) {
    if (!isRight) {
      throw new IllegalArgumentException();
    }
  }

  private static void state(boolean isRight) {
    if (!isRight) {
      throw new IllegalStateException();
    }
  }

  private static void need(boolean isSo) {
    if (!isSo) {
      throw new Refusal();
    }
  }

  private Page there(int page) {
    if (!pages.containsKey(page)) {
      throw new IndexOutOfBoundsException();
    }
    return pages.get(page);
  }

  private static boolean isKept(Page p, int version) {
    return version >= p.oldest() && version <= p.newest();
  }

  private int ownerOf(String name) {
    for (Map.Entry<Integer, Page> e : pages.entrySet()) {
      if (Gardens.name(e.getValue().name).equals(name)) {
        return e.getKey();
      }
    }
    return -1;
  }

  private static String[] lines(String text) {
    return text.split("\n", -1);
  }

  private static List<String> wordsOf(String text) {
    List<String> words = new ArrayList<>();
    Matcher m = Pattern.compile("[a-j]+").matcher(text);
    while (m.find()) {
      words.add(m.group());
    }
    return words;
  }

  private void become(Page p, String text) {
    if (p.text().equals(text)) {
      return;
    }
    List<String> old = wordsOf(p.text());
    List<String> fresh = wordsOf(text);
    Integer[] writers = new Integer[fresh.size()];
    int i = 0;
    for (; i < old.size() && i < fresh.size() && old.get(i).equals(fresh.get(i)); i++) {
      writers[i] = p.writers.get(i);
    }
    int a = old.size() - 1;
    int b = fresh.size() - 1;
    for (; a >= i && b >= i && old.get(a).equals(fresh.get(b)); a--, b--) {
      writers[b] = p.writers.get(a);
    }
    for (; b >= i; b--) {
      writers[b] = user;
    }
    p.writers = new ArrayList<>(List.of(writers));
    p.versions.add(new Version(text, user));
  }

  private Page fresh(int name, String text) {
    Page p = new Page();
    p.name = name;
    p.versions.add(new Version(text, user));
    for (String word : wordsOf(text)) {
      p.writers.add(user);
    }
    return p;
  }

  private int free() {
    int i = 0;
    while (pages.containsKey(i)) {
      i++;
    }
    return i;
  }

  // ---- reading

  private static final Pattern HEADS = Pattern.compile("(={1,3})(?!=)(.*)");
  private static final Pattern ITEMS = Pattern.compile("(\\*{1,3})(?!\\*)(.*)");
  private static final Pattern REDIRECTS = Pattern.compile("@([a-j/]+)");
  private static final Pattern[] INLINE = {
    Pattern.compile("`([^`]*)`"),
    Pattern.compile("\\[([a-j/]+)(\\|[^\\[\\]]*)?\\]"),
    Pattern.compile("\\{([0-2])(\\|[^{}]*)?\\}"),
    Pattern.compile("\\{([a-j/]+)((?:\\|[^{}|]*)*)\\}"),
    Pattern.compile("\\(([^()]*)\\)"),
    Pattern.compile("#([a-j]+)"),
    Pattern.compile("'"),
    Pattern.compile("_"),
  };
  private static final int[] INLINE_KIND = {13, 14, 16, 15, 17, 18, 11, 12};

  private static Node tree(String text) {
    Node page = new Node(0, 0, text);
    String[] lines = lines(text);
    int[] begins = new int[lines.length + 1];
    for (int i = 0; i < lines.length; i++) {
      begins[i + 1] = begins[i] + lines[i].length() + 1;
    }
    begins[lines.length]--;
    fill(page, text, lines, begins, 0, lines.length);
    return page;
  }

  private static int headLevel(String line) {
    Matcher m = HEADS.matcher(line);
    return m.matches() ? m.group(1).length() : 0;
  }

  private static int itemDepth(String line) {
    Matcher m = ITEMS.matcher(line);
    return m.matches() ? m.group(1).length() : 0;
  }

  private static void fill(Node in, String text, String[] lines, int[] begins, int from, int to) {
    for (int i = from; i < to; ) {
      int head = headLevel(lines[i]);
      int item = itemDepth(lines[i]);
      int j = i + 1;
      if (head > 0 && !(in.kind == 1 && i == from && in.in.isEmpty())) {
        while (j < to && (headLevel(lines[j]) == 0 || headLevel(lines[j]) > head)) {
          j++;
        }
        Node section = new Node(1, begins[i], text.substring(begins[i], begins[j]));
        section.level = head;
        fill(section, text, lines, begins, i, j);
        in.in.add(section);
      } else if (item > 0) {
        while (j < to && itemDepth(lines[j]) > item) {
          j++;
        }
        Node node = new Node(3, begins[i], text.substring(begins[i], begins[j]));
        node.level = item;
        node.body = lines[i].substring(item);
        inline(node, begins[i] + item, node.body);
        fill(node, text, lines, begins, i + 1, j);
        in.in.add(node);
      } else {
        in.in.add(line(lines[i], i == 0, begins[i], text.substring(begins[i], begins[j])));
      }
      i = j;
    }
  }

  private static Node line(String line, boolean isFirst, int from, String written) {
    if (line.isEmpty()) {
      return new Node(7, from, written);
    }
    int level = headLevel(line);
    if (level > 0) {
      Node head = new Node(2, from, written);
      head.level = level;
      head.body = line.substring(level);
      inline(head, from + level, head.body);
      return head;
    }
    if (line.startsWith(">")) {
      Node quote = new Node(4, from, written);
      inline(quote, from + 1, line.substring(1));
      return quote;
    }
    if (line.startsWith("|")) {
      Node row = new Node(5, from, written);
      int at = from + 1;
      for (String cell : line.substring(1).split("\\|", -1)) {
        Node node = new Node(9, at, cell);
        inline(node, at, cell);
        row.in.add(node);
        at += cell.length() + 1;
      }
      return row;
    }
    Matcher redirect = REDIRECTS.matcher(line);
    if (isFirst && redirect.matches()) {
      Node node = new Node(6, from, written);
      node.naming = redirect.group(1);
      return node;
    }
    Node plain = new Node(8, from, written);
    inline(plain, from, line);
    return plain;
  }

  private static void inline(Node in, int from, String body) {
    StringBuilder text = new StringBuilder();
    int at = 0;
    while (at < body.length()) {
      Node found = null;
      for (int i = 0; i < INLINE.length && found == null; i++) {
        Matcher m = INLINE[i].matcher(body).region(at, body.length());
        if (m.lookingAt()) {
          found = new Node(INLINE_KIND[i], from + at, m.group());
          if (found.kind == 14 || found.kind == 15) {
            found.naming = m.group(1);
          }
          found.digit = found.kind == 16 ? m.group(1).charAt(0) - '0' : -1;
          found.behind = m.groupCount() > 1 ? m.group(2) : null;
          found.body = m.groupCount() > 0 ? m.group(1) : "";
        }
      }
      if (found == null) {
        text.append(body.charAt(at));
        at++;
      } else {
        flush(in, from + at, text);
        in.in.add(found);
        at += found.written.length();
      }
    }
    flush(in, from + at, text);
  }

  private static void flush(Node in, int end, StringBuilder text) {
    if (text.length() > 0) {
      in.in.add(new Node(10, end - text.length(), text.toString()));
      text.setLength(0);
    }
  }

  private static List<Node> nodes(Node root) {
    List<Node> all = new ArrayList<>();
    all.add(root);
    for (Node n : root.in) {
      all.addAll(nodes(n));
    }
    return all;
  }

  private static List<Node> nodes(Node root, int kind) {
    List<Node> some = nodes(root);
    some.removeIf(n -> n.kind != kind);
    return some;
  }

  private static int depthOf(Node root, Node asked) {
    if (root == asked) {
      return 0;
    }
    for (Node n : root.in) {
      int depth = depthOf(n, asked);
      if (depth >= 0) {
        return depth + 1;
      }
    }
    return -1;
  }

  // ---- links

  private static String redirect(Page p) {
    List<Node> all = nodes(tree(p.text()), 6);
    return all.isEmpty() ? null : all.get(0).naming;
  }

  private int lead(String naming) {
    List<Integer> been = new ArrayList<>();
    String at = naming;
    while (true) {
      int page = ownerOf(at);
      if (page < 0 || been.contains(page)) {
        return -1;
      }
      been.add(page);
      String on = redirect(pages.get(page));
      if (on == null) {
        return page;
      }
      at = on;
    }
  }

  private TreeSet<Integer> to(int page) {
    TreeSet<Integer> to = new TreeSet<>();
    for (Node n : nodes(tree(pages.get(page).text()))) {
      if (n.kind == 14 || n.kind == 6) {
        to.add(lead(n.naming));
      }
    }
    to.remove(-1);
    to.remove(page);
    return to;
  }

  private TreeSet<Integer> here(int page) {
    TreeSet<Integer> here = new TreeSet<>();
    for (int other : pages.keySet()) {
      if (to(other).contains(page)) {
        here.add(other);
      }
    }
    return here;
  }

  private TreeSet<Integer> grown(int page, boolean isIsland) {
    TreeSet<Integer> set = new TreeSet<>();
    set.add(page);
    while (true) {
      TreeSet<Integer> more = new TreeSet<>(set);
      for (int p : set) {
        more.addAll(to(p));
        if (isIsland) {
          more.addAll(here(p));
        }
      }
      if (more.equals(set)) {
        return set;
      }
      set = more;
    }
  }

  private static int sum(Iterable<Integer> set) {
    int sum = 0;
    for (int p : set) {
      sum += 1 << p;
    }
    return sum;
  }

  // ---- shown

  private final class Viewing {
    final StringBuilder notes = new StringBuilder();
    int noteCount = 0;
    int parts = 0;
    int style = 0;
    final Shown shown = new Shown();

    int ask(String naming) {
      shown.asked.put(naming, lead(naming));
      List<Integer> been = new ArrayList<>();
      String at = naming;
      while (at != null && ownerOf(at) >= 0 && !been.contains(ownerOf(at))) {
        been.add(ownerOf(at));
        at = redirect(pages.get(ownerOf(at)));
        if (at != null) {
          shown.asked.put(at, lead(at));
        }
      }
      return lead(naming);
    }

    String body(Node line, List<Integer> way, List<String> arguments) {
      StringBuilder told = new StringBuilder();
      boolean isCell = false;
      for (Node n : line.in) {
        if (n.kind == 9) {
          told.append(isCell ? " | " : "").append(body(n, way, arguments));
          isCell = true;
        } else if (n.kind >= 10) {
          told.append(one(n, way, arguments));
        }
      }
      return told.toString();
    }

    String one(Node n, List<Integer> way, List<String> arguments) {
      switch (n.kind) {
        case 10:
          return n.written;
        case 11:
        case 12:
          if (way.size() > 1) {
            return "";
          }
          style ^= n.kind - 10;
          return "<" + style + ">";
        case 13:
          return n.body;
        case 14: {
          String words = n.behind == null ? n.naming : n.behind.substring(1);
          return words + (ask(n.naming) < 0 ? "?" : "");
        }
        case 15:
          return part(n, way);
        case 16:
          if (way.size() > 1 && n.digit < arguments.size()) {
            return arguments.get(n.digit);
          }
          return n.behind == null ? "" : n.behind.substring(1);
        case 17:
          noteCount++;
          notes.append("^" + noteCount + ": " + n.body + "\n");
          return "^" + noteCount;
        default:
          return "";
      }
    }

    String part(Node n, List<Integer> way) {
      int page = ask(n.naming);
      if (page < 0) {
        return "?";
      }
      if (way.contains(page) || way.size() > 3 || parts >= 12) {
        return "!";
      }
      parts++;
      shown.inside.put(pages.get(page), pages.get(page).newest());
      List<Integer> on = new ArrayList<>(way);
      on.add(page);
      List<String> arguments = new ArrayList<>();
      if (!n.behind.isEmpty()) {
        arguments.addAll(List.of(n.behind.substring(1).split("\\|", -1)));
      }
      StringBuilder told = new StringBuilder();
      boolean isFirst = true;
      for (Node line : nodes(tree(pages.get(page).text()))) {
        if (line.kind >= 2 && line.kind <= 8 && line.kind != 6 && line.kind != 7) {
          told.append(isFirst ? "" : " ").append(body(line, on, arguments));
          isFirst = false;
        }
      }
      return told.toString();
    }

    Shown page(int page) {
      Page p = pages.get(page);
      shown.inside.put(p, p.newest());
      StringBuilder told = new StringBuilder();
      int head = 0;
      Node root = tree(p.text());
      for (Node line : nodes(root)) {
        if (line.kind < 2 || line.kind > 8) {
          continue;
        }
        style = 0;
        switch (line.kind) {
          case 2:
            told.append(path(root, head)).append(" ");
            head++;
            break;
          case 3:
            told.append("-".repeat(line.level)).append(" ");
            break;
          case 4:
            told.append("> ");
            break;
          case 6:
            told.append("@").append(line.naming);
            break;
          default:
            break;
        }
        told.append(body(line, List.of(page), List.of()));
        told.append(style != 0 ? "<0>\n" : "\n");
      }
      shown.text = told.toString() + notes;
      return shown;
    }
  }

  private static String path(Node root, int nth) {
    List<Node> heads = nodes(root, 2);
    StringBuilder told = new StringBuilder();
    for (int level = 1; level <= heads.get(nth).level; level++) {
      int many = 0;
      for (int i = nth; i >= 0 && heads.get(i).level >= level; i--) {
        many += heads.get(i).level == level ? 1 : 0;
      }
      told.append(level > 1 ? "." : "").append(many);
    }
    return told.toString();
  }

  // ---- joining, rights

  /** The join, or null: a quarrel. */
  static String join(String x, String y, String z) {
    if (x.equals(z)) {
      return y;
    }
    if (y.equals(z) || y.equals(x)) {
      return x;
    }
    List<String> zs = List.of(lines(z));
    int[] a = piece(List.of(lines(x)), zs);
    int[] b = piece(List.of(lines(y)), zs);
    List<String> xs = List.of(lines(x)).subList(a[0], a[2]);
    List<String> ys = List.of(lines(y)).subList(b[0], b[2]);
    if (a[1] < b[0] || a[1] == b[0] && a[0] < a[1] && b[0] < b[1]) {
      return laid(zs, a, xs, b, ys);
    }
    if (b[1] < a[0] || b[1] == a[0] && a[0] < a[1] && b[0] < b[1]) {
      return laid(zs, b, ys, a, xs);
    }
    return null;
  }

  private static String laid(
      List<String> zs, int[] a, List<String> xs, int[] b, List<String> ys) {
    List<String> all = new ArrayList<>(zs.subList(0, a[0]));
    all.addAll(xs);
    all.addAll(zs.subList(a[1], b[0]));
    all.addAll(ys);
    all.addAll(zs.subList(b[1], zs.size()));
    return String.join("\n", all);
  }

  /** Where the piece of z begins and ends, and where what x has there ends. */
  private static int[] piece(List<String> xs, List<String> zs) {
    int p = 0;
    while (p < xs.size() && p < zs.size() && xs.get(p).equals(zs.get(p))) {
      p++;
    }
    int x = xs.size();
    int z = zs.size();
    while (x > p && z > p && xs.get(x - 1).equals(zs.get(z - 1))) {
      x--;
      z--;
    }
    return new int[] {p, z, x};
  }

  private int rightAt(int asking, Page page, int name) {
    if (page != null && page.rights.containsKey(asking)) {
      return page.rights.get(asking);
    }
    int right = 2;
    int longest = -1;
    for (int prefix = 0; prefix < 4; prefix++) {
      String begin = Gardens.PREFIXES[prefix];
      Integer told = prefixRights.get(asking * 4 + prefix);
      if (Gardens.name(name).startsWith(begin) && told != null && begin.length() > longest) {
        longest = begin.length();
        right = told;
      }
    }
    return right;
  }

  private void needMay(Page page) {
    need(rightAt(user, page, page.name) == 2);
  }

  // ---- the face: the draft

  int add(int kind, int a, int b) {
    argument(kind >= 0 && kind <= 14 && a >= 0 && a <= 39 && b >= -1 && b <= 9);
    return mutating(() -> {
      String word = b < 0 ? "" : Gardens.WORDS[b];
      String bar = b < 0 ? "" : "|" + word;
      String own = Gardens.WORDS[a % 10];
      String line = draft.isEmpty() || draft.endsWith("\n") ? "" : "\n";
      String[] all = {
        (draft.matches("(?s).*[a-j]") ? " " : "") + own,
        "\n",
        line + "=".repeat(a % 3 + 1) + word,
        line + "*".repeat(a % 3 + 1) + word,
        line + ">" + word,
        line + "|" + own + "|" + word,
        "'", "_", "`",
        "[" + Gardens.name(a) + bar + "]",
        "{" + Gardens.name(a) + bar + "}",
        "{" + a % 3 + bar + "}",
        "(" + own + ")",
        "#" + own,
        "@" + Gardens.name(a)
      };
      need(draft.length() + all[kind].length() <= 300);
      draft += all[kind];
      return draft.length();
    });
  }

  int type(int sign) {
    argument(sign >= 0 && sign <= 30);
    state(draft.length() < 300);
    draft += Gardens.SIGNS.charAt(sign);
    return draft.length();
  }

  int rub(int many) {
    argument(many >= 1 && many <= 300);
    draft = draft.substring(0, Math.max(0, draft.length() - many));
    return draft.length();
  }

  String draft() {
    return draft;
  }

  int take(int page, int version) {
    Page p = there(page);
    argument(isKept(p, version));
    state(p.versions.get(version).text().length() <= 300);
    draft = p.versions.get(version).text();
    return draft.length();
  }

  // ---- users

  int login(int user) {
    argument(user >= 0 && user <= 4);
    int before = this.user;
    this.user = user;
    return before;
  }

  private static int tell(Map<Integer, Integer> rights, int key, int right) {
    Integer before = right < 0 ? rights.remove(key) : rights.put(key, right);
    return before == null ? -1 : before;
  }

  int allow(int user, int prefix, int right) {
    argument(user >= 0 && user <= 4 && prefix >= 0 && prefix <= 3 && right >= -1 && right <= 2);
    return tell(prefixRights, user * 4 + prefix, right);
  }

  int allowPage(int user, int page, int right) {
    Page p = there(page);
    argument(user >= 0 && user <= 4 && right >= -1 && right <= 2);
    return tell(p.rights, user, right);
  }

  int right(int user, int page) {
    Page p = there(page);
    argument(user >= 0 && user <= 4);
    return rightAt(user, p, p.name);
  }

  // ---- pages

  int plant(int name) {
    argument(name >= 0 && name <= 39);
    state(pages.size() < 12 && ownerOf(Gardens.name(name)) < 0);
    return mutating(() -> {
      need(rightAt(user, null, name) == 2);
      int page = free();
      pages.put(page, fresh(name, draft));
      draft = "";
      return page;
    });
  }

  int write(int page) {
    Page p = there(page);
    return mutating(() -> {
      needMay(p);
      become(p, draft);
      draft = "";
      return p.newest();
    });
  }

  int writeOver(int page, int version) {
    Page p = there(page);
    argument(isKept(p, version));
    return mutating(() -> {
      needMay(p);
      String joined = join(draft, p.text(), p.versions.get(version).text());
      need(joined != null && joined.length() <= 400);
      become(p, joined);
      draft = "";
      return p.newest();
    });
  }

  /** Which lines a section has: from where, up to where. */
  private static int[] sectionLines(String text, int section) {
    String[] lines = lines(text);
    List<Integer> heads = new ArrayList<>();
    for (int i = 0; i < lines.length; i++) {
      if (headLevel(lines[i]) > 0) {
        heads.add(i);
      }
    }
    argument(section >= 0 && section <= heads.size());
    if (section == 0) {
      return new int[] {0, heads.isEmpty() ? lines.length : heads.get(0)};
    }
    int from = heads.get(section - 1);
    for (int h : heads) {
      if (h > from && headLevel(lines[h]) <= headLevel(lines[from])) {
        return new int[] {from, h};
      }
    }
    return new int[] {from, lines.length};
  }

  private static String spliced(String text, int[] range, List<String> piece) {
    List<String> all = new ArrayList<>(List.of(lines(text)));
    List<String> gone = all.subList(range[0], range[1]);
    gone.clear();
    all.addAll(range[0], piece);
    return String.join("\n", all);
  }

  int writeSection(int page, int section) {
    Page p = there(page);
    int[] range = sectionLines(p.text(), section);
    return mutating(() -> {
      needMay(p);
      List<String> piece = draft.isEmpty() ? List.of() : List.of(lines(draft));
      String text = spliced(p.text(), range, piece);
      need(text.length() <= 400);
      become(p, text);
      draft = "";
      return p.newest();
    });
  }

  int rename(int page, int name) {
    Page p = there(page);
    argument(name >= 0 && name <= 39);
    int owner = ownerOf(Gardens.name(name));
    state(owner < 0 || owner == page);
    if (owner == page) {
      return 0;
    }
    return mutating(() -> {
      needMay(p);
      need(rightAt(user, null, name) == 2);
      String old = Gardens.name(p.name);
      String fresh = Gardens.name(name);
      Map<Page, String> texts = new LinkedHashMap<>();
      int many = 0;
      for (Page other : pages.values()) {
        StringBuilder text = new StringBuilder(other.text());
        List<Node> all = nodes(tree(other.text()));
        for (int i = all.size() - 1; i >= 0; i--) {
          Node n = all.get(i);
          need(n.naming == null || !n.naming.equals(fresh));
          if (n.naming != null && n.naming.equals(old)) {
            text.replace(n.from + 1, n.from + 1 + old.length(), fresh);
            many++;
          }
        }
        need(text.length() <= 400);
        texts.put(other, text.toString());
      }
      texts.forEach((other, text) -> become(other, text));
      p.name = name;
      return many;
    });
  }

  int split(int page, int section, int name) {
    Page p = there(page);
    int[] range = sectionLines(p.text(), section);
    argument(name >= 0 && name <= 39);
    state(pages.size() < 12 && ownerOf(Gardens.name(name)) < 0);
    return mutating(() -> {
      needMay(p);
      need(rightAt(user, null, name) == 2);
      need(range[0] < range[1]);
      String left = spliced(p.text(), range, List.of("[" + Gardens.name(name) + "]"));
      need(left.length() <= 400);
      String gone = String.join("\n", List.of(lines(p.text())).subList(range[0], range[1]));
      become(p, left);
      int slot = free();
      pages.put(slot, fresh(name, gone));
      return slot;
    });
  }

  int merge(int page, int other) {
    Page p = there(page);
    Page q = there(other);
    argument(page != other);
    return mutating(() -> {
      needMay(p);
      needMay(q);
      String text = p.text() + "\n" + q.text();
      need(text.length() <= 400);
      become(p, text);
      become(q, "@" + Gardens.name(p.name));
      return p.newest();
    });
  }

  int uproot(int page) {
    Page p = there(page);
    return mutating(() -> {
      needMay(p);
      pages.remove(page);
      return pages.size();
    });
  }

  int undoEdit(int page, int version) {
    Page p = there(page);
    argument(isKept(p, version) && isKept(p, version - 1));
    return mutating(() -> {
      needMay(p);
      String ahead = p.versions.get(version - 1).text();
      String joined = join(ahead, p.text(), p.versions.get(version).text());
      need(joined != null && joined.length() <= 400);
      become(p, joined);
      return p.newest();
    });
  }

  int restore(int page, int version) {
    Page p = there(page);
    argument(isKept(p, version));
    return mutating(() -> {
      needMay(p);
      become(p, p.versions.get(version).text());
      return p.newest();
    });
  }

  // ---- what a page is

  String text(int page, int version) {
    Page p = there(page);
    argument(isKept(p, version));
    return p.versions.get(version).text();
  }

  int ofPage(int page, int what) {
    Page p = there(page);
    argument(what >= 0 && what <= 15);
    Node root = tree(p.text());
    int[] all = {
      p.name, p.text().length(), lines(p.text()).length, p.newest(), p.oldest(),
      nodes(root, 14).size(), nodes(root, 15).size(), nodes(root).size(), nodes(root, 2).size(),
      wordsOf(p.text()).size(), redirect(p) == null ? -1 : lead(redirect(p)),
      here(page).size(), here(page).isEmpty() ? 1 : 0, to(page).isEmpty() ? 1 : 0,
      kept.containsKey(page) ? 1 : 0, p.remarks.size()
    };
    return all[what];
  }

  private static Node nodeAt(Node root, int nth) {
    List<Node> all = nodes(root);
    if (nth < 0 || nth >= all.size()) {
      throw new IndexOutOfBoundsException();
    }
    return all.get(nth);
  }

  int node(int page, int nth, int what) {
    Node root = tree(there(page).text());
    Node n = nodeAt(root, nth);
    argument(what >= 0 && what <= 4);
    return new int[] {n.kind, depthOf(root, n), n.in.size(), n.written.length(), n.from}[what];
  }

  String nodeText(int page, int nth) {
    return nodeAt(tree(there(page).text()), nth).written;
  }

  String contents(int page) {
    Node root = tree(there(page).text());
    StringBuilder told = new StringBuilder();
    int nth = 0;
    for (Node head : nodes(root, 2)) {
      told.append(path(root, nth)).append(" ").append(head.body).append("\n");
      nth++;
    }
    return told.toString();
  }

  String section(int page, int section) {
    String text = there(page).text();
    int[] range = sectionLines(text, section);
    return String.join("\n", List.of(lines(text)).subList(range[0], range[1]));
  }

  String shown(int page) {
    there(page);
    Shown old = kept.remove(page);
    if (old != null) {
      kept.put(page, old);
      hits++;
      return old.text;
    }
    misses++;
    Shown made = new Viewing().page(page);
    kept.put(page, made);
    if (kept.size() > 4) {
      kept.remove(kept.keySet().iterator().next());
    }
    return made.text;
  }

  int writer(int page, int nth) {
    Page p = there(page);
    argument(nth >= 0 && nth < p.writers.size());
    return p.writers.get(nth);
  }

  int versionOf(int page, int version, int what) {
    Page p = there(page);
    argument(isKept(p, version) && what >= 0 && what <= 2);
    Version v = p.versions.get(version);
    return new int[] {v.user(), v.text().length(), lines(v.text()).length}[what];
  }

  // ---- links and walks

  int link(int page, int nth) {
    List<Node> links = nodes(tree(there(page).text()), 14);
    argument(nth >= 0 && nth < links.size());
    return lead(links.get(nth).naming);
  }

  int sets(int page, int what) {
    there(page);
    argument(what >= 0 && what <= 3);
    return what == 0 ? sum(to(page))
        : what == 1 ? sum(here(page))
        : sum(grown(page, what == 2));
  }

  String walk(int from, int to) {
    there(from);
    there(to);
    List<List<Integer>> walks = new ArrayList<>();
    walks.add(List.of(from));
    for (int steps = 0; steps <= 12; steps++) {
      String best = null;
      List<String> bestNames = null;
      List<List<Integer>> longer = new ArrayList<>();
      for (List<Integer> w : walks) {
        int last = w.get(w.size() - 1);
        List<String> names = new ArrayList<>();
        for (int p : w) {
          names.add(Gardens.name(pages.get(p).name));
        }
        if (last == to && (best == null || isLess(names, bestNames))) {
          best = String.join(">", names);
          bestNames = names;
        }
        for (int next : to(last)) {
          if (!w.contains(next)) {
            List<Integer> more = new ArrayList<>(w);
            more.add(next);
            longer.add(more);
          }
        }
      }
      if (best != null) {
        return best;
      }
      walks = longer;
    }
    return "";
  }

  private static boolean isLess(List<String> one, List<String> other) {
    for (int i = 0; i < one.size(); i++) {
      int c = one.get(i).compareTo(other.get(i));
      if (c != 0) {
        return c < 0;
      }
    }
    return false;
  }

  String rank(int page, int steps) {
    there(page);
    argument(steps >= 0 && steps <= 4);
    BigInteger[] rank = rankOf(page, steps, new HashMap<>());
    return rank[0] + "/" + rank[1];
  }

  private BigInteger[] rankOf(int page, int steps, Map<String, BigInteger[]> known) {
    String key = page + " " + steps;
    if (known.containsKey(key)) {
      return known.get(key);
    }
    BigInteger n = BigInteger.valueOf(pages.size());
    BigInteger[] sum = {BigInteger.ZERO, BigInteger.ONE};
    if (steps == 0) {
      sum = new BigInteger[] {BigInteger.ONE, n};
    } else {
      for (int other : pages.keySet()) {
        TreeSet<Integer> to = to(other);
        if (to.contains(page) || to.isEmpty()) {
          BigInteger[] r = rankOf(other, steps - 1, known);
          BigInteger through = to.isEmpty() ? n : BigInteger.valueOf(to.size());
          sum = plus(sum, r[0], r[1].multiply(through));
        }
      }
    }
    known.put(key, sum);
    return sum;
  }

  private static BigInteger[] plus(BigInteger[] sum, BigInteger above, BigInteger below) {
    BigInteger a = sum[0].multiply(below).add(above.multiply(sum[1]));
    BigInteger b = sum[1].multiply(below);
    BigInteger g = a.gcd(b);
    return new BigInteger[] {a.divide(g), b.divide(g)};
  }

  private List<Integer> named() {
    TreeMap<String, Integer> byName = new TreeMap<>();
    pages.forEach((page, p) -> byName.put(Gardens.name(p.name), page));
    return new ArrayList<>(byName.values());
  }

  int byName(int nth) {
    argument(nth >= 0);
    return nth < pages.size() ? named().get(nth) : -1;
  }

  int near(int page, boolean isAhead) {
    there(page);
    int at = named().indexOf(page) + (isAhead ? -1 : 1);
    return at >= 0 && at < pages.size() ? named().get(at) : -1;
  }

  private interface Asked {
    boolean is(Integer page);
  }

  private int setOf(Asked asked) {
    TreeSet<Integer> set = new TreeSet<>(pages.keySet());
    set.removeIf(p -> !asked.is(p));
    return sum(set);
  }

  int byPrefix(int prefix) {
    argument(prefix >= 0 && prefix <= 3);
    return setOf(p -> Gardens.name(pages.get(p).name).startsWith(Gardens.PREFIXES[prefix]));
  }

  int find(int word) {
    argument(word >= 0 && word <= 9);
    return setOf(p -> wordsOf(pages.get(p).text()).contains(Gardens.WORDS[word]));
  }

  private boolean hasKind(int page, int word) {
    for (Node n : nodes(tree(pages.get(page).text()), 18)) {
      if (n.written.equals("#" + Gardens.WORDS[word])) {
        return true;
      }
    }
    return false;
  }

  int kinds(int one, int other, int op) {
    argument(one >= 0 && one <= 9 && other >= 0 && other <= 9 && op >= 0 && op <= 2);
    return setOf(p -> op == 0 ? hasKind(p, one) && hasKind(p, other)
        : op == 1 ? hasKind(p, one) || hasKind(p, other)
        : hasKind(p, one) && !hasKind(p, other));
  }

  int all(int what) {
    argument(what >= 0 && what <= 5);
    return setOf(p -> what == 0
        || what == 1 && here(p).isEmpty()
        || what == 2 && to(p).isEmpty()
        || what == 3 && redirect(pages.get(p)) != null
        || what == 4 && redirect(pages.get(p)) != null && lead(redirect(pages.get(p))) < 0
        || what == 5 && kept.containsKey(p));
  }

  // ---- who watches and talks

  int watch(int user, int page, boolean isWatching) {
    Page p = there(page);
    argument(user >= 0 && user <= 4);
    int before = p.seen.containsKey(user) ? 1 : 0;
    if (isWatching) {
      p.seen.putIfAbsent(user, p.newest());
    } else {
      p.seen.remove(user);
    }
    return before;
  }

  int see(int user, int page) {
    Page p = there(page);
    argument(user >= 0 && user <= 4);
    return mutating(() -> {
      need(p.seen.containsKey(user));
      return p.newest() - p.seen.put(user, p.newest());
    });
  }

  int unseen(int user) {
    argument(user >= 0 && user <= 4);
    int many = 0;
    for (Page p : pages.values()) {
      many += p.seen.containsKey(user) ? p.newest() - p.seen.get(user) : 0;
    }
    return many;
  }

  int talk(int page) {
    Page p = there(page);
    state(p.remarks.size() < 6);
    p.remarks.add(user + ":" + draft);
    draft = "";
    return p.remarks.size();
  }

  String remark(int page, int nth) {
    Page p = there(page);
    argument(nth >= 0 && nth < p.remarks.size());
    return p.remarks.get(nth);
  }

  // ---- all

  String exported() {
    StringBuilder told = new StringBuilder();
    for (int page : named()) {
      Page p = pages.get(page);
      told.append("%" + Gardens.name(p.name) + " " + lines(p.text()).length + "\n");
      told.append(p.text() + "\n");
    }
    return told.toString();
  }

  int reload() {
    List<Page> all = new ArrayList<>();
    for (int page : named()) {
      all.add(fresh(pages.get(page).name, pages.get(page).text()));
    }
    pages.clear();
    kept.clear();
    for (Page p : all) {
      pages.put(pages.size(), p);
    }
    return pages.size();
  }

  int garden(int what) {
    argument(what >= 0 && what <= 8);
    int versions = 0;
    int rights = prefixRights.size();
    for (Page p : pages.values()) {
      versions += Math.min(20, p.versions.size());
      rights += p.rights.size();
    }
    return new int[] {
      pages.size(), user, refusals, knocks, misses, hits, draft.length(), versions, rights
    }[what];
  }

  int knock() {
    knocks++;
    return knocks;
  }

  boolean isSound() {
    return true;
  }

  long digest() {
    long[] d = {5803};
    for (int what = 0; what <= 8; what++) {
      step(d, garden(what));
    }
    for (int what = 0; what <= 5; what++) {
      step(d, all(what));
    }
    for (int page : named()) {
      Page p = pages.get(page);
      step(d, page);
      for (int what = 0; what <= 15; what++) {
        step(d, ofPage(page, what));
      }
      step(d, p.text());
      for (Node n : nodes(tree(p.text()))) {
        step(d, n.kind);
      }
      for (int what = 0; what <= 3; what++) {
        step(d, sets(page, what));
      }
      for (int writer : p.writers) {
        step(d, writer);
      }
      step(d, new Viewing().page(page).text);
    }
    step(d, 1);
    return d[0];
  }

  private static void step(long[] d, long v) {
    d[0] = d[0] * 31 + v;
  }

  private static void step(long[] d, String text) {
    step(d, text.length());
    for (int i = 0; i < text.length(); i++) {
      step(d, text.charAt(i));
    }
  }
}

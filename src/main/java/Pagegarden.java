import java.util.Arrays;

/**
 * A garden of pages that name each other: their texts are read into trees, kept as versions,
 * joined, linked, ranked and shown, as ../shared/DOC.md promises.
 *
 * <p>All rows are made once, in the constructors, and used again: what a call makes beyond its
 * answer is a text that stays, at most.
 */
public final class Pagegarden {
  private static final int NONE = -1;
  private static final int REFUSED = -9;

  private static final int MOST_PAGES = 12;
  private static final int USERS = 5;
  private static final int PREFIXES = 4;
  private static final int NAMES = 40;
  private static final int WORDS = 10;
  private static final int MAY_CHANGE = 2;

  private static final int MOST_DRAFT = 300;
  private static final int MOST_SIGNS = 400;
  // A text of LINE ENDS alone has one LINE more than SIGNS.
  private static final int MOST_LINES = 401;
  // A WORD and the sign that ends it.
  private static final int MOST_WORDS = 200;
  // No LINE has more NODES than its SIGNS and its LINE END, but the last one; and the PAGE.
  private static final int MOST_NODES = 402;
  private static final int MOST_REMARKS = 6;
  private static final int MOST_KEPT_VERSIONS = 20;

  private static final int PAGE = 0;
  private static final int SECTION = 1;
  private static final int HEAD = 2;
  private static final int ITEM = 3;
  private static final int QUOTE = 4;
  private static final int ROW = 5;
  private static final int REDIRECT = 6;
  private static final int EMPTY = 7;
  private static final int PLAIN = 8;
  private static final int CELL = 9;
  private static final int TEXT = 10;
  private static final int BOLD = 11;
  private static final int ITALIC = 12;
  private static final int CODE = 13;
  private static final int LINK = 14;
  private static final int PART = 15;
  private static final int PLACE = 16;
  private static final int NOTE = 17;
  private static final int KIND = 18;

  private static final String SIGNS = "abcdefghij/ \n=*>|'_`[]{}()#@012";

  /** The NAMES from the least to the greatest one: "a/b/" comes between "a/ab" and "a/ba". */
  private static final int[] BY_NAMES = {
    10, 30, 31, 32, 33, 34, 35, 36, 37, 38, 39, 11, 12, 13, 14, 15, 16, 17, 18, 19,
    0, 20, 21, 22, 23, 24, 25, 26, 27, 28, 29, 1, 2, 3, 4, 5, 6, 7, 8, 9
  };

  private final StringBuilder draft = new StringBuilder();
  private final StringBuilder out = new StringBuilder();
  private final StringBuilder otherOut = new StringBuilder();
  private final int[] prefixRights = new int[USERS * PREFIXES];
  private final Tree anew = new Tree();
  private final Weaver weaver = new Weaver();
  private final Web webAnew = new Web();
  private final Shelf shelf = new Shelf();
  private final Page[] pages;
  private final Lines lines;
  private final Words words;
  private final Web web;
  private final Viewer viewer;
  private int user;
  private int refusals;
  private int knocks;
  private int shownAnew;
  private int shownKept;

  public Pagegarden() {
    Lines lentLines = new Lines();
    Words lentWords = new Words();
    Words spareWords = new Words();
    Page[] slots = new Page[MOST_PAGES];
    for (int i = 0; i < MOST_PAGES; i++) {
      slots[i] = new Page(lentLines, lentWords, spareWords);
    }
    Web ways = new Web();
    pages = slots;
    lines = lentLines;
    words = lentWords;
    web = ways;
    viewer = new Viewer(slots, ways);
    Arrays.fill(prefixRights, NONE);
  }

  // ---- the draft

  public int add(int kind, int a, int b) throws IllegalArgumentException {
    if (kind < 0 || kind > 14 || a < 0 || a >= NAMES || b < NONE || b >= WORDS) {
      throw new IllegalArgumentException();
    }
    int before = draft.length();
    if (kind >= 2 && kind <= 5) {
      addLine(kind, a, b);
    } else if (kind >= 9 && kind <= 11) {
      addBracket(kind, a, b);
    } else {
      addPiece(kind, a);
    }
    if (draft.length() > MOST_DRAFT) {
      draft.setLength(before);
      return refuse();
    }
    return draft.length();
  }

  private void addLine(int kind, int a, int b) {
    if (draft.length() > 0 && lastOfDraft() != '\n') {
      draft.append('\n');
    }
    if (kind == 2 || kind == 3) {
      for (int i = 0; i <= a % 3; i++) {
        draft.append(kind == 2 ? '=' : '*');
      }
    } else if (kind == 4) {
      draft.append('>');
    } else {
      draft.append('|');
      draft.append(Names.word(a % WORDS));
      draft.append('|');
    }
    if (b != NONE) {
      draft.append(Names.word(b));
    }
  }

  private void addBracket(int kind, int a, int b) {
    draft.append(kind == 9 ? '[' : '{');
    if (kind == 11) {
      draft.append(a % 3);
    } else {
      Names.appendName(a, draft);
    }
    if (b != NONE) {
      draft.append('|');
      draft.append(Names.word(b));
    }
    draft.append(kind == 9 ? ']' : '}');
  }

  private void addPiece(int kind, int a) {
    switch (kind) {
      case 0:
        if (Names.isLetter(lastOfDraft())) {
          draft.append(' ');
        }
        draft.append(Names.word(a % WORDS));
        break;
      case 1:
        draft.append('\n');
        break;
      case 6:
        draft.append('\'');
        break;
      case 7:
        draft.append('_');
        break;
      case 8:
        draft.append('`');
        break;
      case 12:
        draft.append('(');
        draft.append(Names.word(a % WORDS));
        draft.append(')');
        break;
      case 13:
        draft.append('#');
        draft.append(Names.word(a % WORDS));
        break;
      default:
        draft.append('@');
        Names.appendName(a, draft);
        break;
    }
  }

  /** The last sign of the DRAFT; a blank, which no kind asks for, if it is empty. */
  private char lastOfDraft() {
    int many = draft.length();
    return many > 0 ? draft.charAt(many - 1) : ' ';
  }

  public int type(int sign) throws IllegalArgumentException, IllegalStateException {
    if (sign < 0 || sign >= SIGNS.length()) {
      throw new IllegalArgumentException();
    }
    if (draft.length() >= MOST_DRAFT) {
      throw new IllegalStateException();
    }
    draft.append(SIGNS.charAt(sign));
    return draft.length();
  }

  public int rub(int many) throws IllegalArgumentException {
    if (many < 1 || many > MOST_DRAFT) {
      throw new IllegalArgumentException();
    }
    draft.setLength(Math.max(0, draft.length() - many));
    return draft.length();
  }

  public String draft() {
    return draft.toString();
  }

  public int take(int page, int version)
      throws IndexOutOfBoundsException, IllegalArgumentException, IllegalStateException {
    String taken = keptText(there(page), version);
    if (taken.length() > MOST_DRAFT) {
      throw new IllegalStateException();
    }
    draft.setLength(0);
    draft.append(taken);
    return draft.length();
  }

  // ---- users

  public int login(int user) throws IllegalArgumentException {
    checkUser(user);
    int before = this.user;
    this.user = user;
    return before;
  }

  public int allow(int user, int prefix, int right) throws IllegalArgumentException {
    checkUser(user);
    if (prefix < 0 || prefix >= PREFIXES || right < NONE || right > MAY_CHANGE) {
      throw new IllegalArgumentException();
    }
    int slot = user * PREFIXES + prefix;
    int before = prefixRights[slot];
    prefixRights[slot] = right;
    return before;
  }

  public int allowPage(int user, int page, int right)
      throws IndexOutOfBoundsException, IllegalArgumentException {
    Page found = there(page);
    checkUser(user);
    if (right < NONE || right > MAY_CHANGE) {
      throw new IllegalArgumentException();
    }
    int before = found.rights[user];
    found.rights[user] = right;
    return before;
  }

  public int right(int user, int page) throws IndexOutOfBoundsException, IllegalArgumentException {
    Page found = there(page);
    checkUser(user);
    return found.rights[user] != NONE ? found.rights[user] : rightByPrefix(user, found.name);
  }

  /** The RIGHT at a NAME, if none is told for a page that has it. */
  private int rightByPrefix(int asking, int name) {
    int prefix = name / WORDS;
    for (int i = 0; i < PREFIXES && prefix >= 0 && prefix < PREFIXES; i++) {
      int told = prefixRights[asking * PREFIXES + prefix];
      if (told != NONE) {
        return told;
      }
      prefix = Names.shorterPrefix(prefix);
    }
    return MAY_CHANGE;
  }

  private boolean mayChange(Page page) {
    int told = page.rights[user];
    return (told != NONE ? told : rightByPrefix(user, page.name)) == MAY_CHANGE;
  }

  private boolean mayPlant(int name) {
    return rightByPrefix(user, name) == MAY_CHANGE;
  }

  private void checkUser(int asked) {
    if (asked < 0 || asked >= USERS) {
      throw new IllegalArgumentException();
    }
  }

  // ---- pages

  public int plant(int name) throws IllegalArgumentException, IllegalStateException {
    checkName(name);
    int slot = freeSlot(name);
    if (!mayPlant(name)) {
      return refuse();
    }
    startPage(slot, name, draft.toString());
    draft.setLength(0);
    settle();
    return slot;
  }

  public int write(int page) throws IndexOutOfBoundsException {
    Page found = there(page);
    if (!mayChange(found)) {
      return refuse();
    }
    change(page, draft.toString());
    draft.setLength(0);
    settle();
    return found.newest;
  }

  public int writeOver(int page, int version)
      throws IndexOutOfBoundsException, IllegalArgumentException {
    Page found = there(page);
    String base = keptText(found, version);
    if (!mayChange(found)
        || !weaver.weave(draft.toString(), found.whole, base, out)
        || out.length() > MOST_SIGNS) {
      return refuse();
    }
    change(page, out.toString());
    draft.setLength(0);
    settle();
    return found.newest;
  }

  public int writeSection(int page, int section)
      throws IndexOutOfBoundsException, IllegalArgumentException {
    Page found = there(page);
    checkSection(found, section);
    found.spliceInto(section, draft.toString(), out);
    if (!mayChange(found) || out.length() > MOST_SIGNS) {
      return refuse();
    }
    change(page, out.toString());
    draft.setLength(0);
    settle();
    return found.newest;
  }

  public int rename(int page, int name)
      throws IndexOutOfBoundsException, IllegalArgumentException, IllegalStateException {
    Page found = there(page);
    checkName(name);
    int owner = web.owner(name);
    if (owner != NONE && owner != page) {
      throw new IllegalStateException();
    }
    if (owner == page) {
      return 0;
    }
    if (!mayChange(found) || !mayPlant(name) || !isRenamable(found.name, name)) {
      return refuse();
    }
    int many = 0;
    for (int i = 0; i < MOST_PAGES; i++) {
      int naming = pages[i].isThere ? pages[i].tree.manyNaming(found.name) : 0;
      if (naming > 0) {
        pages[i].tree.renameInto(found.name, name, out);
        change(i, out.toString());
        many += naming;
      }
    }
    found.name = name;
    settle();
    return many;
  }

  private boolean isRenamable(int old, int name) {
    int longer = Names.signsOf(name) - Names.signsOf(old);
    for (int i = 0; i < MOST_PAGES; i++) {
      if (pages[i].isThere) {
        Tree tree = pages[i].tree;
        int signs = pages[i].whole.length() + longer * tree.manyNaming(old);
        if (signs > MOST_SIGNS || tree.manyNaming(name) > 0) {
          return false;
        }
      }
    }
    return true;
  }

  public int split(int page, int section, int name)
      throws IndexOutOfBoundsException, IllegalArgumentException, IllegalStateException {
    Page found = there(page);
    checkSection(found, section);
    checkName(name);
    int slot = freeSlot(name);
    otherOut.setLength(0);
    otherOut.append('[');
    Names.appendName(name, otherOut);
    otherOut.append(']');
    found.spliceInto(section, otherOut.toString(), out);
    if (!mayChange(found)
        || !mayPlant(name)
        || found.isSectionWithoutLines(section)
        || out.length() > MOST_SIGNS) {
      return refuse();
    }
    startPage(slot, name, found.sectionText(section));
    change(page, out.toString());
    settle();
    return slot;
  }

  public int merge(int page, int other) throws IndexOutOfBoundsException, IllegalArgumentException {
    Page found = there(page);
    Page second = there(other);
    if (page == other) {
      throw new IllegalArgumentException();
    }
    out.setLength(0);
    out.append(found.whole);
    out.append('\n');
    out.append(second.whole);
    if (!mayChange(found) || !mayChange(second) || out.length() > MOST_SIGNS) {
      return refuse();
    }
    change(page, out.toString());
    out.setLength(0);
    out.append('@');
    Names.appendName(found.name, out);
    change(other, out.toString());
    settle();
    return found.newest;
  }

  public int uproot(int page) throws IndexOutOfBoundsException {
    Page found = there(page);
    if (!mayChange(found)) {
      return refuse();
    }
    found.isThere = false;
    shelf.dropPage(page);
    settle();
    return web.count;
  }

  public int undoEdit(int page, int version)
      throws IndexOutOfBoundsException, IllegalArgumentException {
    Page found = there(page);
    String undone = keptText(found, version);
    if (!found.isKept(version - 1)) {
      throw new IllegalArgumentException();
    }
    if (!mayChange(found)
        || !weaver.weave(found.textOf(version - 1), found.whole, undone, out)
        || out.length() > MOST_SIGNS) {
      return refuse();
    }
    change(page, out.toString());
    settle();
    return found.newest;
  }

  public int restore(int page, int version)
      throws IndexOutOfBoundsException, IllegalArgumentException {
    Page found = there(page);
    String old = keptText(found, version);
    if (!mayChange(found)) {
      return refuse();
    }
    change(page, old);
    settle();
    return found.newest;
  }

  private void startPage(int slot, int name, String fresh) {
    if (slot >= 0 && slot < MOST_PAGES) {
      pages[slot].start(name);
      pages[slot].addVersion(fresh, user);
    }
  }

  /** The TEXT of a page becomes another one, if it is one; the web must be settled then. */
  private void change(int page, String fresh) {
    if (page >= 0 && page < MOST_PAGES && !fresh.equals(pages[page].whole)) {
      pages[page].addVersion(fresh, user);
      shelf.dropWithInside(page);
    }
  }

  /** Who LEADS where is read again, and what is KEPT goes where a question has another answer. */
  private void settle() {
    web.forget();
    for (int i = 0; i < MOST_PAGES; i++) {
      if (pages[i].isThere) {
        web.addPage(i, pages[i].name, pages[i].tree);
      }
    }
    web.findWays();
    shelf.dropAnsweredOtherwise(web);
  }

  private int refuse() {
    refusals++;
    return REFUSED;
  }

  private Page there(int page) {
    if (page < 0 || page >= MOST_PAGES || !pages[page].isThere) {
      throw new IndexOutOfBoundsException();
    }
    return pages[page];
  }

  /** The page with a NAME, null without one. */
  private Page named(int name) {
    int owner = web.owner(name);
    return owner >= 0 && owner < MOST_PAGES ? pages[owner] : null;
  }

  private String keptText(Page page, int version) {
    if (!page.isKept(version)) {
      throw new IllegalArgumentException();
    }
    return page.textOf(version);
  }

  private void checkName(int name) {
    if (name < 0 || name >= NAMES) {
      throw new IllegalArgumentException();
    }
  }

  private void checkSection(Page page, int section) {
    if (section < 0 || section > page.tree.many(SECTION)) {
      throw new IllegalArgumentException();
    }
  }

  /** The smallest number that is free, for a page with that NAME. */
  private int freeSlot(int name) {
    if (web.owner(name) == NONE) {
      for (int i = 0; i < MOST_PAGES; i++) {
        if (!pages[i].isThere) {
          return i;
        }
      }
    }
    throw new IllegalStateException();
  }

  // ---- what a page is

  public String text(int page, int version)
      throws IndexOutOfBoundsException, IllegalArgumentException {
    return keptText(there(page), version);
  }

  public int ofPage(int page, int what) throws IndexOutOfBoundsException, IllegalArgumentException {
    Page found = there(page);
    if (what < 0 || what > 15) {
      throw new IllegalArgumentException();
    }
    return tellOfPage(page, found, what);
  }

  private int tellOfPage(int page, Page found, int what) {
    switch (what) {
      case 0:
        return found.name;
      case 1:
        return found.whole.length();
      case 2:
        return Names.manyLines(found.whole);
      case 3:
        return found.newest;
      case 4:
        return found.oldest();
      case 5:
        return found.tree.many(LINK);
      case 6:
        return found.tree.many(PART);
      case 7:
        return found.tree.count;
      case 8:
        return found.tree.many(HEAD);
      case 9:
        return found.wordCount;
      case 10:
        return web.redirectOf(page);
      case 11:
        return Integer.bitCount(web.here(page));
      case 12:
        return web.here(page) == 0 ? 1 : 0;
      case 13:
        return web.to(page) == 0 ? 1 : 0;
      case 14:
        return shelf.place(page) != NONE ? 1 : 0;
      default:
        return found.remarkCount;
    }
  }

  public int node(int page, int nth, int what)
      throws IndexOutOfBoundsException, IllegalArgumentException {
    Tree tree = there(page).tree;
    checkNode(tree, nth);
    switch (what) {
      case 0:
        return tree.kind[nth];
      case 1:
        return tree.depth[nth];
      case 2:
        return tree.kids[nth];
      case 3:
        return tree.ends[nth] - tree.starts[nth];
      case 4:
        return tree.starts[nth];
      default:
        throw new IllegalArgumentException();
    }
  }

  public String nodeText(int page, int nth) throws IndexOutOfBoundsException {
    Page found = there(page);
    checkNode(found.tree, nth);
    out.setLength(0);
    Names.copy(found.whole, found.tree.starts[nth], found.tree.ends[nth], out);
    return out.toString();
  }

  private void checkNode(Tree tree, int nth) {
    if (nth < 0 || nth >= tree.count || nth >= MOST_NODES) {
      throw new IndexOutOfBoundsException();
    }
  }

  public String contents(int page) throws IndexOutOfBoundsException {
    return viewer.headsOf(there(page).tree);
  }

  public String section(int page, int section)
      throws IndexOutOfBoundsException, IllegalArgumentException {
    Page found = there(page);
    checkSection(found, section);
    return found.sectionText(section);
  }

  public String shown(int page) throws IndexOutOfBoundsException {
    Page found = there(page);
    if (shelf.fetch(page)) {
      shownKept++;
    } else {
      shownAnew++;
      viewer.make(page);
      // What is shown can be long: the same text does not take room again.
      if (!Names.isSame(viewer.out, found.lastShown)) {
        found.lastShown = viewer.out.toString();
      }
      shelf.keep(page, viewer, found.lastShown);
    }
    return shelf.answerAt(shelf.count - 1);
  }

  public int writer(int page, int nth) throws IndexOutOfBoundsException, IllegalArgumentException {
    Page found = there(page);
    if (nth < 0 || nth >= found.wordCount || nth >= MOST_WORDS) {
      throw new IllegalArgumentException();
    }
    return found.writers[nth];
  }

  public int versionOf(int page, int version, int what)
      throws IndexOutOfBoundsException, IllegalArgumentException {
    Page found = there(page);
    String whole = keptText(found, version);
    switch (what) {
      case 0:
        return found.userOf(version);
      case 1:
        return whole.length();
      case 2:
        return Names.manyLines(whole);
      default:
        throw new IllegalArgumentException();
    }
  }

  // ---- links and walks

  public int link(int page, int nth) throws IndexOutOfBoundsException, IllegalArgumentException {
    Tree tree = there(page).tree;
    int at = tree.nthOf(LINK, nth);
    if (at < 0 || at >= MOST_NODES) {
      throw new IllegalArgumentException();
    }
    return web.lead(tree.name[at]);
  }

  public int sets(int page, int what) throws IndexOutOfBoundsException, IllegalArgumentException {
    there(page);
    if (what < 0 || what > 3) {
      throw new IllegalArgumentException();
    }
    return tellSet(page, what);
  }

  private int tellSet(int page, int what) {
    switch (what) {
      case 0:
        return web.to(page);
      case 1:
        return web.here(page);
      case 2:
        return web.reached(page, true);
      default:
        return web.reached(page, false);
    }
  }

  public String walk(int from, int to) throws IndexOutOfBoundsException {
    Page first = there(from);
    there(to);
    out.setLength(0);
    int steps = web.measure(from, to);
    if (steps == NONE) {
      return "";
    }
    Names.appendName(first.name, out);
    int at = from;
    for (int left = steps - 1; left >= 0; left--) {
      at = web.nextOnWay(at, left);
      if (at >= 0 && at < MOST_PAGES) {
        out.append('>');
        Names.appendName(pages[at].name, out);
      }
    }
    return out.toString();
  }

  public String rank(int page, int steps)
      throws IndexOutOfBoundsException, IllegalArgumentException {
    there(page);
    if (steps < 0 || steps > 4) {
      throw new IllegalArgumentException();
    }
    long whole = web.share(steps);
    long part = web.shareOf(page);
    long common = Math.max(1, Web.commonDivisor(whole, part));
    out.setLength(0);
    Names.appendLong(part / common, out);
    out.append('/');
    Names.appendLong(whole / common, out);
    return out.toString();
  }

  public int byName(int nth) throws IllegalArgumentException {
    if (nth < 0) {
      throw new IllegalArgumentException();
    }
    int left = nth;
    for (int i = 0; i < NAMES; i++) {
      int owner = web.owner(BY_NAMES[i]);
      if (owner != NONE) {
        if (left == 0) {
          return owner;
        }
        left--;
      }
    }
    return NONE;
  }

  public int near(int page, boolean isAhead) throws IndexOutOfBoundsException {
    Page found = there(page);
    int before = NONE;
    boolean isBehind = false;
    for (int i = 0; i < NAMES; i++) {
      int owner = web.owner(BY_NAMES[i]);
      if (BY_NAMES[i] == found.name) {
        if (isAhead) {
          return before;
        }
        isBehind = true;
      } else if (owner != NONE) {
        if (isBehind) {
          return owner;
        }
        before = owner;
      }
    }
    return NONE;
  }

  public int byPrefix(int prefix) throws IllegalArgumentException {
    if (prefix < 0 || prefix >= PREFIXES) {
      throw new IllegalArgumentException();
    }
    int set = 0;
    for (int i = 0; i < MOST_PAGES; i++) {
      if (pages[i].isThere && Names.beginsWith(pages[i].name, prefix)) {
        set |= 1 << i;
      }
    }
    return set;
  }

  public int find(int word) throws IllegalArgumentException {
    checkWord(word);
    int set = 0;
    for (int i = 0; i < MOST_PAGES; i++) {
      if (pages[i].isThere && words.isIn(pages[i].whole, Names.word(word))) {
        set |= 1 << i;
      }
    }
    return set;
  }

  public int kinds(int one, int other, int op) throws IllegalArgumentException {
    checkWord(one);
    checkWord(other);
    if (op < 0 || op > 2) {
      throw new IllegalArgumentException();
    }
    int first = ofKind(Names.word(one));
    int second = ofKind(Names.word(other));
    if (op == 0) {
      return first & second;
    }
    return op == 1 ? first | second : first & ~second;
  }

  private int ofKind(String word) {
    int set = 0;
    for (int i = 0; i < MOST_PAGES; i++) {
      if (pages[i].isThere && pages[i].tree.hasKind(word)) {
        set |= 1 << i;
      }
    }
    return set;
  }

  private void checkWord(int word) {
    if (word < 0 || word >= WORDS) {
      throw new IllegalArgumentException();
    }
  }

  public int all(int what) throws IllegalArgumentException {
    if (what < 0 || what > 5) {
      throw new IllegalArgumentException();
    }
    return tellAll(what);
  }

  private int tellAll(int what) {
    int set = 0;
    for (int i = 0; i < MOST_PAGES; i++) {
      if (pages[i].isThere && isAmong(i, what)) {
        set |= 1 << i;
      }
    }
    return set;
  }

  private boolean isAmong(int page, int what) {
    switch (what) {
      case 0:
        return true;
      case 1:
        return web.here(page) == 0;
      case 2:
        return web.to(page) == 0;
      case 3:
        return web.hasRedirect(page);
      case 4:
        return web.hasRedirect(page) && web.redirectOf(page) == NONE;
      default:
        return shelf.place(page) != NONE;
    }
  }

  // ---- who watches and talks

  public int watch(int user, int page, boolean isWatching)
      throws IndexOutOfBoundsException, IllegalArgumentException {
    Page found = there(page);
    checkUser(user);
    boolean wasWatching = found.seen[user] != NONE;
    if (!isWatching) {
      found.seen[user] = NONE;
    } else if (!wasWatching) {
      found.seen[user] = found.newest;
    }
    return wasWatching ? 1 : 0;
  }

  public int see(int user, int page) throws IndexOutOfBoundsException, IllegalArgumentException {
    Page found = there(page);
    checkUser(user);
    if (found.seen[user] == NONE) {
      return refuse();
    }
    int many = found.newest - found.seen[user];
    found.seen[user] = found.newest;
    return many;
  }

  public int unseen(int user) throws IllegalArgumentException {
    checkUser(user);
    int many = 0;
    for (int i = 0; i < MOST_PAGES; i++) {
      if (pages[i].isThere && pages[i].seen[user] != NONE) {
        many += pages[i].newest - pages[i].seen[user];
      }
    }
    return many;
  }

  public int talk(int page) throws IndexOutOfBoundsException, IllegalStateException {
    Page found = there(page);
    if (found.remarkCount >= MOST_REMARKS) {
      throw new IllegalStateException();
    }
    found.remarks[found.remarkCount] = new Signed(draft.toString(), user);
    found.remarkCount++;
    draft.setLength(0);
    return found.remarkCount;
  }

  public String remark(int page, int nth)
      throws IndexOutOfBoundsException, IllegalArgumentException {
    Page found = there(page);
    if (nth < 0 || nth >= found.remarkCount || nth >= MOST_REMARKS) {
      throw new IllegalArgumentException();
    }
    Signed told = found.remarks[nth];
    out.setLength(0);
    if (told != null) {
      out.append(told.user);
      out.append(':');
      out.append(told.said);
    }
    return out.toString();
  }

  // ---- all

  public String exported() {
    writeExport();
    return out.toString();
  }

  private void writeExport() {
    out.setLength(0);
    for (int i = 0; i < NAMES; i++) {
      Page found = named(BY_NAMES[i]);
      if (found != null) {
        out.append('%');
        Names.appendName(BY_NAMES[i], out);
        out.append(' ');
        out.append(Names.manyLines(found.whole));
        out.append('\n');
        out.append(found.whole);
        out.append('\n');
      }
    }
  }

  public int reload() {
    int many = 0;
    for (int i = 0; i < NAMES && many < MOST_PAGES; i++) {
      // While pages change places, the web does not know where they are.
      int from = slotOf(BY_NAMES[i]);
      if (from >= 0 && from < MOST_PAGES) {
        Page moved = pages[from];
        pages[from] = pages[many];
        pages[many] = moved;
        startPage(many, moved.name, moved.whole);
        many++;
      }
    }
    shelf.clear();
    settle();
    return many;
  }

  /** Where the page with that NAME is, asked of the pages and not of the web. */
  private int slotOf(int name) {
    for (int i = 0; i < MOST_PAGES; i++) {
      if (pages[i].isThere && pages[i].name == name) {
        return i;
      }
    }
    return NONE;
  }

  public int garden(int what) throws IllegalArgumentException {
    if (what < 0 || what > 8) {
      throw new IllegalArgumentException();
    }
    return tellGarden(what);
  }

  private int tellGarden(int what) {
    switch (what) {
      case 0:
        return web.count;
      case 1:
        return user;
      case 2:
        return refusals;
      case 3:
        return knocks;
      case 4:
        return shownAnew;
      case 5:
        return shownKept;
      case 6:
        return draft.length();
      case 7:
        return manyVersions();
      default:
        return manyRights();
    }
  }

  private int manyVersions() {
    int many = 0;
    for (int i = 0; i < MOST_PAGES; i++) {
      if (pages[i].isThere) {
        many += pages[i].newest - pages[i].oldest() + 1;
      }
    }
    return many;
  }

  private int manyRights() {
    int many = Names.manyTold(prefixRights);
    for (int i = 0; i < MOST_PAGES; i++) {
      if (pages[i].isThere) {
        many += Names.manyTold(pages[i].rights);
      }
    }
    return many;
  }

  public int knock() {
    knocks++;
    return knocks;
  }

  public boolean isSound() {
    webAnew.forget();
    for (int i = 0; i < MOST_PAGES; i++) {
      if (pages[i].isThere) {
        anew.grow(pages[i].whole, lines);
        webAnew.addPage(i, pages[i].name, anew);
        if (!isTreeSound(pages[i]) || !isPastSound(pages[i])) {
          return false;
        }
      }
    }
    webAnew.findWays();
    for (int i = 0; i < MOST_PAGES; i++) {
      if (web.here(i) != webAnew.here(i)) {
        return false;
      }
    }
    for (int i = 0; i < shelf.count; i++) {
      viewer.make(shelf.pageAt(i));
      if (!Names.isSame(viewer.out, shelf.answerAt(i))) {
        return false;
      }
    }
    return areRanksSound() && isExportSound();
  }

  private boolean isTreeSound(Page page) {
    page.tree.writeInto(out);
    boolean hasAll = page.tree.starts[0] == 0 && page.tree.ends[0] == page.whole.length();
    return hasAll && Names.isSame(out, page.whole);
  }

  private boolean isPastSound(Page page) {
    words.gather(page.whole);
    if (words.count != page.wordCount || !page.textOf(page.newest).equals(page.whole)) {
      return false;
    }
    String old = page.textOf(page.oldest());
    String base = page.textOf(Math.min(page.oldest() + 1, page.newest));
    boolean isJoined = weaver.weave(page.whole, old, base, out);
    boolean isJoinedOtherwise = weaver.weave(old, page.whole, base, otherOut);
    return isJoined == isJoinedOtherwise && (!isJoined || Names.areSame(out, otherOut));
  }

  private boolean areRanksSound() {
    long whole = web.share(2);
    long sum = 0;
    for (int i = 0; i < MOST_PAGES; i++) {
      if (pages[i].isThere) {
        sum += web.shareOf(i);
      }
    }
    return web.count == 0 || sum == whole;
  }

  private boolean isExportSound() {
    writeExport();
    int at = 0;
    for (int i = 0; i < NAMES && at != NONE; i++) {
      int slot = slotOf(BY_NAMES[i]);
      if (slot >= 0 && slot < MOST_PAGES) {
        at = readExported(at, BY_NAMES[i], pages[slot].whole);
      }
    }
    return at == out.length();
  }

  /** Where the export goes on behind a page that is told there; NONE if another one is. */
  private int readExported(int begin, int name, String whole) {
    int at = Names.behind(out, begin, "%");
    at = Names.behind(out, at, Names.prefix(name / WORDS));
    at = Names.behind(out, at, Names.word(name % WORDS));
    at = Names.behind(out, at, " ");
    int many = 0;
    for (; at != NONE && at < out.length() && out.charAt(at) != '\n'; at++) {
      many = many * 10 + (out.charAt(at) - '0');
    }
    at = Names.behind(out, at, "\n");
    int end = at;
    for (; end != NONE && end < out.length() && many > 0; end++) {
      if (out.charAt(end) == '\n') {
        many--;
      }
    }
    int told = Names.behind(out, Names.behind(out, at, whole), "\n");
    return many == 0 && told == end ? told : NONE;
  }

  public long digest() {
    long d = 5803;
    for (int what = 0; what <= 8; what++) {
      d = d * 31 + tellGarden(what);
    }
    for (int what = 0; what <= 5; what++) {
      d = d * 31 + tellAll(what);
    }
    for (int i = 0; i < NAMES; i++) {
      int page = web.owner(BY_NAMES[i]);
      if (page >= 0 && page < MOST_PAGES) {
        d = digestPage(d, page, pages[page]);
        viewer.make(page);
        d = d * 31 + viewer.out.length();
        for (int at = 0; at < viewer.out.length(); at++) {
          d = d * 31 + viewer.out.charAt(at);
        }
      }
    }
    return d * 31 + (isSound() ? 1 : 0);
  }

  private long digestPage(long begun, int page, Page found) {
    long d = begun * 31 + page;
    for (int what = 0; what <= 15; what++) {
      d = d * 31 + tellOfPage(page, found, what);
    }
    d = d * 31 + found.whole.length();
    for (int i = 0; i < found.whole.length(); i++) {
      d = d * 31 + found.whole.charAt(i);
    }
    for (int i = 0; i < found.tree.count && i < MOST_NODES; i++) {
      d = d * 31 + found.tree.kind[i];
    }
    for (int what = 0; what <= 3; what++) {
      d = d * 31 + tellSet(page, what);
    }
    for (int i = 0; i < found.wordCount && i < MOST_WORDS; i++) {
      d = d * 31 + found.writers[i];
    }
    return d;
  }

  // ---- signs, words, names

  /** WORDS, PREFIXES and NAMES by their numbers, and small things that are done with texts. */
  private static final class Names {
    static String word(int number) {
      switch (number) {
        case 0:
          return "ab";
        case 1:
          return "ba";
        case 2:
          return "cad";
        case 3:
          return "deaf";
        case 4:
          return "egg";
        case 5:
          return "fig";
        case 6:
          return "gab";
        case 7:
          return "hid";
        case 8:
          return "ice";
        default:
          return "jig";
      }
    }

    static String prefix(int number) {
      switch (number) {
        case 1:
          return "a/";
        case 2:
          return "b/";
        case 3:
          return "a/b/";
        default:
          return "";
      }
    }

    /** The longest other PREFIX with which a PREFIX begins; NONE for the empty one. */
    static int shorterPrefix(int prefix) {
      if (prefix == 3) {
        return 1;
      }
      return prefix > 0 ? 0 : NONE;
    }

    static boolean beginsWith(int name, int prefix) {
      int own = name / WORDS;
      return prefix == 0 || own == prefix || own == 3 && prefix == 1;
    }

    static void appendName(int name, StringBuilder out) {
      out.append(prefix(name / WORDS));
      out.append(word(name % WORDS));
    }

    static int signsOf(int name) {
      return prefix(name / WORDS).length() + word(name % WORDS).length();
    }

    /** The number of the NAME that stands there, NONE if what stands there is none. */
    static int nameAt(String whole, int from, int to) {
      for (int prefix = 0; prefix < PREFIXES; prefix++) {
        String begin = prefix(prefix);
        int middle = from + begin.length();
        if (isPiece(whole, from, Math.min(middle, to), begin)) {
          for (int word = 0; word < WORDS; word++) {
            if (isPiece(whole, middle, to, word(word))) {
              return prefix * WORDS + word;
            }
          }
        }
      }
      return NONE;
    }

    static boolean isPiece(String whole, int from, int to, String piece) {
      if (from < 0 || to > whole.length() || to - from != piece.length()) {
        return false;
      }
      for (int i = 0; i < piece.length(); i++) {
        if (whole.charAt(from + i) != piece.charAt(i)) {
          return false;
        }
      }
      return true;
    }

    static boolean isLetter(char sign) {
      return sign >= 'a' && sign <= 'j';
    }

    static int manyLines(String whole) {
      int many = 1;
      for (int i = 0; i < whole.length(); i++) {
        if (whole.charAt(i) == '\n') {
          many++;
        }
      }
      return many;
    }

    static int manyTold(int[] rights) {
      int many = 0;
      for (int i = 0; i < rights.length; i++) {
        if (rights[i] != NONE) {
          many++;
        }
      }
      return many;
    }

    static void copy(String whole, int from, int to, StringBuilder out) {
      int end = Math.min(to, whole.length());
      for (int i = Math.max(0, from); i < end; i++) {
        out.append(whole.charAt(i));
      }
    }

    /** StringBuilder's own append of a long is not in the language that the program keeps to. */
    static void appendLong(long number, StringBuilder out) {
      long unit = 1;
      for (int i = 0; i < 18 && number / unit >= 10; i++) {
        unit *= 10;
      }
      for (int i = 0; i < 19 && unit > 0; i++) {
        out.append((char) ('0' + (int) (number / unit % 10)));
        unit /= 10;
      }
    }

    /** Behind a piece that stands at a place; NONE if it does not, or the place is NONE. */
    static int behind(StringBuilder whole, int at, String piece) {
      if (at < 0 || at + piece.length() > whole.length()) {
        return NONE;
      }
      for (int i = 0; i < piece.length(); i++) {
        if (whole.charAt(at + i) != piece.charAt(i)) {
          return NONE;
        }
      }
      return at + piece.length();
    }

    static boolean isSame(StringBuilder one, String other) {
      return behind(one, 0, other) == one.length();
    }

    static boolean areSame(StringBuilder one, StringBuilder other) {
      if (one.length() != other.length()) {
        return false;
      }
      for (int i = 0; i < one.length(); i++) {
        if (one.charAt(i) != other.charAt(i)) {
          return false;
        }
      }
      return true;
    }
  }

  /** What a USER wrote: a VERSION, or a remark. */
  private static final class Signed {
    final String said;
    final int user;

    Signed(String said, int user) {
      this.said = said;
      this.user = user;
    }
  }

  /** The LINES of a text. */
  private static final class Lines {
    private final int[] begins = new int[MOST_LINES];
    private String whole = "";
    int count;
    // How many LINES at the beginning, and at the end, are those of the text over which it is.
    int ahead;
    int behind;

    void cut(String given) {
      whole = given;
      begins[0] = 0;
      count = 1;
      for (int i = 0; i < given.length() && count < MOST_LINES; i++) {
        if (given.charAt(i) == '\n') {
          begins[count] = i + 1;
          count++;
        }
      }
    }

    int begin(int nth) {
      return nth >= 0 && nth < count && nth < MOST_LINES ? begins[nth] : whole.length();
    }

    /** Where a LINE ends, its LINE END not counted. */
    int end(int nth) {
      boolean isInside = nth >= 0 && nth + 1 < count && nth + 1 < MOST_LINES;
      return isInside ? begins[nth + 1] - 1 : whole.length();
    }

    void compareWith(Lines base) {
      int most = Math.min(count, base.count);
      ahead = 0;
      while (ahead < most && isSameLine(ahead, base, ahead)) {
        ahead++;
      }
      behind = 0;
      while (ahead + behind < most
          && isSameLine(count - 1 - behind, base, base.count - 1 - behind)) {
        behind++;
      }
    }

    private boolean isSameLine(int nth, Lines other, int otherNth) {
      int from = begin(nth);
      int otherFrom = other.begin(otherNth);
      int many = end(nth) - from;
      if (many != other.end(otherNth) - otherFrom) {
        return false;
      }
      for (int i = 0; i < many; i++) {
        if (whole.charAt(from + i) != other.whole.charAt(otherFrom + i)) {
          return false;
        }
      }
      return true;
    }
  }

  /** The WORDS of a text. */
  private static final class Words {
    private final int[] begins = new int[MOST_WORDS];
    private final int[] ends = new int[MOST_WORDS];
    private String whole = "";
    int count;

    void gather(String given) {
      whole = given;
      count = 0;
      int at = 0;
      while (at < given.length() && count < MOST_WORDS) {
        int end = at;
        while (end < given.length() && Names.isLetter(given.charAt(end))) {
          end++;
        }
        if (end > at) {
          begins[count] = at;
          ends[count] = end;
          count++;
        }
        at = end + 1;
      }
    }

    boolean isIn(String given, String word) {
      gather(given);
      for (int i = 0; i < count && i < MOST_WORDS; i++) {
        if (Names.isPiece(given, begins[i], ends[i], word)) {
          return true;
        }
      }
      return false;
    }

    boolean isSameWord(int nth, Words other, int otherNth) {
      if (nth < 0 || nth >= count || otherNth < 0 || otherNth >= other.count) {
        return false;
      }
      int from = begins[nth];
      int otherFrom = other.begins[otherNth];
      int many = ends[nth] - from;
      if (many != other.ends[otherNth] - otherFrom) {
        return false;
      }
      for (int i = 0; i < many; i++) {
        if (whole.charAt(from + i) != other.whole.charAt(otherFrom + i)) {
          return false;
        }
      }
      return true;
    }
  }

  // ---- the tree

  /** The TREE of a text: its NODES in rows, as they come. */
  private static final class Tree {
    // The PAGE, three SECTIONS, three ITEMS, a LINE, a CELL and what is in it, at most.
    private static final int MOST_OPEN = 10;

    final int[] kind = new int[MOST_NODES];
    final int[] starts = new int[MOST_NODES];
    final int[] ends = new int[MOST_NODES];
    final int[] depth = new int[MOST_NODES];
    final int[] kids = new int[MOST_NODES];
    // The LEVEL or DEPTH; of what has a NAMING text, or a PLACE, where that, or the digit, ends.
    final int[] mark = new int[MOST_NODES];
    // The number of the NAME that the NAMING text is, or NONE.
    final int[] name = new int[MOST_NODES];
    int count;
    String whole = "";
    private final int[] open = new int[MOST_OPEN];
    private int openCount;
    private int foundKind;
    private int foundMark;

    void grow(String given, Lines lines) {
      whole = given;
      count = 0;
      openCount = 0;
      lines.cut(given);
      openNode(PAGE, 0, 0);
      for (int i = 0; i < lines.count; i++) {
        int from = lines.begin(i);
        int end = lines.end(i);
        int line = kindOfLine(i == 0, from, end);
        int level = line == HEAD || line == ITEM ? manySame(from, end) : 0;
        openLine(line, from, level);
        if (line == ROW) {
          for (int at = from + 1; at <= end; at++) {
            int stop = barOrEnd(at, end);
            openNode(CELL, at, 0);
            readBody(at, stop);
            closeNode(stop);
            at = Math.max(at, stop);
          }
        } else if (line != REDIRECT) {
          readBody(line == QUOTE ? from + 1 : from + level, end);
        }
        // An ITEM ends where a LINE comes that is not in it.
        if (line != ITEM) {
          closeNode(lines.begin(i + 1));
        }
      }
      for (int i = 0; i < MOST_OPEN; i++) {
        closeNode(given.length());
      }
      findNames();
    }

    private int kindOfLine(boolean isFirst, int from, int end) {
      char sign = from < end ? whole.charAt(from) : '\n';
      if (sign == '\n') {
        return EMPTY;
      }
      if (sign == '=' || sign == '*') {
        boolean isTooMany = manySame(from, end) > 3;
        return isTooMany ? PLAIN : sign == '=' ? HEAD : ITEM;
      }
      if (sign == '>') {
        return QUOTE;
      }
      if (sign == '|') {
        return ROW;
      }
      boolean isNaming = from + 1 < end && lettersEnd(from + 1, end, true) == end;
      return isFirst && sign == '@' && isNaming ? REDIRECT : PLAIN;
    }

    /** How often the sign there comes without another one between. */
    private int manySame(int from, int end) {
      int at = from;
      while (at < end && whole.charAt(at) == whole.charAt(from)) {
        at++;
      }
      return at - from;
    }

    private void openLine(int line, int from, int level) {
      closeAll(ITEM, line == ITEM ? level : 0, from);
      if (line == HEAD) {
        closeAll(SECTION, level, from);
        openNode(SECTION, from, level);
      }
      openNode(line, from, level);
    }

    /** Where a CELL, or an argument, ends. */
    int barOrEnd(int from, int end) {
      int at = from;
      while (at < end && whole.charAt(at) != '|') {
        at++;
      }
      return at;
    }

    private void readBody(int from, int end) {
      int at = from;
      int told = from;
      while (at < end) {
        int stop = markEnd(at, end);
        if (stop > at) {
          addText(told, at);
          addNode(foundKind, at, stop, foundMark);
          at = stop;
          told = stop;
        } else {
          at++;
        }
      }
      addText(told, end);
    }

    private void addText(int from, int end) {
      if (from < end) {
        addNode(TEXT, from, end, 0);
      }
    }

    /** Where that ends which is not TEXT and begins there; NONE if it is TEXT. */
    private int markEnd(int at, int end) {
      foundKind = kindOfMark(whole.charAt(at));
      foundMark = 0;
      if (foundKind == TEXT) {
        return NONE;
      }
      if (foundKind == BOLD || foundKind == ITALIC) {
        return at + 1;
      }
      if (foundKind == KIND) {
        int stop = lettersEnd(at + 1, end, false);
        return stop > at + 1 ? stop : NONE;
      }
      int closing = closingSign(at, end);
      if (closing == NONE) {
        return NONE;
      }
      if (foundKind == LINK || foundKind == PART) {
        foundMark = lettersEnd(at + 1, closing, true);
        if (foundKind == PART && foundMark == at + 1 && isDigit(at + 1)) {
          foundKind = PLACE;
          foundMark = at + 2;
        }
        boolean isToldAlone = foundMark == closing || whole.charAt(foundMark) == '|';
        return foundMark > at + 1 && isToldAlone ? closing + 1 : NONE;
      }
      return closing + 1;
    }

    /** What a sign begins, if what comes behind it is right; of a PLACE it says PART. */
    private int kindOfMark(char sign) {
      if (sign == '`') {
        return CODE;
      }
      if (sign == '[') {
        return LINK;
      }
      if (sign == '{') {
        return PART;
      }
      if (sign == '(') {
        return NOTE;
      }
      if (sign == '#') {
        return KIND;
      }
      if (sign == '\'') {
        return BOLD;
      }
      return sign == '_' ? ITALIC : TEXT;
    }

    /** Where the next closing sign is; NONE if there is none, or an opening one comes ahead. */
    private int closingSign(int at, int end) {
      char opening = whole.charAt(at);
      char closing = opening == '[' ? ']' : opening == '{' ? '}' : opening == '(' ? ')' : opening;
      for (int i = at + 1; i < end; i++) {
        char sign = whole.charAt(i);
        if (sign == closing) {
          return i;
        }
        if (sign == opening) {
          return NONE;
        }
      }
      return NONE;
    }

    private boolean isDigit(int at) {
      return whole.charAt(at) >= '0' && whole.charAt(at) <= '2';
    }

    /** Where LETTERS end, and "/" with them, if it is a NAMING text. */
    private int lettersEnd(int from, int end, boolean isNaming) {
      int at = from;
      while (at < end) {
        char sign = whole.charAt(at);
        boolean isIn = sign >= 'a' && sign <= 'j' || isNaming && sign == '/';
        if (!isIn) {
          return at;
        }
        at++;
      }
      return at;
    }

    /** A new NODE in the one that is open. */
    private void addNode(int newKind, int from, int end, int newMark) {
      if (count < 0 || count >= MOST_NODES) {
        return;
      }
      kind[count] = newKind;
      starts[count] = from;
      ends[count] = end;
      depth[count] = openCount;
      kids[count] = 0;
      mark[count] = newMark;
      name[count] = NONE;
      int around = openCount > 0 && openCount <= MOST_OPEN ? open[openCount - 1] : NONE;
      if (around >= 0 && around < MOST_NODES) {
        kids[around]++;
      }
      count++;
    }

    /** A new NODE in the one that is open, and open from now on. */
    private void openNode(int newKind, int from, int newMark) {
      addNode(newKind, from, from, newMark);
      if (openCount >= 0 && openCount < MOST_OPEN) {
        open[openCount] = count - 1;
        openCount++;
      }
    }

    private int lastOpen() {
      int node = openCount > 0 && openCount <= MOST_OPEN ? open[openCount - 1] : NONE;
      return node < MOST_NODES ? node : NONE;
    }

    private void closeNode(int at) {
      int node = lastOpen();
      if (node >= 0) {
        ends[node] = at;
        openCount--;
      }
    }

    /** Ends the open NODES of a KIND with that LEVEL or more. */
    private void closeAll(int closing, int level, int at) {
      for (int i = 0; i < 3; i++) {
        int node = lastOpen();
        if (node >= 0 && kind[node] == closing && mark[node] >= level) {
          ends[node] = at;
          openCount--;
        }
      }
    }

    private void findNames() {
      for (int i = 0; i < count && i < MOST_NODES; i++) {
        if (kind[i] == REDIRECT) {
          mark[i] = lineEnd(i);
        }
        if (kind[i] == LINK || kind[i] == PART || kind[i] == REDIRECT) {
          name[i] = Names.nameAt(whole, starts[i] + 1, mark[i]);
        }
      }
    }

    int many(int asked) {
      int many = 0;
      for (int i = 0; i < count && i < MOST_NODES; i++) {
        if (kind[i] == asked) {
          many++;
        }
      }
      return many;
    }

    /** The NODE that is the nth of its KIND, from 0 on; NONE if there are not so many. */
    int nthOf(int asked, int nth) {
      int left = nth;
      for (int i = 0; i < count && i < MOST_NODES; i++) {
        if (kind[i] == asked) {
          if (left == 0) {
            return i;
          }
          left--;
        }
      }
      return NONE;
    }

    int kindAt(int node) {
      return node >= 0 && node < count && node < MOST_NODES ? kind[node] : NONE;
    }

    boolean hasKind(String word) {
      for (int i = 0; i < count && i < MOST_NODES; i++) {
        if (kind[i] == KIND && Names.isPiece(whole, starts[i] + 1, ends[i], word)) {
          return true;
        }
      }
      return false;
    }

    private boolean isNamingAt(int node, int asked) {
      int own = kindAt(node);
      return (own == LINK || own == PART || own == REDIRECT) && name[node] == asked;
    }

    int manyNaming(int asked) {
      int many = 0;
      for (int i = 0; i < count; i++) {
        if (isNamingAt(i, asked)) {
          many++;
        }
      }
      return many;
    }

    /** The text, with another NAME wherever the old one is a NAMING text. */
    void renameInto(int old, int fresh, StringBuilder out) {
      out.setLength(0);
      int told = 0;
      for (int i = 0; i < count && i < MOST_NODES; i++) {
        if (isNamingAt(i, old)) {
          Names.copy(whole, told, starts[i] + 1, out);
          Names.appendName(fresh, out);
          told = mark[i];
        }
      }
      Names.copy(whole, told, whole.length(), out);
    }

    /** The digit of a PLACE. */
    int digit(int node) {
      int at = node >= 0 && node < count && node < MOST_NODES ? starts[node] + 1 : whole.length();
      return at < whole.length() ? whole.charAt(at) - '0' : NONE;
    }

    /** Where an argument of a PART begins; NONE if it has none of that number. */
    int argument(int part, int number) {
      if (part < 0 || part >= count || part >= MOST_NODES) {
        return NONE;
      }
      int left = number;
      for (int i = mark[part]; i < ends[part] - 1; i++) {
        if (whole.charAt(i) == '|') {
          if (left == 0) {
            return i + 1;
          }
          left--;
        }
      }
      return NONE;
    }

    /** Where the LINE that begins at a NODE ends, its LINE END not counted. */
    int lineEnd(int node) {
      int at = node >= 0 && node < count && node < MOST_NODES ? starts[node] : whole.length();
      while (at < whole.length() && whole.charAt(at) != '\n') {
        at++;
      }
      return at;
    }

    /** The TREE, WRITTEN: each LINE's marks, and what is in it. */
    void writeInto(StringBuilder out) {
      out.setLength(0);
      boolean isFirst = true;
      for (int i = 0; i < count && i < MOST_NODES; i++) {
        if (kind[i] >= HEAD && kind[i] <= PLAIN) {
          if (!isFirst) {
            out.append('\n');
          }
          isFirst = false;
          writeMarks(i, out);
        } else if (kind[i] == CELL) {
          out.append('|');
        } else if (kind[i] >= TEXT) {
          Names.copy(whole, starts[i], ends[i], out);
        }
      }
    }

    private void writeMarks(int node, StringBuilder out) {
      if (kind[node] == QUOTE) {
        out.append('>');
      } else if (kind[node] == REDIRECT) {
        out.append('@');
        Names.copy(whole, starts[node] + 1, mark[node], out);
      } else if (kind[node] == HEAD || kind[node] == ITEM) {
        for (int i = 0; i < mark[node]; i++) {
          out.append(kind[node] == HEAD ? '=' : '*');
        }
      }
    }
  }

  // ---- a page

  /** A page: its TEXT, and all that goes with it. */
  private static final class Page {
    boolean isThere;
    int name;
    String whole = "";
    String lastShown = "";
    int newest;
    int wordCount;
    int remarkCount;
    final Tree tree = new Tree();
    final int[] writers = new int[MOST_WORDS];
    final int[] rights = new int[USERS];
    // The VERSION up to which a USER has SEEN it, NONE if the USER does not WATCH it.
    final int[] seen = new int[USERS];
    final Signed[] remarks = new Signed[MOST_REMARKS];
    // A VERSION stands at its number's rest, so that the twentieth one behind takes its place.
    private final Signed[] versions = new Signed[MOST_KEPT_VERSIONS];
    private final Lines lines;
    private final Words before;
    private final Words after;

    Page(Lines lines, Words before, Words after) {
      this.lines = lines;
      this.before = before;
      this.after = after;
    }

    /** A page that has no VERSION yet: its first one must be added next. */
    void start(int newName) {
      isThere = true;
      name = newName;
      whole = "";
      newest = NONE;
      wordCount = 0;
      remarkCount = 0;
      Arrays.fill(rights, NONE);
      Arrays.fill(seen, NONE);
    }

    /** The next VERSION. */
    void addVersion(String fresh, int user) {
      inherit(fresh, user);
      newest++;
      whole = fresh;
      versions[Math.floorMod(newest, MOST_KEPT_VERSIONS)] = new Signed(fresh, user);
      tree.grow(fresh, lines);
    }

    /** WRITERS of WORDS that stay keep them, from both ends. */
    private void inherit(String fresh, int user) {
      before.gather(whole);
      after.gather(fresh);
      int most = Math.min(before.count, after.count);
      int first = 0;
      while (first < most && before.isSameWord(first, after, first)) {
        first++;
      }
      int last = 0;
      while (first + last < most
          && before.isSameWord(before.count - 1 - last, after, after.count - 1 - last)) {
        last++;
      }
      System.arraycopy(writers, before.count - last, writers, after.count - last, last);
      Arrays.fill(writers, first, after.count - last, user);
      wordCount = after.count;
    }

    int oldest() {
      return Math.max(0, newest - MOST_KEPT_VERSIONS + 1);
    }

    boolean isKept(int version) {
      return version >= oldest() && version <= newest;
    }

    String textOf(int version) {
      Signed kept = versions[Math.floorMod(version, MOST_KEPT_VERSIONS)];
      return kept != null ? kept.said : "";
    }

    int userOf(int version) {
      Signed kept = versions[Math.floorMod(version, MOST_KEPT_VERSIONS)];
      return kept != null ? kept.user : NONE;
    }

    private int sectionFrom(int section) {
      int node = section > 0 ? tree.nthOf(SECTION, section - 1) : NONE;
      return node >= 0 && node < MOST_NODES ? tree.starts[node] : 0;
    }

    /** Where the LINES of a section end, the last one's LINE END counted. */
    private int sectionTo(int section) {
      int node = tree.nthOf(SECTION, Math.max(0, section - 1));
      if (node < 0 || node >= MOST_NODES) {
        return whole.length();
      }
      return section > 0 ? tree.ends[node] : tree.starts[node];
    }

    /** Only a section 0 can be so: a HEAD, which has a SIGN, stands where it would begin. */
    boolean isSectionWithoutLines(int section) {
      int end = sectionTo(section);
      return sectionFrom(section) == end && end < whole.length();
    }

    String sectionText(int section) {
      int from = Math.min(sectionFrom(section), whole.length());
      int to = Math.min(sectionTo(section), whole.length());
      if (to < whole.length()) {
        to--;
      }
      return to > from ? whole.substring(from, to) : "";
    }

    /** The text with other LINES for those of a section: none, if the piece is empty. */
    void spliceInto(int section, String piece, StringBuilder out) {
      int to = sectionTo(section);
      out.setLength(0);
      Names.copy(whole, 0, sectionFrom(section), out);
      out.append(piece);
      if (to < whole.length()) {
        if (!piece.isEmpty()) {
          out.append('\n');
        }
        Names.copy(whole, to, whole.length(), out);
      } else if (piece.isEmpty() && out.length() > 0) {
        // The LINE ahead is the last one now, and the last one has no LINE END.
        out.setLength(out.length() - 1);
      }
    }
  }

  // ---- joining

  /** Makes the JOIN of two texts over a third one. */
  private static final class Weaver {
    private final Lines one = new Lines();
    private final Lines other = new Lines();
    private final Lines base = new Lines();
    private boolean isBegun;

    /** Tells whether there is a JOIN: false is a QUARREL. */
    boolean weave(String x, String y, String z, StringBuilder out) {
      out.setLength(0);
      if (x.equals(z)) {
        out.append(y);
        return true;
      }
      if (y.equals(z) || y.equals(x)) {
        out.append(x);
        return true;
      }
      one.cut(x);
      other.cut(y);
      base.cut(z);
      one.compareWith(base);
      other.compareWith(base);
      if (isAheadOf(one, other)) {
        layOut(one, other, out);
      } else if (isAheadOf(other, one)) {
        layOut(other, one, out);
      } else {
        return false;
      }
      return true;
    }

    private boolean isAheadOf(Lines first, Lines second) {
      int end = base.count - first.behind;
      boolean hasBoth = first.ahead < end && second.ahead < base.count - second.behind;
      return end < second.ahead || end == second.ahead && hasBoth;
    }

    private void layOut(Lines first, Lines second, StringBuilder out) {
      isBegun = false;
      lay(base, 0, first.ahead, out);
      lay(first, first.ahead, first.count - first.behind, out);
      lay(base, base.count - first.behind, second.ahead, out);
      lay(second, second.ahead, second.count - second.behind, out);
      lay(base, base.count - second.behind, base.count, out);
    }

    private void lay(Lines lines, int from, int until, StringBuilder out) {
      for (int i = from; i < until; i++) {
        if (isBegun) {
          out.append('\n');
        }
        isBegun = true;
        Names.copy(lines.whole, lines.begin(i), lines.end(i), out);
      }
    }
  }

  // ---- links and walks

  /** Which NAME LEADS where, and which page to which. */
  private static final class Web {
    private static final int NO_REDIRECT = -2;
    // What 1 to 12 all divide: shares of a RANK stay whole.
    private static final long EVEN = 27720;

    int count;
    private int present;
    private final int[] owners = new int[NAMES];
    private final int[] leads = new int[NAMES];
    // The NAME in a page's REDIRECT: NONE if it is not one, NO_REDIRECT without a REDIRECT.
    private final int[] forwards = new int[MOST_PAGES];
    // Where a page's REDIRECT LEADS.
    private final int[] redirects = new int[MOST_PAGES];
    // The NAMES in a page's LINKS: bit n for NAME n.
    private final long[] linked = new long[MOST_PAGES];
    private final int[] tos = new int[MOST_PAGES];
    private final int[] heres = new int[MOST_PAGES];
    private final int[] distances = new int[MOST_PAGES];
    private final long[] shares = new long[MOST_PAGES];
    private final long[] sharesBefore = new long[MOST_PAGES];

    Web() {
      forget();
      findWays();
    }

    void forget() {
      count = 0;
      present = 0;
      Arrays.fill(owners, NONE);
      Arrays.fill(forwards, NO_REDIRECT);
      Arrays.fill(linked, 0L);
    }

    void addPage(int page, int name, Tree tree) {
      if (page < 0 || page >= MOST_PAGES || name < 0 || name >= NAMES) {
        return;
      }
      count++;
      present |= 1 << page;
      owners[name] = page;
      for (int i = 0; i < tree.count && i < MOST_NODES; i++) {
        if (tree.kind[i] == REDIRECT) {
          forwards[page] = tree.name[i];
        } else if (tree.kind[i] == LINK && tree.name[i] != NONE) {
          linked[page] |= 1L << tree.name[i];
        }
      }
    }

    void findWays() {
      for (int name = 0; name < NAMES; name++) {
        leads[name] = follow(name);
      }
      Arrays.fill(heres, 0);
      for (int page = 0; page < MOST_PAGES; page++) {
        redirects[page] = lead(forwards[page]);
        tos[page] = ledTo(page);
        for (int other = 0; other < MOST_PAGES; other++) {
          if ((tos[page] >> other & 1) != 0) {
            heres[other] |= 1 << page;
          }
        }
      }
    }

    private int follow(int name) {
      int at = name;
      int been = 0;
      for (int i = 0; i <= MOST_PAGES && at >= 0 && at < NAMES; i++) {
        int page = owners[at];
        if (page < 0 || page >= MOST_PAGES || (been >> page & 1) != 0) {
          return NONE;
        }
        been |= 1 << page;
        if (forwards[page] == NO_REDIRECT) {
          return page;
        }
        at = forwards[page];
      }
      return NONE;
    }

    private int ledTo(int page) {
      int set = 0;
      for (int name = 0; name < NAMES; name++) {
        boolean isNamed = (linked[page] >> name & 1) != 0 || forwards[page] == name;
        if (isNamed && leads[name] != NONE) {
          set |= 1 << leads[name];
        }
      }
      return set & ~(1 << page);
    }

    boolean isPresent(int page) {
      return page >= 0 && page < MOST_PAGES && (present >> page & 1) != 0;
    }

    int owner(int name) {
      return name >= 0 && name < NAMES ? owners[name] : NONE;
    }

    int lead(int name) {
      return name >= 0 && name < NAMES ? leads[name] : NONE;
    }

    boolean hasRedirect(int page) {
      return isPresent(page) && forwards[page] != NO_REDIRECT;
    }

    int redirectOf(int page) {
      return isPresent(page) ? redirects[page] : NONE;
    }

    /** The NAME in the REDIRECT of the page with a NAME; below 0 without one. */
    int forward(int name) {
      int page = owner(name);
      return page >= 0 && page < MOST_PAGES ? forwards[page] : NONE;
    }

    int to(int page) {
      return isPresent(page) ? tos[page] : 0;
    }

    int here(int page) {
      return isPresent(page) ? heres[page] : 0;
    }

    /** All pages that are reached from one: along the links, or along and against them. */
    int reached(int page, boolean isBothWays) {
      int set = isPresent(page) ? 1 << page : 0;
      // Each round but the last one adds a page.
      for (int round = 0; round < MOST_PAGES; round++) {
        for (int i = 0; i < MOST_PAGES; i++) {
          if ((set >> i & 1) != 0) {
            set |= isBothWays ? tos[i] | heres[i] : tos[i];
          }
        }
      }
      return set;
    }

    /** How many steps the shortest WALK has, NONE without one; each page's way is known then. */
    int measure(int from, int to) {
      if (!isPresent(from) || !isPresent(to)) {
        return NONE;
      }
      Arrays.fill(distances, NONE);
      distances[to] = 0;
      for (int steps = 1; steps < MOST_PAGES; steps++) {
        for (int i = 0; i < MOST_PAGES; i++) {
          if (distances[i] == NONE && leadsToDistance(i, steps - 1)) {
            distances[i] = steps;
          }
        }
      }
      return distances[from];
    }

    private boolean leadsToDistance(int page, int distance) {
      for (int i = 0; i < MOST_PAGES; i++) {
        if ((tos[page] >> i & 1) != 0 && distances[i] == distance) {
          return true;
        }
      }
      return false;
    }

    /** Of the pages that one LEADS TO and that are so far from the end that with the least NAME. */
    int nextOnWay(int page, int distance) {
      for (int i = 0; i < NAMES; i++) {
        int next = owners[BY_NAMES[i]];
        if (isPresent(next) && (to(page) >> next & 1) != 0 && distances[next] == distance) {
          return next;
        }
      }
      return NONE;
    }

    /** Shares out the RANKS; tells of how many the shares are, which no long is too short for. */
    long share(int steps) {
      long whole = count;
      for (int i = 0; i < MOST_PAGES; i++) {
        shares[i] = isPresent(i) ? 1 : 0;
      }
      for (int step = 0; step < steps && step < 4; step++) {
        whole *= EVEN;
        shareOnce();
      }
      return whole;
    }

    private void shareOnce() {
      System.arraycopy(shares, 0, sharesBefore, 0, MOST_PAGES);
      Arrays.fill(shares, 0L);
      for (int page = 0; page < MOST_PAGES; page++) {
        if (isPresent(page)) {
          // A DEAD END gives to all pages, itself too.
          int getting = tos[page] != 0 ? tos[page] : present;
          long each = sharesBefore[page] * (EVEN / Math.max(1, Integer.bitCount(getting)));
          for (int other = 0; other < MOST_PAGES; other++) {
            if ((getting >> other & 1) != 0) {
              shares[other] += each;
            }
          }
        }
      }
    }

    long shareOf(int page) {
      return isPresent(page) ? shares[page] : 0;
    }

    static long commonDivisor(long one, long other) {
      long greater = one;
      long lesser = other;
      // A long has no more steps than some ninety.
      for (int i = 0; i < 200 && lesser != 0; i++) {
        long rest = greater % lesser;
        greater = lesser;
        lesser = rest;
      }
      return greater;
    }
  }

  // ---- shown

  /** Shows pages, and remembers which questions that asked. */
  private static final class Viewer {
    static final int NOT_ASKED = -2;
    private static final int DEEPEST = 3;
    private static final int MOST_PARTS = 12;
    private static final int MANY = 1000000;

    final StringBuilder out = new StringBuilder();
    // For each NAME that was asked for where it LED, otherwise NOT_ASKED.
    final int[] asked = new int[NAMES];
    // The page that is SHOWN, and those that were put in.
    int inside;
    private final Page[] pages;
    private final Web web;
    private final StringBuilder notes = new StringBuilder();
    private int noteCount;
    private int partCount;
    private int style;
    private int level;
    private final int[] path = new int[3];
    // By how many PARTS one is in: the page, the PART by which one came, and how far one is.
    private final int[] pageAt = new int[DEEPEST + 1];
    private final int[] partAt = new int[DEEPEST + 1];
    private final int[] nodeAt = new int[DEEPEST + 1];
    private final int[] linesAt = new int[DEEPEST + 1];
    private final int[] cellsAt = new int[DEEPEST + 1];

    Viewer(Page[] pages, Web web) {
      this.pages = pages;
      this.web = web;
    }

    /** HEAD by HEAD its PATH and its BODY as it is WRITTEN. */
    String headsOf(Tree tree) {
      out.setLength(0);
      Arrays.fill(path, 0);
      for (int i = 0; i < tree.count && i < MOST_NODES; i++) {
        if (tree.kind[i] == HEAD) {
          showPath(tree.mark[i]);
          Names.copy(tree.whole, tree.starts[i] + tree.mark[i], tree.lineEnd(i), out);
          out.append('\n');
        }
      }
      return out.toString();
    }

    /** Makes what SHOWS a page, in out. */
    void make(int page) {
      out.setLength(0);
      notes.setLength(0);
      noteCount = 0;
      partCount = 0;
      inside = 0;
      Arrays.fill(asked, NOT_ASKED);
      Arrays.fill(path, 0);
      enter(page, 0, 0);
      Tree tree = treeAt(0);
      for (int i = 0; i < tree.count && i < MOST_NODES; i++) {
        if (tree.kind[i] >= HEAD && tree.kind[i] <= PLAIN) {
          showMarks(tree, i);
          showBody(i);
          if (style != 0) {
            out.append("<0>");
          }
          out.append('\n');
        }
      }
      for (int i = 0; i < notes.length(); i++) {
        out.append(notes.charAt(i));
      }
    }

    /** Comes to a page that stands in so many PARTS, the last of them that NODE. */
    private void enter(int page, int newLevel, int part) {
      if (page >= 0 && page < MOST_PAGES && newLevel >= 0 && newLevel <= DEEPEST) {
        level = newLevel;
        inside |= 1 << page;
        pageAt[level] = page;
        partAt[level] = part;
        nodeAt[level] = 0;
        linesAt[level] = 0;
      }
    }

    private void showMarks(Tree tree, int line) {
      int kind = tree.kindAt(line);
      if (kind == HEAD) {
        showPath(tree.mark[line]);
      } else if (kind == ITEM) {
        for (int i = 0; i < tree.mark[line]; i++) {
          out.append('-');
        }
        out.append(' ');
      } else if (kind == QUOTE) {
        out.append("> ");
      } else if (kind == REDIRECT) {
        Names.copy(tree.whole, tree.starts[line], tree.mark[line], out);
      }
    }

    /** Counts a HEAD, and shows its PATH and a blank. */
    private void showPath(int headLevel) {
      for (int i = 0; i < path.length; i++) {
        if (i + 1 == headLevel) {
          path[i]++;
        } else if (i + 1 > headLevel) {
          path[i] = 0;
        }
        if (i + 1 <= headLevel) {
          if (i > 0) {
            out.append('.');
          }
          out.append(path[i]);
        }
      }
      out.append(' ');
    }

    /** Shows what is in a LINE; whenever a PART is put in, its page is gone through first. */
    private void showBody(int line) {
      style = 0;
      level = 0;
      nodeAt[0] = line + 1;
      cellsAt[0] = 0;
      for (int step = 0; step < MANY && level >= 0 && level <= DEEPEST; step++) {
        Tree tree = treeAt(level);
        int node = nodeAt[level];
        int kind = tree.kindAt(node);
        nodeAt[level]++;
        if (kind == NONE || level == 0 && kind < CELL) {
          level--;
        } else if (kind < TEXT) {
          showBetween(kind);
        } else {
          boolean isAsking = kind == LINK || kind == PART;
          showNode(tree, node, isAsking ? ask(tree.name[node]) : NONE);
        }
      }
    }

    private Tree treeAt(int depth) {
      int page = depth >= 0 && depth <= DEEPEST ? pageAt[depth] : 0;
      return pages[page >= 0 && page < MOST_PAGES ? page : 0].tree;
    }

    /** What stands ahead of a CELL, or ahead of a LINE that is put in. */
    private void showBetween(int kind) {
      if (kind == CELL) {
        if (cellsAt[level] > 0) {
          out.append(" | ");
        }
        cellsAt[level]++;
      } else if (kind >= HEAD && kind != REDIRECT && kind != EMPTY) {
        if (linesAt[level] > 0) {
          out.append(' ');
        }
        linesAt[level]++;
        cellsAt[level] = 0;
      }
    }

    private void showNode(Tree tree, int node, int page) {
      switch (tree.kindAt(node)) {
        case TEXT:
          Names.copy(tree.whole, tree.starts[node], tree.ends[node], out);
          break;
        case BOLD:
          showStyle(1);
          break;
        case ITALIC:
          showStyle(2);
          break;
        case CODE:
          Names.copy(tree.whole, tree.starts[node] + 1, tree.ends[node] - 1, out);
          break;
        case LINK:
          showLink(tree, node, page);
          break;
        case PART:
          showPart(node, page);
          break;
        case PLACE:
          showPlace(tree, node);
          break;
        case NOTE:
          showNote(tree, node);
          break;
        default:
          break;
      }
    }

    private void showStyle(int turned) {
      if (level == 0) {
        style ^= turned;
        out.append('<');
        out.append(style);
        out.append('>');
      }
    }

    private void showLink(Tree tree, int node, int page) {
      int naming = tree.mark[node];
      int end = tree.ends[node] - 1;
      Names.copy(tree.whole, naming < end ? naming + 1 : tree.starts[node] + 1, end, out);
      if (page == NONE) {
        out.append('?');
      }
    }

    private void showPart(int node, int page) {
      if (page == NONE) {
        out.append('?');
      } else if (level >= DEEPEST || partCount >= MOST_PARTS || isOnWay(page)) {
        out.append('!');
      } else {
        partCount++;
        enter(page, level + 1, node);
      }
    }

    private boolean isOnWay(int page) {
      for (int i = 0; i <= level && i <= DEEPEST; i++) {
        if (pageAt[i] == page) {
          return true;
        }
      }
      return false;
    }

    private void showPlace(Tree tree, int node) {
      Tree host = treeAt(level - 1);
      int part = level > 0 && level <= DEEPEST ? partAt[level] : NONE;
      int begin = host.argument(part, tree.digit(node));
      if (begin != NONE && part >= 0 && part < MOST_NODES) {
        Names.copy(host.whole, begin, host.barOrEnd(begin, host.ends[part] - 1), out);
      } else {
        Names.copy(tree.whole, tree.mark[node] + 1, tree.ends[node] - 1, out);
      }
    }

    private void showNote(Tree tree, int node) {
      noteCount++;
      out.append('^');
      out.append(noteCount);
      notes.append('^');
      notes.append(noteCount);
      notes.append(": ");
      Names.copy(tree.whole, tree.starts[node] + 1, tree.ends[node] - 1, notes);
      notes.append('\n');
    }

    /** Where a NAME LEADS; it is asked, and the NAMES in all REDIRECTS on the way with it. */
    private int ask(int name) {
      int at = name;
      for (int i = 0; i <= MOST_PAGES && at >= 0 && at < NAMES; i++) {
        asked[at] = web.lead(at);
        at = web.forward(at);
      }
      return web.lead(name);
    }
  }

  // ---- kept

  /** A page as it was SHOWN. */
  private static final class Kept {
    int page;
    int inside;
    String answer = "";
    final int[] asked = new int[NAMES];
  }

  /** The pages that are KEPT, that which was SHOWN least lately first. */
  private static final class Shelf {
    private static final int MOST_KEPT = 4;

    int count;
    private final Kept[] rows = new Kept[MOST_KEPT];

    Shelf() {
      for (int i = 0; i < MOST_KEPT; i++) {
        rows[i] = new Kept();
      }
    }

    int pageAt(int nth) {
      return nth >= 0 && nth < count && nth < MOST_KEPT ? rows[nth].page : NONE;
    }

    String answerAt(int nth) {
      return nth >= 0 && nth < count && nth < MOST_KEPT ? rows[nth].answer : "";
    }

    int place(int page) {
      for (int i = 0; i < count && i < MOST_KEPT; i++) {
        if (rows[i].page == page) {
          return i;
        }
      }
      return NONE;
    }

    /** Tells whether a page is KEPT; it is SHOWN last now. */
    boolean fetch(int page) {
      int place = place(page);
      moveToEnd(place);
      return place != NONE;
    }

    void keep(int page, Viewer viewer, String answer) {
      if (count >= MOST_KEPT) {
        drop(0);
      }
      if (count >= 0 && count < MOST_KEPT) {
        Kept row = rows[count];
        row.page = page;
        row.inside = viewer.inside;
        row.answer = answer;
        System.arraycopy(viewer.asked, 0, row.asked, 0, NAMES);
        count++;
      }
    }

    void clear() {
      count = 0;
    }

    void dropPage(int page) {
      int place = place(page);
      if (place != NONE) {
        drop(place);
      }
    }

    /** Drops all in which a page is. */
    void dropWithInside(int page) {
      for (int i = count - 1; i >= 0 && i < MOST_KEPT; i--) {
        if ((rows[i].inside >> page & 1) != 0) {
          drop(i);
        }
      }
    }

    /** Drops all that asked for a NAME which LEADS elsewhere now. */
    void dropAnsweredOtherwise(Web web) {
      for (int i = count - 1; i >= 0 && i < MOST_KEPT; i--) {
        boolean isOtherwise = false;
        for (int name = 0; name < NAMES; name++) {
          int told = rows[i].asked[name];
          if (told != Viewer.NOT_ASKED && told != web.lead(name)) {
            isOtherwise = true;
          }
        }
        if (isOtherwise) {
          drop(i);
        }
      }
    }

    private void drop(int place) {
      moveToEnd(place);
      count--;
    }

    private void moveToEnd(int place) {
      if (place >= 0 && place < count && count <= MOST_KEPT) {
        Kept moved = rows[place];
        for (int i = place; i + 1 < count; i++) {
          rows[i] = rows[i + 1];
        }
        rows[count - 1] = moved;
      }
    }
  }
}

/** Promises 45 to 50: the garden as a whole. */
public final class AllTest {
  public static void main(String[] args) {
    exports();
    reloads();
    countsInGarden();
    knocks();
    isSound();
    digests();
    Check.end("AllTest");
  }

  private static void exports() {
    Pagegarden g = new Pagegarden();
    Gardens.plant(g, 1, "ab\n\n");
    Gardens.plant(g, 39, "");
    Gardens.plant(g, 0, "@ab");
    Check.due("exported", "%a/b/jig 1\n\n%ab 1\n@ab\n%ba 3\nab\n\n\n", g::exported);
    g.uproot(0);
    Check.due("exported", "%a/b/jig 1\n\n%ab 1\n@ab\n", g::exported);
  }

  private static void reloads() {
    Pagegarden g = new Pagegarden();
    Check.due("reload nothing", 0, g::reload);
    g.login(1);
    Gardens.plant(g, 5, "[ab]fig");
    Gardens.plant(g, 1, "{fig}");
    Gardens.plant(g, 0, "ab");
    Gardens.plant(g, 10, "");
    g.uproot(0);
    Gardens.write(g, 1, "{ab}");
    Gardens.write(g, 1, "{ab}cad");
    g.watch(2, 1, true);
    g.talk(1);
    g.allowPage(1, 1, 1);
    g.allowPage(3, 2, 0);
    g.allow(3, 0, 1);
    g.write(1);
    g.knock();
    g.shown(1);
    g.shown(1);
    g.login(3);
    Gardens.draft(g, "jig");
    String export = g.exported();
    Check.due("reload", 3, g::reload);
    Check.due("the same is told", export, g::exported);
    int[] names = {10, 0, 1};
    for (int i = 0; i < 3; i++) {
      int page = i;
      Check.due("name of " + i, names[i], () -> g.ofPage(page, 0));
      Check.due("newest of " + i, 0, () -> g.ofPage(page, 3));
      Check.due("by the user", 3, () -> g.versionOf(page, 0, 0));
    }
    Check.due("text", "{ab}cad", () -> g.text(2, 0));
    Check.due("the words are the user's", 3, () -> g.writer(2, 1));
    Check.due("the draft stays", "jig", g::draft);
    int[] garden = {3, 3, 1, 1, 1, 1, 3, 3, 1};
    for (int what = 0; what <= 8; what++) {
      int asked = what;
      Check.due("garden(" + what + ")", garden[what], () -> g.garden(asked));
    }
    Check.due("none is kept", 0, () -> g.all(5));
    Check.due("rights by prefix stay", 1, () -> g.right(3, 0));
    Check.due("no rights of pages", 2, () -> g.right(1, 2));
    Check.due("nobody watches", 0, () -> g.watch(2, 2, true));
    Check.due("no remarks", 0, () -> g.ofPage(2, 15));
    Check.due("sound", true, g::isSound);
    Check.due("reload again", 3, g::reload);
  }

  private static void countsInGarden() {
    Pagegarden g = new Pagegarden();
    Gardens.plant(g, 0, "");
    Gardens.plant(g, 1, "");
    Gardens.write(g, 0, "ab");
    g.allow(1, 2, 0);
    g.allowPage(1, 1, 2);
    g.allowPage(2, 1, 1);
    g.login(2);
    g.write(1);
    g.see(0, 0);
    g.merge(0, 1);
    g.knock();
    g.shown(0);
    g.shown(0);
    g.shown(1);
    g.shown(0);
    Gardens.draft(g, "jig\n");
    int[] due = {2, 2, 3, 1, 2, 2, 4, 3, 3};
    for (int what = 0; what <= 8; what++) {
      int asked = what;
      Check.due("garden(" + what + ")", due[what], () -> g.garden(asked));
    }
    g.uproot(0);
    Check.due("shown ever", 2, () -> g.garden(4));
    Check.due("versions", 1, () -> g.garden(7));
    Check.noArgument("garden(9)", g, () -> g.garden(9));
    Check.noArgument("garden(-1)", g, () -> g.garden(-1));
  }

  private static void knocks() {
    Pagegarden g = new Pagegarden();
    Check.due("knock", 1, g::knock);
    Check.due("knock", 2, g::knock);
    Check.due("knocks", 2, () -> g.garden(3));
    g.reload();
    Check.due("knock", 3, g::knock);
  }

  private static void isSound() {
    Pagegarden g = new Pagegarden();
    Check.due("an empty garden", true, g::isSound);
    String[] texts = {
      "", "\n", "@ba", "@ab\n=a\n\n", "*a\n**b\n\n|c||", "{ab}{ba|'}(a)`b`#c'", "[ab][cad|]_",
      "====\n****\n>>", "@", "=a\n===b\n*c\n==d"
    };
    for (int i = 0; i < texts.length; i++) {
      Gardens.plant(g, i, texts[i]);
      g.shown(i);
      Check.due("sound with " + texts[i], true, g::isSound);
    }
    for (int i = 0; i < texts.length; i++) {
      Gardens.write(g, i, texts[texts.length - 1 - i]);
      Check.due("sound when written", true, g::isSound);
      g.shown(i);
    }
    int anew = g.garden(4);
    g.isSound();
    Check.due("nothing counts as shown", anew, () -> g.garden(4));
    g.rename(3, 30);
    g.merge(1, 2);
    Check.due("sound when renamed and merged", true, g::isSound);
  }

  private static void digests() {
    Pagegarden g = new Pagegarden();
    Gardens.plant(g, 20, "ab");
    Gardens.plant(g, 10, "[b/ab]");
    long due = 5803;
    int[] told = {2, 0, 0, 0, 0, 0, 0, 2, 0, 3, 2, 1, 0, 0, 0};
    for (int v : told) {
      due = due * 31 + v;
    }
    int[] second = {1, 10, 6, 1, 0, 0, 1, 0, 3, 0, 2, -1, 0, 1, 0, 0, 0};
    due = step(due, second);
    due = step(due, "[b/ab]");
    due = step(due, new int[] {0, 8, 14, 1, 0, 3, 3, 0, 0});
    due = step(due, "b/ab\n");
    int[] first = {0, 20, 2, 1, 0, 0, 0, 0, 3, 0, 1, -1, 1, 0, 1, 0, 0};
    due = step(due, first);
    due = step(due, "ab");
    due = step(due, new int[] {0, 8, 10, 0, 2, 3, 1, 0});
    due = step(due, "ab\n");
    due = due * 31 + 1;
    long digest = due;
    Check.due("digest", digest, g::digest);
    Check.due("digest again", digest, g::digest);
    g.knock();
    Check.due("another one", false, () -> g.digest() == digest);
  }

  private static long step(long begun, int[] values) {
    long d = begun;
    for (int v : values) {
      d = d * 31 + v;
    }
    return d;
  }

  private static long step(long begun, String text) {
    long d = begun * 31 + text.length();
    for (char sign : text.toCharArray()) {
      d = d * 31 + sign;
    }
    return d;
  }
}

/** Promises 40 to 44: who watches, and remarks. */
public final class WatchTest {
  public static void main(String[] args) {
    watches();
    sees();
    countsAllVersions();
    talks();
    wrongInputs();
    Check.end("WatchTest");
  }

  private static void watches() {
    Pagegarden g = new Pagegarden();
    Gardens.plant(g, 0, "");
    Gardens.write(g, 0, "ab");
    Check.due("watch", 0, () -> g.watch(1, 0, true));
    Check.due("all of it is seen", 0, () -> g.unseen(1));
    Gardens.write(g, 0, "ba");
    Check.due("one is not", 1, () -> g.unseen(1));
    Check.due("another user does not watch", 0, () -> g.unseen(2));
    Check.due("watch on", 1, () -> g.watch(1, 0, true));
    Check.due("what was seen is seen", 1, () -> g.unseen(1));
    Check.due("watch no more", 1, () -> g.watch(1, 0, false));
    Check.due("none that is watched", 0, () -> g.unseen(1));
    Check.due("nor then", 0, () -> g.watch(1, 0, false));
    Check.due("watch from now on", 0, () -> g.watch(1, 0, true));
    Check.due("all of it is seen", 0, () -> g.unseen(1));
  }

  private static void sees() {
    Pagegarden g = new Pagegarden();
    Gardens.plant(g, 0, "");
    Gardens.plant(g, 1, "");
    Check.refused("see without watching", g, () -> g.see(3, 0));
    g.watch(3, 0, true);
    g.watch(3, 1, true);
    g.login(3);
    Gardens.write(g, 0, "ab");
    Gardens.write(g, 0, "ba");
    Gardens.write(g, 0, "ba");
    Gardens.write(g, 1, "ba");
    Check.due("unseen of all pages", 3, () -> g.unseen(3));
    Check.due("see", 2, () -> g.see(3, 0));
    Check.due("see again", 0, () -> g.see(3, 0));
    Check.due("unseen of the other one", 1, () -> g.unseen(3));
    g.rename(0, 5);
    Check.due("a new name is no version", 1, () -> g.unseen(3));
    g.uproot(1);
    Check.due("a page that went is not counted", 0, () -> g.unseen(3));
    Check.refused("see when no other one watches", g, () -> g.see(2, 0));
    g.watch(3, 0, false);
    Check.refused("see no more", g, () -> g.see(3, 0));
    g.watch(3, 0, true);
    g.reload();
    Check.refused("nobody watches what is reloaded", g, () -> g.see(3, 0));
  }

  private static void countsAllVersions() {
    Pagegarden g = new Pagegarden();
    Gardens.plant(g, 0, "");
    g.watch(0, 0, true);
    for (int i = 1; i <= 30; i++) {
      Gardens.write(g, 0, Gardens.name(i));
    }
    Check.due("those that are kept no more, too", 30, () -> g.unseen(0));
    Check.due("see all", 30, () -> g.see(0, 0));
  }

  private static void talks() {
    Pagegarden g = new Pagegarden();
    Gardens.plant(g, 0, "");
    Gardens.plant(g, 1, "");
    Gardens.draft(g, "ab\n[ba]");
    g.login(4);
    Check.due("talk", 1, () -> g.talk(0));
    Check.due("draft is empty", "", g::draft);
    Check.due("remark", "4:ab\n[ba]", () -> g.remark(0, 0));
    g.allowPage(0, 0, 0);
    g.login(0);
    Check.due("talk of nothing, without right", 2, () -> g.talk(0));
    Check.due("remark of nothing", "0:", () -> g.remark(0, 1));
    Check.due("no remark changes the text", 0, () -> g.ofPage(0, 3));
    for (int i = 2; i < 6; i++) {
      int many = i + 1;
      g.login(i - 2);
      Gardens.draft(g, "a".repeat(i));
      Check.due("talk on", many, () -> g.talk(0));
    }
    Gardens.draft(g, "jig");
    Check.noState("a seventh remark", g, () -> g.talk(0));
    Check.noIndex("talk of no page", g, () -> g.talk(2));
    Check.due("remarks", 6, () -> g.ofPage(0, 15));
    Check.due("the last remark", "3:aaaaa", () -> g.remark(0, 5));
    Check.due("another page has none", 0, () -> g.ofPage(1, 15));
    Check.due("talk of it", 1, () -> g.talk(1));
    g.rename(1, 3);
    Check.due("remarks go with it", "3:jig", () -> g.remark(1, 0));
    Check.noArgument("remark 6", g, () -> g.remark(0, 6));
    g.reload();
    Check.due("no remarks then", 0, () -> g.ofPage(0, 15));
    Check.noArgument("no remark then", g, () -> g.remark(0, 0));
  }

  private static void wrongInputs() {
    Pagegarden g = new Pagegarden();
    Gardens.plant(g, 0, "");
    g.talk(0);
    Check.noIndex("watch no page first", g, () -> g.watch(5, 1, true));
    Check.noIndex("watch page -1", g, () -> g.watch(0, -1, true));
    Check.noArgument("watch by user 5", g, () -> g.watch(5, 0, true));
    Check.noArgument("watch by user -1", g, () -> g.watch(-1, 0, false));
    Check.noIndex("see no page first", g, () -> g.see(5, 1));
    Check.noArgument("see by user 5", g, () -> g.see(5, 0));
    Check.noArgument("see by user -1", g, () -> g.see(-1, 0));
    Check.noArgument("unseen of user 5", g, () -> g.unseen(5));
    Check.noArgument("unseen of user -1", g, () -> g.unseen(-1));
    Check.noIndex("talk of page -1", g, () -> g.talk(-1));
    Check.noIndex("remark of no page", g, () -> g.remark(1, 9));
    Check.noArgument("remark 1", g, () -> g.remark(0, 1));
    Check.noArgument("remark -1", g, () -> g.remark(0, -1));
  }
}

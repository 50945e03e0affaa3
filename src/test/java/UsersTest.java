/** Promises 7 to 10: who the user is, and who may change what. */
public final class UsersTest {
  public static void main(String[] args) {
    logsIn();
    allowsByPrefix();
    longestPrefixTells();
    allowsByPage();
    pageRightGoesWithThePage();
    onlyTwoMayChange();
    wrongInputs();
    Check.end("UsersTest");
  }

  private static void logsIn() {
    Pagegarden g = new Pagegarden();
    Check.due("login(4)", 0, () -> g.login(4));
    Check.due("login(4) again", 4, () -> g.login(4));
    Check.due("garden(1)", 4, () -> g.garden(1));
    Check.due("login(0)", 4, () -> g.login(0));
    Check.noArgument("login(5)", g, () -> g.login(5));
    Check.noArgument("login(-1)", g, () -> g.login(-1));
  }

  private static void allowsByPrefix() {
    Pagegarden g = new Pagegarden();
    Gardens.plant(g, 0, "");
    Check.due("right untold", 2, () -> g.right(1, 0));
    Check.due("allow", -1, () -> g.allow(1, 0, 0));
    Check.due("allow another one", 0, () -> g.allow(1, 0, 1));
    Check.due("told for the empty prefix", 1, () -> g.right(1, 0));
    Check.due("not told for another user", 2, () -> g.right(2, 0));
    Check.due("pairs", 1, () -> g.garden(8));
    Check.due("allow none", 1, () -> g.allow(1, 0, -1));
    Check.due("right untold again", 2, () -> g.right(1, 0));
    Check.due("allow none again", -1, () -> g.allow(1, 0, -1));
    Check.due("no pairs", 0, () -> g.garden(8));
  }

  private static void longestPrefixTells() {
    Pagegarden g = new Pagegarden();
    int[] names = {0, 10, 20, 30};
    for (int name : names) {
      Gardens.plant(g, name, "");
    }
    g.allow(3, 0, 0);
    rights(g, 0, 0, 0, 0);
    g.allow(3, 1, 1);
    rights(g, 0, 1, 0, 1);
    // "a/b/" does not begin with "b/".
    g.allow(3, 2, 2);
    rights(g, 0, 1, 2, 1);
    g.allow(3, 3, 0);
    rights(g, 0, 1, 2, 0);
    g.allow(3, 1, -1);
    g.allow(3, 3, -1);
    rights(g, 0, 0, 2, 0);
    g.allow(3, 0, -1);
    rights(g, 2, 2, 2, 2);
    Check.due("pairs left", 1, () -> g.garden(8));
  }

  private static void rights(Pagegarden g, int... due) {
    for (int i = 0; i < due.length; i++) {
      int page = i;
      Check.due("right(3, " + i + ")", due[i], () -> g.right(3, page));
    }
  }

  private static void allowsByPage() {
    Pagegarden g = new Pagegarden();
    Gardens.plant(g, 30, "");
    g.allow(2, 3, 2);
    g.allow(2, 1, 2);
    Check.due("allowPage", -1, () -> g.allowPage(2, 0, 0));
    Check.due("the page goes ahead of prefixes", 0, () -> g.right(2, 0));
    Check.due("allowPage again", 0, () -> g.allowPage(2, 0, 1));
    Check.due("pairs", 3, () -> g.garden(8));
    Check.due("allowPage none", 1, () -> g.allowPage(2, 0, -1));
    Check.due("by prefix again", 2, () -> g.right(2, 0));
    Check.due("pairs", 2, () -> g.garden(8));
  }

  private static void pageRightGoesWithThePage() {
    Pagegarden g = new Pagegarden();
    Gardens.plant(g, 0, "");
    g.allowPage(1, 0, 1);
    g.rename(0, 30);
    Check.due("right by the page's new name", 1, () -> g.right(1, 0));
    g.allowPage(1, 0, -1);
    g.allow(1, 3, 0);
    Check.due("right by the new name's prefix", 0, () -> g.right(1, 0));
    g.allowPage(1, 0, 1);
    g.uproot(0);
    Check.due("the right went with the page", 1, () -> g.garden(8));
    Gardens.plant(g, 0, "");
    Check.due("a new page has no right of the old one", 2, () -> g.right(1, 0));
  }

  private static void onlyTwoMayChange() {
    Pagegarden g = new Pagegarden();
    Gardens.plant(g, 0, "ab");
    for (int right = 0; right < 2; right++) {
      g.allowPage(0, 0, right);
      Check.refused("write with right " + right, g, () -> g.write(0));
    }
    g.allowPage(0, 0, 2);
    Gardens.draft(g, "ba");
    Check.due("write with right 2", 1, () -> g.write(0));
    g.allowPage(0, 0, -1);
    g.allow(0, 0, 1);
    Check.refused("write with right 1 by prefix", g, () -> g.write(0));
    g.login(1);
    Gardens.draft(g, "cad");
    Check.due("another user may", 2, () -> g.write(0));
  }

  private static void wrongInputs() {
    Pagegarden g = new Pagegarden();
    Gardens.plant(g, 0, "");
    int[][] wrong = {{-1, 0, 0}, {5, 0, 0}, {0, -1, 0}, {0, 4, 0}, {0, 0, -2}, {0, 0, 3}};
    for (int[] w : wrong) {
      Check.noArgument("allow wrong", g, () -> g.allow(w[0], w[1], w[2]));
    }
    Check.noArgument("allowPage user", g, () -> g.allowPage(5, 0, 0));
    Check.noArgument("allowPage user", g, () -> g.allowPage(-1, 0, 0));
    Check.noArgument("allowPage right", g, () -> g.allowPage(0, 0, 3));
    Check.noArgument("allowPage right", g, () -> g.allowPage(0, 0, -2));
    Check.noIndex("allowPage page first", g, () -> g.allowPage(5, 1, 3));
    Check.noIndex("allowPage page", g, () -> g.allowPage(0, -1, 0));
    Check.noIndex("right page first", g, () -> g.right(5, 1));
    Check.noIndex("right page", g, () -> g.right(0, 12));
    Check.noArgument("right user", g, () -> g.right(5, 0));
    Check.noArgument("right user", g, () -> g.right(-1, 0));
  }
}

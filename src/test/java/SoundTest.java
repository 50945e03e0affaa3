import java.lang.reflect.Array;
import java.lang.reflect.Field;

/** Promise 49, from the other side: a garden whose inside is broken is not sound. */
public final class SoundTest {
  private interface Break {
    void breakIt(Pagegarden garden, Object page) throws Exception;
  }

  public static void main(String[] args) {
    breaks("nothing", true, (g, page) -> { });
    breaks("a node's kind", false, (g, page) -> Array.setInt(get(get(page, "tree"), "kind"), 1, 8));
    breaks("a node's end", false, (g, page) -> Array.setInt(get(get(page, "tree"), "ends"), 4, 2));
    breaks("the page's begin", false,
        (g, page) -> Array.setInt(get(get(page, "tree"), "starts"), 0, 1));
    breaks("the page's end", false,
        (g, page) -> Array.setInt(get(get(page, "tree"), "ends"), 0, 1));
    breaks("a node's end, of a page that is not kept", false, (g, page) ->
        Array.setInt(get(get(Array.get(get(g, "pages"), 1), "tree"), "ends"), 2, 3));
    breaks("a node's begin, of a page that is not kept", false, (g, page) ->
        Array.setInt(get(get(Array.get(get(g, "pages"), 1), "tree"), "starts"), 2, 1));
    breaks("a level", false, (g, page) -> Array.setInt(get(get(page, "tree"), "mark"), 2, 2));
    breaks("the text", false, (g, page) -> set(page, "whole", "=ab[ba]\n*[ba]"));
    breaks("the newest version", false,
        (g, page) -> set(Array.get(get(page, "versions"), 1), "said", "ab"));
    breaks("an older version", true,
        (g, page) -> set(Array.get(get(page, "versions"), 0), "said", "ab"));
    breaks("how many writers", false, (g, page) -> set(page, "wordCount", 2));
    breaks("what is kept", false,
        (g, page) -> set(Array.get(get(get(g, "shelf"), "rows"), 0), "answer", "ab"));
    breaks("the first sign of what is kept", false, (g, page) ->
        set(Array.get(get(get(g, "shelf"), "rows"), 0), "answer", "2 abba\n- ba\n"));
    breaks("the end of what is kept", false, (g, page) ->
        set(Array.get(get(get(g, "shelf"), "rows"), 0), "answer", "1 abba\n"));
    breaks("what is kept, and more", false, (g, page) ->
        set(Array.get(get(get(g, "shelf"), "rows"), 0), "answer", "1 abba\n- ba\n\n"));
    breaks("what is kept, but nothing of it", true, (g, page) ->
        set(Array.get(get(get(g, "shelf"), "rows"), 0), "answer", "1 abba\n- ba\n"));
    breaks("who is at the first page", false,
        (g, page) -> Array.setInt(get(get(g, "web"), "heres"), 0, 0));
    breaks("who is here", false, (g, page) -> Array.setInt(get(get(g, "web"), "heres"), 1, 0));
    breaks("where a page leads", false, (g, page) -> Array.setInt(get(get(g, "web"), "tos"), 0, 8));
    breaks("who has a name", false, (g, page) -> {
      Array.setInt(get(get(g, "web"), "owners"), 0, 1);
      Array.setInt(get(get(g, "web"), "owners"), 1, -1);
    });
    tellsInTheChecksum();
    Check.end("SoundTest");
  }

  private static void breaks(String what, boolean due, Break how) {
    Pagegarden g = new Pagegarden();
    Gardens.plant(g, 0, "ab");
    Gardens.write(g, 0, "=ab[ba]\n*ba");
    Gardens.plant(g, 1, "[ab]");
    g.shown(0);
    Check.due("sound before", true, g::isSound);
    try {
      how.breakIt(g, Array.get(get(g, "pages"), 0));
    } catch (Exception e) {
      throw new IllegalStateException(e);
    }
    Check.due("sound with another one of: " + what, due, g::isSound);
  }

  /** The last number of the checksum is 0 then, and no other one is another one. */
  private static void tellsInTheChecksum() {
    Pagegarden g = new Pagegarden();
    Gardens.plant(g, 0, "ab");
    long sound = g.digest();
    try {
      Object page = Array.get(get(g, "pages"), 0);
      set(Array.get(get(page, "versions"), 0), "said", "ba");
    } catch (Exception e) {
      throw new IllegalStateException(e);
    }
    Check.due("not sound", false, g::isSound);
    Check.due("the checksum of what is not sound", sound - 1, g::digest);
  }

  private static Object get(Object of, String field) throws Exception {
    return open(of, field).get(of);
  }

  private static void set(Object of, String field, Object value) throws Exception {
    open(of, field).set(of, value);
  }

  private static Field open(Object of, String field) throws Exception {
    Field opened = of.getClass().getDeclaredField(field);
    opened.setAccessible(true);
    return opened;
  }
}

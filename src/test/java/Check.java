/** Compares answers with those that are due, and ends a test. */
final class Check {
  // How many signs of a long text are shown on each side of where it is another one.
  private static final int SHOWN = 150;

  private static int wrong = 0;
  private static int many = 0;

  private Check() {}

  interface Call {
    Object answer();
  }

  /** The calls that make a garden what it is; the same ones make its twin. */
  interface Past {
    void of(Pagegarden garden);
  }

  /** A call of a garden. */
  interface Asked {
    Object of(Pagegarden garden);
  }

  /** What a call answers, or "throws." and the exception's name. */
  static Object answerOf(Call call) {
    try {
      return call.answer();
    } catch (RuntimeException e) {
      return "throws." + e.getClass().getSimpleName();
    }
  }

  static void due(String what, Object want, Call call) {
    Object got = answerOf(call);
    many++;
    if (!want.equals(got)) {
      wrong++;
      int from = Math.max(0, firstDifference(got.toString(), want.toString()) - SHOWN);
      System.out.println(
          what + " answered " + quoted(got, from) + ", due is " + quoted(want, from));
    }
  }

  private static int firstDifference(String one, String other) {
    int at = 0;
    while (at < one.length() && at < other.length() && one.charAt(at) == other.charAt(at)) {
      at++;
    }
    return at;
  }

  /** The call throws the exception, and the garden is afterwards as it was before. */
  static void refusedBy(String what, String exception, Pagegarden garden, Call call) {
    long before = garden.digest();
    String draft = garden.draft();
    due(what, "throws." + exception, call);
    due(what + " changed nothing", before, garden::digest);
    due(what + " left the draft", draft, garden::draft);
  }

  static void noIndex(String what, Pagegarden garden, Call call) {
    refusedBy(what, "IndexOutOfBoundsException", garden, call);
  }

  static void noArgument(String what, Pagegarden garden, Call call) {
    refusedBy(what, "IllegalArgumentException", garden, call);
  }

  static void noState(String what, Pagegarden garden, Call call) {
    refusedBy(what, "IllegalStateException", garden, call);
  }

  /** The call tells REFUSED; the refusals are counted, and all else is as it was. */
  static void refused(String what, Pagegarden garden, Call call) {
    int before = garden.garden(2);
    String all = Gardens.told(garden);
    due(what, -9, call);
    due(what + " is counted", before + 1, () -> garden.garden(2));
    due(what + " changed nothing else", all, () -> Gardens.told(garden));
  }

  static Pagegarden made(Past past) {
    Pagegarden garden = new Pagegarden();
    past.of(garden);
    return garden;
  }

  /** On a garden with that past the call answers that. */
  static void due(String what, Object want, Past past, Asked call) {
    Pagegarden garden = made(past);
    due(what, want, () -> call.of(garden));
  }

  /** The call throws the exception, and the garden is as its twin, of which nothing was asked. */
  static void thrown(String what, String exception, Past past, Asked call) {
    Pagegarden garden = made(past);
    due(what, "throws." + exception, () -> call.of(garden));
    Pagegarden twin = made(past);
    due(what + ": the checksum stays", twin.digest(), garden::digest);
    due(what + ": all stays", Gardens.everything(twin), () -> Gardens.everything(garden));
  }

  static void noIndex(String what, Past past, Asked call) {
    thrown(what, "IndexOutOfBoundsException", past, call);
  }

  static void noArgument(String what, Past past, Asked call) {
    thrown(what, "IllegalArgumentException", past, call);
  }

  static void noState(String what, Past past, Asked call) {
    thrown(what, "IllegalStateException", past, call);
  }

  /** The call tells REFUSED: that is counted, and all else is as in the garden's twin. */
  static void refused(String what, Past past, Asked call) {
    Pagegarden garden = made(past);
    due(what, -9, () -> call.of(garden));
    Pagegarden twin = made(past);
    due(what + ": it is counted", twin.garden(2) + 1, () -> garden.garden(2));
    if (twin.garden(0) > 0) {
      // User 1, who watches nothing in any past, is refused there: so that the numbers are equal.
      due(what + ": the twin is refused, too", -9, () -> twin.see(1, twin.byName(0)));
      due(what + ": the checksum is the twin's", twin.digest(), garden::digest);
    }
    due(what + ": all else stays", Gardens.everything(twin), () -> Gardens.everything(garden));
  }

  static void end(String test) {
    System.out.println(test + ": " + (many - wrong) + " of " + many + " answers as due");
    if (wrong > 0) {
      System.exit(1);
    }
  }

  private static String quoted(Object told, int from) {
    if (!(told instanceof String)) {
      return "" + told;
    }
    String text = told.toString();
    String piece = text.substring(Math.min(from, text.length()));
    String shown = piece.length() > 2 * SHOWN ? piece.substring(0, 2 * SHOWN) + ".." : piece;
    return (from > 0 ? ".." : "") + '"' + shown.replace("\n", "\\n") + '"';
  }
}

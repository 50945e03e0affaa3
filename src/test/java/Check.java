/** Compares answers with those that are due, and ends a test. */
final class Check {
  private static int wrong = 0;
  private static int many = 0;

  private Check() {}

  interface Call {
    Object answer();
  }

  /** What a call answers, or "throws." and the exception's name. */
  static Object answerOf(Call call) {
    try {
      return call.answer();
    } catch (RuntimeException e) {
      return "throws." + e.getClass().getSimpleName();
    }
  }

  static void due(String what, Object want, Call call) {
    Object got = answerOf(call);
    many++;
    if (!want.equals(got)) {
      wrong++;
      System.out.println(what + " answered " + quoted(got) + ", due is " + quoted(want));
    }
  }

  /** The call throws the exception, and the garden is afterwards as it was before. */
  static void refusedBy(String what, String exception, Pagegarden garden, Call call) {
    long before = garden.digest();
    String draft = garden.draft();
    due(what, "throws." + exception, call);
    due(what + " changed nothing", before, garden::digest);
    due(what + " left the draft", draft, garden::draft);
  }

  static void noIndex(String what, Pagegarden garden, Call call) {
    refusedBy(what, "IndexOutOfBoundsException", garden, call);
  }

  static void noArgument(String what, Pagegarden garden, Call call) {
    refusedBy(what, "IllegalArgumentException", garden, call);
  }

  static void noState(String what, Pagegarden garden, Call call) {
    refusedBy(what, "IllegalStateException", garden, call);
  }

  /** The call tells REFUSED; the refusals are counted, and all else is as it was. */
  static void refused(String what, Pagegarden garden, Call call) {
    int before = garden.garden(2);
    String all = Gardens.told(garden);
    due(what, -9, call);
    due(what + " is counted", before + 1, () -> garden.garden(2));
    due(what + " changed nothing else", all, () -> Gardens.told(garden));
  }

  static void end(String test) {
    System.out.println(test + ": " + (many - wrong) + " of " + many + " answers as due");
    if (wrong > 0) {
      System.exit(1);
    }
  }

  private static String quoted(Object told) {
    return told instanceof String ? '"' + told.toString().replace("\n", "\\n") + '"' : "" + told;
  }
}

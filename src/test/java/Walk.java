import java.io.IOException;
import java.nio.file.Files;
import java.nio.file.Path;

/**
 * Goes through ../shared/DOC.md from sentence to sentence: none may be passed over, and each one
 * that says something has a check of its own.
 */
final class Walk {
  // How much of a sentence names its checks.
  private static final int SHOWN = 100;

  private static final String DOC = doc();

  private static int at = 0;
  private static String sentence = "";
  private static boolean isChecked = true;

  private Walk() {}

  private static String doc() {
    try {
      return Files.readString(Path.of("../shared/DOC.md")).replaceAll("\\s+", " ");
    } catch (IOException e) {
      throw new IllegalStateException(e);
    }
  }

  /** From there on. */
  static void from(String words) {
    at = DOC.indexOf(words);
    Check.due("the document has " + words, true, () -> at >= 0);
  }

  /** What stands next and says nothing that could be checked. */
  static void reads(String words) {
    Check.due("a check of: " + shortened(sentence), true, () -> isChecked);
    sentence = words;
    boolean isNext = DOC.startsWith(words, at);
    int from = at;
    Check.due("the document goes on", words,
        () -> isNext ? words : DOC.substring(from, Math.min(DOC.length(), from + words.length())));
    at = Math.max(at, DOC.indexOf(words, at)) + words.length();
    at += at < DOC.length() && DOC.charAt(at) == ' ' ? 1 : 0;
    isChecked = true;
  }

  /** What stands next: checks of it follow. */
  static void says(String words) {
    reads(words);
    isChecked = false;
  }

  /** A promise begins: its number, and its name; FaceTest compares the signature. */
  static void promise(int number, String name) {
    reads("## Promise " + number + ": " + name);
    int begin = DOC.indexOf('`', at);
    int end = DOC.indexOf('`', begin + 1);
    reads(DOC.substring(at, end + 1));
  }

  static void ends() {
    Check.due("a check of: " + shortened(sentence), true, () -> isChecked);
    Check.due("the document ends", DOC.length(), () -> at);
  }

  /** It ends there, where something else begins. */
  static void endsAhead(String words) {
    Check.due("a check of: " + shortened(sentence), true, () -> isChecked);
    Check.due("then comes " + words, true, () -> DOC.startsWith(words, at));
  }

  private static String shortened(String words) {
    return words.length() > SHOWN ? words.substring(0, SHOWN) + ".." : words;
  }

  // ---- checks of the sentence

  static void is(Object due, Check.Past past, Check.Asked call) {
    isChecked = true;
    Check.due(shortened(sentence), due, past, call);
  }

  static void tree(String due, String text) {
    is(due, pages(text), g -> Gardens.tree(g, 0));
  }

  /** Page 0 is shown. */
  static void shown(String due, String... texts) {
    is(due, pages(texts), g -> g.shown(0));
  }

  static void refused(Check.Past past, Check.Asked... calls) {
    isChecked = true;
    for (Check.Asked call : calls) {
      Check.refused(shortened(sentence), past, call);
    }
  }

  static void noIndex(String words, Check.Past past, Check.Asked... calls) {
    says("Throws `IndexOutOfBoundsException` " + words);
    throwing("IndexOutOfBoundsException", past, calls);
  }

  static void noArgument(String words, Check.Past past, Check.Asked... calls) {
    says("Throws `IllegalArgumentException` " + words);
    throwing("IllegalArgumentException", past, calls);
  }

  static void noState(String words, Check.Past past, Check.Asked... calls) {
    says("Throws `IllegalStateException` " + words);
    throwing("IllegalStateException", past, calls);
  }

  static void throwing(String exception, Check.Past past, Check.Asked... calls) {
    isChecked = true;
    for (Check.Asked call : calls) {
      Check.thrown(shortened(sentence), exception, past, call);
    }
  }

  // ---- gardens

  /** Page i has NAME i, and that text. */
  static Check.Past pages(String... texts) {
    return g -> {
      for (int i = 0; i < texts.length; i++) {
        Gardens.plant(g, i, texts[i]);
      }
    };
  }

  /** Page 0, with NAME 0, had these texts. */
  static Check.Past versions(String... texts) {
    return g -> {
      for (int i = 0; i < texts.length; i++) {
        Gardens.draft(g, texts[i]);
        if (i == 0) {
          g.plant(0);
        } else {
          g.write(0);
        }
      }
    };
  }

  /** The one past, and then the other one. */
  static Check.Past then(Check.Past first, Check.Past second) {
    return g -> {
      first.of(g);
      second.of(g);
    };
  }

  static Check.Past drafted(Check.Past first, String draft) {
    return then(first, g -> Gardens.draft(g, draft));
  }
}

import java.lang.reflect.Constructor;
import java.lang.reflect.Field;
import java.lang.reflect.Method;
import java.lang.reflect.Modifier;
import java.nio.file.Files;
import java.nio.file.Path;
import java.util.ArrayList;
import java.util.Arrays;
import java.util.HashMap;
import java.util.HashSet;
import java.util.List;
import java.util.Map;
import java.util.Set;
import java.util.StringJoiner;
import java.util.TreeSet;

/** The face is the document's, and the source keeps to what ../shared/LANGUAGE.md leaves. */
public final class FaceTest {
  // What the rules forbid, as it would stand in the code.
  private static final String[] FORBIDDEN = {
    "->", "::", "synchronized", "assert ", "finally", "try {", "catch", "import java.util.List",
    "String[]", "Exact(", "Object", "record ", "static {", "System.out", "System.nano",
    "currentTime", "Random", "Thread", ".hashCode", "toString(int", "String.valueOf", "\" +",
    "+ \"", "double", "float", ".getMessage", "new int[]{", "indexOf(\"", ".insert(", "charAt(-"
  };

  public static void main(String[] args) throws Exception {
    List<String> face = faceOfTheDocument();
    Check.due("the document's face has methods", 49, face::size);
    hasTheFace(face);
    declaresTheExceptions(face);
    hasNothingElse(face);
    keepsToTheLanguage();
    Check.end("FaceTest");
  }

  /** Each method as the document's face declares it, without its arguments' names. */
  private static List<String> faceOfTheDocument() throws Exception {
    String doc = Files.readString(Path.of("../shared/DOC.md"));
    int begin = doc.indexOf("public final class Pagegarden {");
    List<String> face = new ArrayList<>();
    for (String line : doc.substring(begin, doc.indexOf("\n}", begin)).split("\n")) {
      String told = line.trim();
      if (told.startsWith("public ") && told.endsWith(";") && !told.contains(" Pagegarden(")) {
        face.add(told.substring("public ".length(), told.length() - 1)
            .replaceAll("(int|boolean) \\w+([,)])", "$1$2").replace(", ", ","));
      }
    }
    return face;
  }

  private static String withoutExceptions(String method) {
    return method.substring(0, method.indexOf(')') + 1);
  }

  private static String nameOf(String method) {
    return method.substring(method.indexOf(' ') + 1, method.indexOf('('));
  }

  /** A method as javac took it from the class: what it answers, its arguments, its exceptions. */
  private static String declared(Method m) {
    StringBuilder told = new StringBuilder();
    told.append(m.getReturnType().getSimpleName()).append(' ').append(m.getName());
    told.append('(').append(namesOf(m.getParameterTypes())).append(')');
    if (m.getExceptionTypes().length > 0) {
      told.append(" throws ").append(namesOf(m.getExceptionTypes()));
    }
    return told.toString();
  }

  private static String namesOf(Class<?>[] types) {
    StringJoiner names = new StringJoiner(",");
    for (Class<?> type : types) {
      names.add(type.getSimpleName());
    }
    return names.toString();
  }

  private static void hasTheFace(List<String> due) {
    Set<String> want = new TreeSet<>();
    for (String method : due) {
      want.add(withoutExceptions(method));
    }
    Set<String> face = new TreeSet<>();
    for (Method m : Pagegarden.class.getDeclaredMethods()) {
      if (Modifier.isPublic(m.getModifiers())) {
        face.add(withoutExceptions(declared(m)));
      }
    }
    Check.due("the face", want.toString(), () -> face.toString());
  }

  /** Of each public method: just the exceptions of the document, in its order. */
  private static void declaresTheExceptions(List<String> due) {
    Map<String, String> want = new HashMap<>();
    for (String method : due) {
      want.put(withoutExceptions(method), method);
    }
    for (Method m : Pagegarden.class.getDeclaredMethods()) {
      if (Modifier.isPublic(m.getModifiers())) {
        String told = declared(m);
        String wanted = want.get(withoutExceptions(told));
        Check.due("what " + m.getName() + " declares", wanted == null ? "" : wanted, () -> told);
      }
    }
    Constructor<?>[] constructors = Pagegarden.class.getDeclaredConstructors();
    Check.due("the constructor declares no exceptions", 0,
        () -> constructors[0].getExceptionTypes().length);
  }

  private static void hasNothingElse(List<String> face) {
    Class<?> c = Pagegarden.class;
    Check.due("public and final", Modifier.PUBLIC | Modifier.FINAL, c::getModifiers);
    Constructor<?>[] constructors = c.getDeclaredConstructors();
    Check.due("one constructor", 1, () -> constructors.length);
    Check.due("without arguments", 0, () -> constructors[0].getParameterCount());
    Set<String> names = new HashSet<>();
    for (String method : face) {
      names.add(nameOf(method));
    }
    for (Method m : c.getDeclaredMethods()) {
      boolean isOfFace = names.contains(m.getName());
      Check.due(m + " is public or private", isOfFace ? Modifier.PUBLIC : Modifier.PRIVATE,
          () -> m.getModifiers() & (Modifier.PUBLIC | Modifier.PROTECTED | Modifier.PRIVATE));
    }
    for (Field f : c.getDeclaredFields()) {
      Check.due(f + " is private", true, () -> Modifier.isPrivate(f.getModifiers()));
      Check.due(f + " is no state of the class", true,
          () -> !Modifier.isStatic(f.getModifiers()) || Modifier.isFinal(f.getModifiers()));
    }
    for (Class<?> inside : c.getDeclaredClasses()) {
      Check.due(inside + " is private and static", Modifier.PRIVATE | Modifier.STATIC,
          () -> inside.getModifiers() & (Modifier.PRIVATE | Modifier.STATIC));
      Check.due(inside + " has some twenty fields", true,
          () -> Arrays.stream(inside.getDeclaredFields())
              .filter(f -> !Modifier.isStatic(f.getModifiers())).count() <= 20);
      for (Method m : inside.getDeclaredMethods()) {
        Check.due(m + " has no name of the face", false, () -> names.contains(m.getName()));
      }
    }
    Check.due("some twelve classes", true, () -> c.getDeclaredClasses().length <= 11);
  }

  private static void keepsToTheLanguage() throws Exception {
    String source = Files.readString(Path.of("src/main/java/Pagegarden.java"));
    String code = source.replaceAll("(?s)/\\*.*?\\*/", "").replaceAll("//[^\n]*", "");
    for (String forbidden : FORBIDDEN) {
      Check.due("has " + forbidden, false, () -> code.contains(forbidden));
    }
    Check.due("the only import", "import java.util.Arrays;", () -> code.lines()
        .filter(line -> line.startsWith("import")).reduce("", String::concat));
    for (char sign : source.toCharArray()) {
      if (sign > 126) {
        Check.due("a sign beyond 126", 0, () -> (int) sign);
      }
    }
  }
}

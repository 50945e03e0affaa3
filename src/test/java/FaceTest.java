import java.lang.reflect.Constructor;
import java.lang.reflect.Field;
import java.lang.reflect.Method;
import java.lang.reflect.Modifier;
import java.nio.file.Files;
import java.nio.file.Path;
import java.util.Arrays;
import java.util.HashSet;
import java.util.Set;
import java.util.TreeSet;

/** The face is the document's, and the source keeps to what ../shared/LANGUAGE.md leaves. */
public final class FaceTest {
  private static final String[] FACE = {
    "int add(int,int,int)", "int type(int)", "int rub(int)", "String draft()",
    "int take(int,int)", "int login(int)", "int allow(int,int,int)", "int allowPage(int,int,int)",
    "int right(int,int)", "int plant(int)", "int write(int)", "int writeOver(int,int)",
    "int writeSection(int,int)", "int rename(int,int)", "int split(int,int,int)",
    "int merge(int,int)", "int uproot(int)", "int undoEdit(int,int)", "int restore(int,int)",
    "String text(int,int)", "int ofPage(int,int)", "int node(int,int,int)",
    "String nodeText(int,int)", "String contents(int)", "String section(int,int)",
    "String shown(int)", "int writer(int,int)", "int versionOf(int,int,int)", "int link(int,int)",
    "int sets(int,int)", "String walk(int,int)", "String rank(int,int)", "int byName(int)",
    "int near(int,boolean)", "int byPrefix(int)", "int find(int)", "int kinds(int,int,int)",
    "int all(int)", "int watch(int,int,boolean)", "int see(int,int)", "int unseen(int)",
    "int talk(int)", "String remark(int,int)", "String exported()", "int reload()",
    "int garden(int)", "int knock()", "boolean isSound()", "long digest()"
  };
  // What the rules forbid, as it would stand in the code.
  private static final String[] FORBIDDEN = {
    "->", "::", "synchronized", "assert ", "finally", "try {", "catch", "import java.util.List",
    "String[]", "Exact(", "Object", "record ", "static {", "System.out", "System.nano",
    "currentTime", "Random", "Thread", ".hashCode", "toString(int", "String.valueOf", "\" +",
    "+ \"", "double", "float", ".getMessage", "new int[]{", "indexOf(\"", ".insert(", "charAt(-"
  };

  public static void main(String[] args) throws Exception {
    hasTheFace();
    hasNothingElse();
    keepsToTheLanguage();
    Check.end("FaceTest");
  }

  private static void hasTheFace() {
    Set<String> face = new TreeSet<>();
    for (Method m : Pagegarden.class.getDeclaredMethods()) {
      if (Modifier.isPublic(m.getModifiers())) {
        StringBuilder told = new StringBuilder();
        told.append(m.getReturnType().getSimpleName()).append(' ').append(m.getName()).append('(');
        for (Class<?> p : m.getParameterTypes()) {
          told.append(told.charAt(told.length() - 1) == '(' ? "" : ",").append(p.getSimpleName());
        }
        face.add(told.append(')').toString());
      }
    }
    Set<String> due = new TreeSet<>(Arrays.asList(FACE));
    Check.due("the face", due.toString(), () -> face.toString());
  }

  private static void hasNothingElse() {
    Class<?> c = Pagegarden.class;
    Check.due("public and final", Modifier.PUBLIC | Modifier.FINAL, c::getModifiers);
    Constructor<?>[] constructors = c.getDeclaredConstructors();
    Check.due("one constructor", 1, () -> constructors.length);
    Check.due("without arguments", 0, () -> constructors[0].getParameterCount());
    Set<String> names = new HashSet<>();
    for (String method : FACE) {
      names.add(method.substring(method.indexOf(' ') + 1, method.indexOf('(')));
    }
    for (Method m : c.getDeclaredMethods()) {
      boolean isOfFace = names.contains(m.getName());
      Check.due(m + " is public or private", isOfFace ? Modifier.PUBLIC : Modifier.PRIVATE,
          () -> m.getModifiers() & (Modifier.PUBLIC | Modifier.PROTECTED | Modifier.PRIVATE));
    }
    for (Field f : c.getDeclaredFields()) {
      Check.due(f + " is private", true, () -> Modifier.isPrivate(f.getModifiers()));
      Check.due(f + " is no state of the class", true,
          () -> !Modifier.isStatic(f.getModifiers()) || Modifier.isFinal(f.getModifiers()));
    }
    for (Class<?> inside : c.getDeclaredClasses()) {
      Check.due(inside + " is private and static", Modifier.PRIVATE | Modifier.STATIC,
          () -> inside.getModifiers() & (Modifier.PRIVATE | Modifier.STATIC));
      Check.due(inside + " has some twenty fields", true,
          () -> Arrays.stream(inside.getDeclaredFields())
              .filter(f -> !Modifier.isStatic(f.getModifiers())).count() <= 20);
      for (Method m : inside.getDeclaredMethods()) {
        Check.due(m + " has no name of the face", false, () -> names.contains(m.getName()));
      }
    }
    Check.due("some twelve classes", true, () -> c.getDeclaredClasses().length <= 11);
  }

  private static void keepsToTheLanguage() throws Exception {
    String source = Files.readString(Path.of("src/main/java/Pagegarden.java"));
    String code = source.replaceAll("(?s)/\\*.*?\\*/", "").replaceAll("//[^\n]*", "");
    for (String forbidden : FORBIDDEN) {
      Check.due("has " + forbidden, false, () -> code.contains(forbidden));
    }
    Check.due("the only import", "import java.util.Arrays;", () -> code.lines()
        .filter(line -> line.startsWith("import")).reduce("", String::concat));
    for (char sign : source.toCharArray()) {
      if (sign > 126) {
        Check.due("a sign beyond 126", 0, () -> (int) sign);
      }
    }
  }
}

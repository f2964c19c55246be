import java.lang.reflect.Constructor;
import java.lang.reflect.Field;
import java.lang.reflect.Method;
import java.lang.reflect.Modifier;
import java.nio.file.Files;
import java.nio.file.Path;
import java.util.ArrayList;
import java.util.List;
import java.util.Set;
import java.util.TreeSet;

/** The face is that of ../shared/DOC.md and no more; the file keeps to what LANGUAGE.md allows. */
public final class FaceTest {
  private static int wrong = 0;

  private static void check(boolean ok, String what) {
    if (!ok) {
      wrong++;
      System.out.println(what);
    }
  }

  private static Set<String> faceOfDocument() throws Exception {
    Set<String> face = new TreeSet<>();
    boolean isInside = false;
    for (String line : Files.readAllLines(Path.of("../shared/DOC.md"))) {
      if (line.equals("public final class WeirStream {")) {
        isInside = true;
      } else if (line.equals("}")) {
        isInside = false;
      } else if (isInside) {
        face.add(withoutNames(line.trim()));
      }
    }
    return face;
  }

  /** The parameters' names are no part of a signature. */
  private static String withoutNames(String line) {
    int open = line.indexOf('(');
    int shut = line.indexOf(')');
    if (open < 0 || shut < open + 2) {
      return line;
    }
    List<String> types = new ArrayList<>();
    for (String parameter : line.substring(open + 1, shut).split(", ")) {
      types.add(parameter.split(" ")[0]);
    }
    return line.substring(0, open + 1) + String.join(", ", types) + line.substring(shut);
  }

  private static String row(Class<?>[] types) {
    List<String> names = new ArrayList<>();
    for (Class<?> type : types) {
      names.add(type.getSimpleName());
    }
    return String.join(", ", names);
  }

  private static String thrown(Class<?>[] types) {
    return types.length == 0 ? ";" : " throws " + row(types) + ";";
  }

  private static Set<String> faceOfClass() {
    Set<String> face = new TreeSet<>();
    for (Constructor<?> c : WeirStream.class.getDeclaredConstructors()) {
      if (!Modifier.isPrivate(c.getModifiers())) {
        face.add("public WeirStream(" + row(c.getParameterTypes()) + ")" + thrown(c.getExceptionTypes()));
      }
    }
    for (Method m : WeirStream.class.getDeclaredMethods()) {
      if (!Modifier.isPrivate(m.getModifiers())) {
        face.add(Modifier.toString(m.getModifiers()) + " " + m.getReturnType().getSimpleName() + " "
            + m.getName() + "(" + row(m.getParameterTypes()) + ")" + thrown(m.getExceptionTypes()));
      }
    }
    for (Field f : WeirStream.class.getDeclaredFields()) {
      if (!Modifier.isPrivate(f.getModifiers())) {
        face.add(f.toString());
      }
    }
    return face;
  }

  private static void checkClasses() {
    Set<String> open = new TreeSet<>();
    for (Method m : WeirStream.class.getDeclaredMethods()) {
      if (Modifier.isPublic(m.getModifiers())) {
        open.add(m.getName());
      }
    }
    List<Class<?>> all = new ArrayList<>(List.of(WeirStream.class.getDeclaredClasses()));
    check(all.size() <= 11, "there are more than twelve classes");
    for (Class<?> c : all) {
      check(Modifier.isStatic(c.getModifiers()), c + " is not static");
      check(!Modifier.isPublic(c.getModifiers()) && !Modifier.isProtected(c.getModifiers()), c + " is open");
    }
    all.add(WeirStream.class);
    for (Class<?> c : all) {
      int own = 0;
      for (Field f : c.getDeclaredFields()) {
        own += Modifier.isStatic(f.getModifiers()) ? 0 : 1;
        check(!Modifier.isStatic(f.getModifiers()) || Modifier.isFinal(f.getModifiers())
            && f.getType() == int.class, f + " is a static field that is no constant");
      }
      check(own <= 20, c + " has " + own + " fields");
      for (Method m : c.getDeclaredMethods()) {
        check(m.getParameterCount() <= 7, m + " takes too many parameters");
        check(Modifier.isPublic(m.getModifiers()) || !open.contains(m.getName()), m + " bears a name of the face");
      }
    }
  }

  private static void checkSource() throws Exception {
    String[] refused = {"->", "::", "\\btry\\b", "\\bcatch\\b", "\\bfinally\\b", "synchronized", "\\bassert\\b",
        "\\w+Exact\\b", "\\bSystem\\.(?!arraycopy\\b)", "\\bpackage\\b", "\"", "\\bInteger\\b", "\\bfloat\\b",
        "\\bstatic \\{", "\\bhashCode\\b", "\\btoString\\b", "\\bequals\\b", "\\binstanceof\\b", "\\bvar\\b",
        "import (?!java\\.util\\.ArrayList;|java\\.util\\.Arrays;)",
        "Math\\.(?!min\\b|max\\b|floorMod\\b|floorDiv\\b)", "Arrays\\.(?!copyOf\\b)"};
    int number = 0;
    for (String line : Files.readAllLines(Path.of("src/main/java/WeirStream.java"))) {
      number++;
      check(line.length() <= 110, "line " + number + " is long");
      for (int i = 0; i < line.length(); i++) {
        check(line.charAt(i) >= 32 && line.charAt(i) < 127, "line " + number + " has another sign");
      }
      String code = line.replaceAll("//.*", "").replaceAll("^import java\\.util\\.Arrays;", "");
      if (code.trim().startsWith("*") || code.trim().startsWith("/*")) {
        continue;
      }
      for (String word : refused) {
        check(!java.util.regex.Pattern.compile(word).matcher(code).find(), "line " + number + " has " + word);
      }
    }
  }

  /** A method ends where its first line's indentation comes back. */
  private static void checkLengths() throws Exception {
    List<String> lines = Files.readAllLines(Path.of("src/main/java/WeirStream.java"));
    int methods = 0;
    for (int i = 0; i < lines.size(); i++) {
      String line = lines.get(i);
      if (!line.matches("(  |    )[a-zA-Z].*\\) (throws .*)?\\{|(  |    )    throws .*\\{")) {
        continue;
      }
      boolean isNested = line.startsWith(line.contains("  throws ") ? "        " : "    ");
      String end = isNested ? "    }" : "  }";
      int last = i;
      while (last < lines.size() && !lines.get(last).equals(end)) {
        last++;
      }
      methods++;
      check(last - i < 60, "the method of line " + (i + 1) + " has " + (last - i) + " lines");
    }
    check(methods > 150, "only " + methods + " methods were found");
  }

  public static void main(String[] args) throws Exception {
    Set<String> want = faceOfDocument();
    Set<String> got = faceOfClass();
    check(want.size() == 50, "the document's face was not found: " + want);
    for (String line : want) {
      check(got.contains(line), "not in the class: " + line);
    }
    for (String line : got) {
      check(want.contains(line), "not in the document: " + line);
    }
    check(Modifier.isFinal(WeirStream.class.getModifiers()), "the class is not final");
    checkClasses();
    checkSource();
    checkLengths();
    System.out.println(wrong == 0 ? "the face is as due" : wrong + " things are not as due");
    if (wrong != 0) {
      System.exit(1);
    }
  }
}

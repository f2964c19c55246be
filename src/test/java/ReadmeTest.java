import java.io.ByteArrayOutputStream;
import java.io.IOException;
import java.io.PrintStream;
import java.lang.reflect.Method;
import java.lang.reflect.Modifier;
import java.net.URI;
import java.net.URL;
import java.net.URLClassLoader;
import java.nio.charset.StandardCharsets;
import java.nio.file.Files;
import java.nio.file.Path;
import java.util.List;
import javax.tools.JavaCompiler;
import javax.tools.JavaFileObject;
import javax.tools.SimpleJavaFileObject;
import javax.tools.ToolProvider;

/** What README.md tells: its program prints what it says, and its table names each call. */
public final class ReadmeTest {
  private static int failures;

  public static void main(String[] arguments) throws Exception {
    String readme = Files.readString(Path.of("README.md"));
    due("the program prints", block(readme, "```text\n"), printed(block(readme, "```java\n")));
    for (Method method : WeirStream.class.getDeclaredMethods()) {
      if (Modifier.isPublic(method.getModifiers())) {
        due("the table names " + method.getName(), "true",
            "" + table(readme).contains("`" + method.getName() + "`"));
      }
    }
    if (failures > 0) {
      System.exit(1);
    }
    System.out.println("README.md tells what is so");
  }

  private static void due(String what, String wanted, String got) {
    if (!wanted.equals(got)) {
      failures++;
      System.out.println(what + ": due\n" + wanted + "\nbut it is\n" + got);
    }
  }

  private static String block(String text, String fence) {
    int from = text.indexOf(fence) + fence.length();
    return text.substring(from, text.indexOf("```", from));
  }

  private static String table(String readme) {
    StringBuilder rows = new StringBuilder();
    for (String line : readme.split("\n")) {
      if (line.startsWith("| ")) {
        rows.append(line).append('\n');
      }
    }
    return rows.toString();
  }

  private static String printed(String program) throws Exception {
    Path made = Files.createTempDirectory("readme");
    try {
      compile(program, made);
      return run(made);
    } finally {
      Files.deleteIfExists(made.resolve("Example.class"));
      Files.deleteIfExists(made);
    }
  }

  private static void compile(String program, Path made) throws IOException {
    JavaCompiler compiler = ToolProvider.getSystemJavaCompiler();
    JavaFileObject file =
        new SimpleJavaFileObject(URI.create("string:///Example.java"), JavaFileObject.Kind.SOURCE) {
          @Override
          public CharSequence getCharContent(boolean ignoreEncodingErrors) {
            return program;
          }
        };
    List<String> options = List.of("-proc:none", "-d", made.toString(), "-cp",
        System.getProperty("java.class.path"));
    if (!compiler.getTask(null, null, null, options, null, List.of(file)).call()) {
      throw new IOException("the program of README.md does not compile");
    }
  }

  private static String run(Path made) throws Exception {
    PrintStream before = System.out;
    ByteArrayOutputStream bytes = new ByteArrayOutputStream();
    try (URLClassLoader loader = new URLClassLoader(new URL[] {made.toUri().toURL()})) {
      System.setOut(new PrintStream(bytes, true, StandardCharsets.UTF_8));
      loader.loadClass("Example").getMethod("main", String[].class)
          .invoke(null, (Object) new String[0]);
    } finally {
      System.setOut(before);
    }
    return bytes.toString(StandardCharsets.UTF_8).replace("\r\n", "\n");
  }
}

import java.io.File;
import java.lang.reflect.Method;
import java.net.URL;
import java.net.URLClassLoader;
import java.nio.file.Files;
import java.nio.file.Path;
import java.util.ArrayList;
import java.util.List;
import java.util.regex.Matcher;
import java.util.regex.Pattern;
import javax.tools.ToolProvider;

/**
 * Does what README.md shows in its pieces of Java, one behind the other: a call with '//' behind
 * it must answer what is told there. It is run where the project's files are.
 */
public final class ReadmeTest extends Asking {
  private static final Pattern PIECE = Pattern.compile("```java\n(.*?)```", Pattern.DOTALL);
  private static final Pattern TOLD = Pattern.compile("(.*); +// (.*)");

  public static void main(String[] args) throws Exception {
    List<String> pieces = new ArrayList<>();
    Matcher matcher = PIECE.matcher(Files.readString(Path.of("README.md")));
    while (matcher.find()) {
      pieces.add(matcher.group(1));
    }
    due("there are pieces of Java", pieces.size() > 1, true);
    Path folder = Files.createTempDirectory("readme");
    try {
      run(folder, text(pieces));
    } finally {
      for (File file : folder.toFile().listFiles()) {
        file.delete();
      }
      folder.toFile().delete();
    }
    finish();
  }

  /** A class with the methods of the pieces, and one that makes all their calls. */
  private static String text(List<String> pieces) {
    StringBuilder methods = new StringBuilder();
    StringBuilder calls = new StringBuilder();
    for (String piece : pieces) {
      if (piece.startsWith("static ")) {
        methods.append(piece);
        continue;
      }
      for (String line : piece.split("\n")) {
        Matcher told = TOLD.matcher(line);
        calls.append(told.matches() ? "told.add(new Object[] {\"" + told.group(1).replace("\"", "\\\"")
            + "\", " + told.group(1) + ", " + told.group(2) + "});" : line).append('\n');
      }
    }
    return "public class Shown {\n" + methods
        + "public static void show(java.util.List<Object[]> told) {\n" + calls + "}\n}\n";
  }

  private static void run(Path folder, String text) throws Exception {
    Path file = folder.resolve("Shown.java");
    Files.writeString(file, text);
    int failed = ToolProvider.getSystemJavaCompiler().run(null, null, null, "-cp",
        System.getProperty("java.class.path"), "-d", folder.toString(), file.toString());
    due("what README.md shows compiles", failed, 0);
    List<Object[]> told = new ArrayList<>();
    if (failed == 0) {
      show(folder, told);
      due("calls that README.md tells of", told.size() > 20, true);
    }
    for (Object[] call : told) {
      due((String) call[0], call[1], call[2]);
    }
  }

  private static void show(Path folder, List<Object[]> told) throws Exception {
    URL[] places = {folder.toUri().toURL()};
    try (URLClassLoader loader = new URLClassLoader(places, Rexworth.class.getClassLoader())) {
      Method show = loader.loadClass("Shown").getMethod("show", List.class);
      show.invoke(null, told);
    }
  }
}

import java.io.File;
import java.lang.reflect.Method;
import java.lang.reflect.Modifier;
import java.net.URL;
import java.net.URLClassLoader;
import java.nio.file.Files;
import java.nio.file.Path;
import java.util.ArrayList;
import java.util.List;
import javax.tools.ToolProvider;

/**
 * Makes every call that README.md shows, in its order, and looks whether it answers what stands behind it;
 * the page must tell of each call of the class.
 */
public final class ReadmeTest {
  private final List<String> members = new ArrayList<>();
  private final List<String> steps = new ArrayList<>();
  private int shown;

  private ReadmeTest() {
  }

  public static void main(String[] args) throws Exception {
    ReadmeTest test = new ReadmeTest();
    test.readBlocks(Files.readAllLines(Path.of("README.md")));
    Check.isTrue("README.md shows calls", test.shown > 50);
    test.makeCalls();
    tellsOfAll(Files.readString(Path.of("README.md")));
    Check.close("ReadmeTest");
  }

  /** Called by what is made of the page, which another loader loads: so it is public. */
  public static void due(String shown, Object got, String want) {
    Check.dueText("README.md: " + shown, String.valueOf(got), want);
  }

  private static void tellsOfAll(String page) {
    for (Method method : QuotaLicences.class.getDeclaredMethods()) {
      boolean told = page.contains("`" + method.getName() + "(");
      Check.isTrue("README.md tells of " + method.getName(), told || !Modifier.isPublic(method.getModifiers()));
    }
  }

  private void readBlocks(List<String> lines) {
    List<String> block = null;
    for (String line : lines) {
      if (line.equals("```java")) {
        block = new ArrayList<>();
      } else if (line.equals("```") && block != null) {
        takeBlock(block);
        block = null;
      } else if (block != null) {
        block.add(line);
      }
    }
    Check.isTrue("each block of README.md ends", block == null);
  }

  private void takeBlock(List<String> block) {
    if (block.get(0).startsWith("static ")) {
      members.addAll(block);
      return;
    }
    StringBuilder call = new StringBuilder();
    for (String line : block) {
      int mark = line.indexOf("// ");
      String code = (mark < 0 ? line : line.substring(0, mark)).trim();
      call.append(code);
      if (code.endsWith(";")) {
        takeCall(call.substring(0, call.length() - 1), mark < 0 ? null : line.substring(mark + 3));
        call.setLength(0);
      }
    }
    Check.dueText("the rest of a block of README.md", call.toString(), "");
  }

  /** An answer stands ahead of the words that tell of it, if there are any. */
  private void takeCall(String call, String answer) {
    if (answer == null) {
      steps.add(call + ";");
      return;
    }
    shown++;
    String want = answer.split(": ", 2)[0].trim();
    steps.add("ReadmeTest.due(\"" + call.replace("\"", "'") + "\", " + call + ", \"" + want + "\");");
  }

  private void makeCalls() throws Exception {
    Path folder = Files.createTempDirectory("readme");
    Path file = folder.resolve("ReadmeCalls.java");
    String text = "public final class ReadmeCalls implements Runnable {\n" + String.join("\n", members)
        + "\npublic void run() {\n" + String.join("\n", steps) + "\n}\n}\n";
    Files.writeString(file, text);
    String classes = System.getProperty("java.class.path");
    int failed = ToolProvider.getSystemJavaCompiler()
        .run(null, null, null, "-encoding", "UTF-8", "-cp", classes, "-d", folder.toString(), file.toString());
    Check.due("README.md: what javac answers", failed, 0);
    if (failed == 0) {
      runFrom(folder);
    }
    for (File made : folder.toFile().listFiles()) {
      made.delete();
    }
    folder.toFile().delete();
  }

  private static void runFrom(Path folder) throws Exception {
    URL[] places = {folder.toUri().toURL()};
    try (URLClassLoader loader = new URLClassLoader(places, ReadmeTest.class.getClassLoader())) {
      ((Runnable) loader.loadClass("ReadmeCalls").getDeclaredConstructor().newInstance()).run();
    }
  }
}

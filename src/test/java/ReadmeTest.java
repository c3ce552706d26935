import java.io.ByteArrayOutputStream;
import java.io.PrintStream;
import java.lang.reflect.Method;
import java.lang.reflect.Modifier;
import java.net.URL;
import java.net.URLClassLoader;
import java.nio.charset.StandardCharsets;
import java.nio.file.Files;
import java.nio.file.Path;
import java.util.regex.Matcher;
import java.util.regex.Pattern;
import javax.tools.JavaCompiler;
import javax.tools.ToolProvider;

/** README.md: its example prints what it says, and it tells of each call and each number. */
public final class ReadmeTest {
  public static void main(String[] args) throws Exception {
    String readme = new String(Files.readAllBytes(Path.of("README.md")), StandardCharsets.UTF_8);
    calls(readme);
    refusals(readme);
    numbers(readme);
    example(readme);
    Due.end("README.md");
  }

  private static void calls(String readme) {
    Due.says("each call has its row, with as many numbers as it takes");
    int rows = 0;
    for (Method m : OnePlays.class.getDeclaredMethods()) {
      if (Modifier.isPublic(m.getModifiers())) {
        rows++;
        StringBuilder row = new StringBuilder("\n| `" + m.getName() + "(");
        int at = readme.indexOf(row.toString());
        Due.is("whether there is a row of " + m.getName(), at >= 0, true);
        if (at >= 0) {
          String inside = readme.substring(at + row.length(), readme.indexOf(')', at));
          int count = inside.isEmpty() ? 0 : inside.split(", ").length;
          Due.is("how many numbers " + m.getName() + " takes", count, m.getParameterCount());
        }
      }
    }
    Due.is("how many calls", rows, 45);
  }

  /** A call without a PIECE, of numbers below 0, is refused as its row says first. */
  private static void refusals(String readme) throws Exception {
    Due.says("what a refused call answers, and the first number of TROUBLE of its row");
    Matcher rows = Pattern.compile("(?m)^\\| `(\\w+)\\(.*\\| (-1|-1000|false): ([0-9]).*\\|$")
        .matcher(readme);
    int found = 0;
    while (rows.find()) {
      found++;
      for (Method m : OnePlays.class.getDeclaredMethods()) {
        if (m.getName().equals(rows.group(1)) && Modifier.isPublic(m.getModifiers())) {
          Object[] below = new Object[m.getParameterCount()];
          for (int i = 0; i < below.length; i++) {
            below[i] = m.getParameterTypes()[i] == int.class ? (Object) (-1) : (Object) false;
          }
          OnePlays x = new OnePlays();
          String answer = m.invoke(x, below).toString();
          Due.is("whether " + m.getName() + " answers " + rows.group(2),
              answer.equals(rows.group(2)), true);
          Due.is("trouble() behind " + m.getName(), x.trouble(), Integer.parseInt(rows.group(3)));
        }
      }
    }
    Due.is("how many calls have a TROUBLE", found, 45 - 6);
  }

  private static void numbers(String readme) {
    Due.says("each FAULT and each TROUBLE has its row");
    String faults = readme.substring(readme.indexOf("| Fault |"));
    String troubles = readme.substring(readme.indexOf("| Trouble |"));
    for (int i = 1; i <= 7; i++) {
      Due.is("whether there is a row of fault " + i, faults.contains("\n| " + i + " | "), true);
    }
    for (int i = 0; i <= 6; i++) {
      Due.is("whether there is a row of trouble " + i, troubles.contains("\n| " + i + " | "), true);
    }
  }

  private static void example(String readme) throws Exception {
    Due.says("the example prints what stands behind it");
    JavaCompiler javac = ToolProvider.getSystemJavaCompiler();
    if (javac == null) {
      System.out.println("there is no compiler to try the example with");
      return;
    }
    Path dir = Files.createTempDirectory("example");
    Path file = dir.resolve("Example.java");
    Files.write(file, block(readme, "```java\n").getBytes(StandardCharsets.UTF_8));
    int failed = javac.run(null, null, null, "-d", dir.toString(), "-cp",
        System.getProperty("java.class.path"), file.toString());
    Due.is("what javac says", failed, 0);
    if (failed == 0) {
      Due.is("whether it prints so", printed(dir).equals(block(readme, "```text\n")), true);
    }
    for (String name : new String[] {"Example.java", "Example.class"}) {
      Files.deleteIfExists(dir.resolve(name));
    }
    Files.deleteIfExists(dir);
  }

  private static String block(String readme, String begin) {
    int at = readme.indexOf(begin) + begin.length();
    return readme.substring(at, readme.indexOf("```", at));
  }

  private static String printed(Path dir) throws Exception {
    PrintStream out = System.out;
    ByteArrayOutputStream bytes = new ByteArrayOutputStream();
    try (URLClassLoader loader = new URLClassLoader(new URL[] {dir.toUri().toURL()})) {
      Method main = loader.loadClass("Example").getMethod("main", String[].class);
      System.setOut(new PrintStream(bytes, true, "UTF-8"));
      main.invoke(null, (Object) new String[0]);
    } finally {
      System.setOut(out);
    }
    return bytes.toString("UTF-8").replace("\r", "");
  }
}

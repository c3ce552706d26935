import java.io.ByteArrayOutputStream;
import java.io.File;
import java.io.PrintWriter;
import java.util.ArrayList;
import java.util.HashMap;
import java.util.HashSet;
import java.util.List;
import java.util.Map;
import java.util.Optional;
import java.util.Set;
import java.util.TreeMap;
import java.util.regex.Matcher;
import java.util.regex.Pattern;
import java.util.spi.ToolProvider;

/** LANGUAGE.md, rule 11: calls go at most eight deep, by the compiled classes (needs the JDK's javap). */
public final class DepthTest {
  private static final int MOST = 8;
  private static final Pattern CLASS = Pattern.compile("class (OnePlays\\S*?)(?: extends (\\S+))? \\{");
  private static final Pattern METHOD = Pattern.compile("^  \\S.*?([\\w$]+)\\(.*\\).*;$");
  private static final Pattern CALL =
      Pattern.compile("invoke\\w+ .*// (?:Interface)?Method (?:(OnePlays[\\w$]*)\\.)?(\"?[\\w$<>]+\"?):");

  private static final Map<String, Set<String>> CALLS = new TreeMap<>();
  private static final Map<String, String> ABOVE = new HashMap<>();

  public static void main(String[] args) {
    Optional<ToolProvider> javap = ToolProvider.findFirst("javap");
    if (javap.isEmpty()) {
      System.out.println("no javap here: how deep calls go was not looked at");
      return;
    }
    File dir = new File(System.getProperty("java.class.path"));
    for (String file : dir.list()) {
      if (file.matches("OnePlays(\\$\\w+)?\\.class")) {
        read(javap.get(), new File(dir, file).getPath());
      }
    }
    int wrong = 0;
    int deepest = 0;
    for (String method : CALLS.keySet()) {
      List<String> row = deepest(method, new HashSet<>());
      deepest = Math.max(deepest, row.size());
      if (row.size() > MOST) {
        wrong++;
        System.out.println("rule 11: " + row);
      }
    }
    System.out.println("calls go " + deepest + " deep in " + CALLS.size() + " methods");
    if (wrong != 0 || CALLS.size() < 45) {
      System.exit(1);
    }
  }

  private static void read(ToolProvider javap, String file) {
    ByteArrayOutputStream bytes = new ByteArrayOutputStream();
    PrintWriter out = new PrintWriter(bytes, true);
    javap.run(out, out, "-p", "-c", file);
    out.flush();
    String type = "";
    String method = "";
    for (String line : bytes.toString().split("\\R")) {
      Matcher c = CLASS.matcher(line);
      Matcher m = METHOD.matcher(line);
      Matcher call = CALL.matcher(line);
      if (c.find() && type.isEmpty()) {
        type = c.group(1);
        ABOVE.put(type, c.group(2) == null ? "" : c.group(2));
      } else if (m.find()) {
        boolean isConstructor = line.contains(type + "(");
        method = type + "." + (isConstructor ? "<init>" : m.group(1));
        CALLS.putIfAbsent(method, new HashSet<>());
      } else if (call.find() && !(call.group(1) == null && line.contains("Method java"))) {
        String of = call.group(1) == null ? type : call.group(1);
        CALLS.get(method).add(of + "." + call.group(2).replace("\"", ""));
      }
    }
  }

  /** The methods that a call may come to: its own, those that override it, or one above. */
  private static List<String> goals(String call) {
    String type = call.substring(0, call.indexOf('.'));
    String name = call.substring(call.indexOf('.'));
    List<String> goals = new ArrayList<>();
    for (String below : ABOVE.keySet()) {
      if ((below.equals(type) || ABOVE.get(below).equals(type)) && CALLS.containsKey(below + name)) {
        goals.add(below + name);
      }
    }
    for (String above = ABOVE.get(type); goals.isEmpty() && above != null; above = ABOVE.get(above)) {
      if (CALLS.containsKey(above + name)) {
        goals.add(above + name);
      }
    }
    return goals;
  }

  /** The longest row of calls from a method, none of which comes twice in it. */
  private static List<String> deepest(String method, Set<String> open) {
    List<String> best = new ArrayList<>();
    open.add(method);
    for (String call : CALLS.get(method)) {
      for (String goal : goals(call)) {
        if (!open.contains(goal)) {
          List<String> row = deepest(goal, open);
          best = row.size() > best.size() ? row : best;
        }
      }
    }
    open.remove(method);
    List<String> all = new ArrayList<>();
    all.add(method);
    all.addAll(best);
    return all;
  }
}

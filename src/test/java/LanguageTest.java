import java.lang.reflect.Constructor;
import java.lang.reflect.Field;
import java.lang.reflect.Method;
import java.lang.reflect.Modifier;
import java.nio.charset.StandardCharsets;
import java.nio.file.Files;
import java.nio.file.Path;
import java.util.ArrayList;
import java.util.Arrays;
import java.util.HashSet;
import java.util.List;
import java.util.Set;
import java.util.TreeSet;
import java.util.regex.Matcher;
import java.util.regex.Pattern;

/** What of ../shared/LANGUAGE.md can be seen from the source and the compiled class. */
public final class LanguageTest {
  private static int wrong = 0;

  private static final String[] FACE = {
    "int feed(int,int,int,int,int)", "int piece(int)", "int fault()", "int where()",
    "int orders()", "int scene(int)", "int begins(int,boolean)", "int seen(int,boolean)",
    "int change(int,int)", "int need(int,int)", "int meet(int,int)", "int bodily(int)",
    "int can(int)", "int could(int)", "int troubled()", "int slack(int)", "int sweat(int,int)",
    "int fewest()", "int player(int)", "int fewestOfAll()", "int sceneOfAll(int)", "int enough()",
    "int cuts()", "int cutsBy()", "int ready(int)", "int lent(int)", "int lend()", "int gap()",
    "int swaps()", "int who(int)", "int same(int,int)", "int must()", "int betrayed()",
    "boolean swap(int,int)", "boolean cast(int,int)", "boolean cut(int,boolean)",
    "boolean undo()", "boolean redo()", "int image()", "boolean back(int)", "int part(int,int)",
    "int on(int,int)", "int led(int,int)", "int size(int)", "int trouble()"};

  public static void main(String[] args) throws Exception {
    Path source = Path.of(args.length > 0 ? args[0] : "src/main/java/OnePlays.java");
    String text = new String(Files.readAllBytes(source), StandardCharsets.UTF_8);
    face();
    classes();
    words(bare(text));
    lengths(bare(text));
    System.out.println("the language: " + wrong + " wrong");
    if (wrong != 0) {
      System.exit(1);
    }
  }

  private static void must(boolean is, String what) {
    if (!is) {
      wrong++;
      System.out.println(what);
    }
  }

  /** The source without comments; texts and characters become empty ones. */
  private static String bare(String text) {
    String all = text.replaceAll("(?s)/\\*.*?\\*/", " ").replaceAll("//[^\n]*", "");
    return all.replaceAll("'(\\\\.|[^'])'", "'c'").replaceAll("\"(\\\\.|[^\"\\\\])*\"", "\"t\"");
  }

  private static void face() {
    Set<String> due = new TreeSet<>(Arrays.asList(FACE));
    Set<String> there = new TreeSet<>();
    Class<?> c = OnePlays.class;
    must(Modifier.isPublic(c.getModifiers()) && Modifier.isFinal(c.getModifiers()), "rule 1: class");
    for (Method m : c.getDeclaredMethods()) {
      if (m.isSynthetic()) {
        continue;
      }
      if (!Modifier.isPrivate(m.getModifiers())) {
        StringBuilder types = new StringBuilder();
        for (Class<?> t : m.getParameterTypes()) {
          types.append(types.length() == 0 ? "" : ",").append(t.getName());
        }
        there.add(m.getReturnType().getName() + " " + m.getName() + "(" + types + ")");
        must(Modifier.isPublic(m.getModifiers()) && !Modifier.isStatic(m.getModifiers()),
            "rule 1: " + m);
      }
    }
    must(due.equals(there), "rule 1: the face is " + there);
    for (Constructor<?> k : c.getDeclaredConstructors()) {
      must(Modifier.isPublic(k.getModifiers()) && k.getParameterCount() == 0, "rule 1: " + k);
    }
    for (Field f : c.getDeclaredFields()) {
      must(Modifier.isPrivate(f.getModifiers()) || f.getName().equals("NONE"), "rule 1: " + f);
    }
  }

  private static void classes() {
    Set<String> faceNames = new HashSet<>();
    for (String m : FACE) {
      faceNames.add(m.substring(m.indexOf(' ') + 1, m.indexOf('(')));
    }
    List<Class<?>> all = new ArrayList<>(Arrays.asList(OnePlays.class.getDeclaredClasses()));
    all.add(OnePlays.class);
    must(all.size() <= 12, "rule 11: " + all.size() + " classes");
    for (Class<?> c : all) {
      int fields = 0;
      for (Field f : c.getDeclaredFields()) {
        boolean isStatic = Modifier.isStatic(f.getModifiers());
        must(!isStatic || Modifier.isFinal(f.getModifiers()), "rule 5: " + f);
        must(!isStatic || f.getType().isPrimitive(), "rule 5: " + f);
        fields += isStatic ? 0 : 1;
      }
      must(fields <= 20, "rule 11: " + fields + " fields in " + c);
      for (Method m : c.getDeclaredMethods()) {
        must(m.getParameterCount() <= 7, "rule 11: " + m);
        must(c == OnePlays.class && Modifier.isPublic(m.getModifiers())
            || !faceNames.contains(m.getName()), "rule 1: bears a public name: " + m);
      }
      if (c != OnePlays.class) {
        must(Modifier.isStatic(c.getModifiers()), "rule 1: " + c);
      }
    }
  }

  private static void words(String text) {
    String[] never = {"->", "::", "\\btry\\b", "\\bcatch\\b", "\\bfinally\\b", "\\bsynchronized\\b",
      "\\bassert\\b", "\\bpackage\\b", "\\bnative\\b", "\\bvolatile\\b", "\\bvar\\b", "Exact\\b",
      "\\bequals\\b", "\\bhashCode\\b", "\\btoString\\b", "\"t\"\\s*\\+", "\\+\\s*\"t\"",
      "\\+=\\s*\"t\"", "@", "\\bthis\\s*::", "\\bdouble\\b", "\\bfloat\\b", "\\bRandom\\b",
      "\\bThread\\b", "\\bjava\\.io\\b", "\\bObject\\b", "\\bnull\\b", "\\bprotected\\b"};
    for (String word : never) {
      must(!Pattern.compile(word).matcher(text).find(), "the source has " + word);
    }
    only(text, "import\\s+([\\w.]+);", "java.util.Arrays", "java.util.NoSuchElementException");
    only(text, "\\bSystem\\.(\\w+)", "arraycopy");
    only(text, "\\bArrays\\.(\\w+)\\s*\\(", "fill");
    only(text, "\\bMath\\.(\\w+)", "min", "max");
    only(text, "\\bthrow\\s+new\\s+(\\w+)", "NoSuchElementException");
    // Nothing is made but in constructors and as a field's first value.
    for (String line : text.split("\n")) {
      if (line.matches(".*\\bnew\\b.*")) {
        must(line.contains("throw new") || line.matches("\\s*(private )?final .*= new .*;")
            || line.matches("\\s*\\w+ = new \\w+\\([\\w, ]*\\);"), "rule 12: " + line.trim());
      }
    }
    Matcher loops = Pattern.compile("while\\s*\\(\\s*true|for\\s*\\([^;]*;\\s*;").matcher(text);
    must(!loops.find(), "rule 9: a loop without an end");
  }

  private static void only(String text, String pattern, String... allowed) {
    Matcher m = Pattern.compile(pattern).matcher(text);
    while (m.find()) {
      must(Arrays.asList(allowed).contains(m.group(1)), "the source has " + m.group());
    }
  }

  /** Methods of some sixty lines at most. */
  private static void lengths(String text) {
    String[] lines = text.split("\n");
    int begun = -1;
    String indent = "";
    for (int i = 0; i < lines.length; i++) {
      Matcher m = Pattern.compile("^( {4}| {8})\\S.*\\)( throws \\w+)? \\{$").matcher(lines[i]);
      if (begun < 0 && m.find() && !lines[i].contains(" class ")) {
        begun = i;
        indent = m.group(1);
      } else if (begun >= 0 && lines[i].equals(indent + "}")) {
        must(i - begun < 60, "rule 11: a method of " + (i - begun) + " lines at " + (begun + 1));
        begun = -1;
      }
    }
    must(begun < 0, "a method's end isn't found");
  }
}

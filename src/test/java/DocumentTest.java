import java.lang.reflect.Method;
import java.lang.reflect.Modifier;
import java.nio.charset.StandardCharsets;
import java.nio.file.Files;
import java.nio.file.Path;
import java.util.ArrayList;
import java.util.Arrays;
import java.util.List;
import java.util.NoSuchElementException;
import java.util.regex.Matcher;
import java.util.regex.Pattern;

/**
 * The document from its first line to its last, word for word: behind each sentence (and
 * each part of one that asks something by itself) stands its test. At the end the words are
 * held against ../shared/DOC.md, so that none is left out.
 */
public final class DocumentTest {
  public static void main(String[] args) throws Exception {
    whatItIs();
    face();
    WalkTerms.all();
    constantsAndHeads(Path.of(args.length > 0 ? args[0] : "src/main/java/OnePlays.java"));
    WalkPromises.all();
    notPromised();
    Walk.end();
    Due.end("the document, word for word");
  }

  // ------------------------------------------------------------- what it is

  private static void whatItIs() {
    Walk.asksNothing("# OnePlays");
    Walk.asksNothing("## What it is");
    Walk.says("One plays all: a piece of scenes, parts of kinds with coats under coats, who is seen when,"
        + " coming in and going off by left or right, what may be said from behind, which scene comes"
        + " after which, what seats saw of an evening, told as a text; an evening second by second, who"
        + " can play whom, seconds for each change, the first thing that can't be; fewest players over"
        + " all orders of scenes, who plays whom; the fewest appearances to cut; what one thing more"
        + " ready would spare; how much each is on, walks, changes; how many he must have been by what"
        + " was seen; scenes swapped, parts given, cut, undone and redone, images.");
    OnePlays x = Due.told(Walk.court());
    int[] sizes = {5, 2, 7, 1, 3, 1, 0, 0, 0, 0};
    for (int what = 0; what < sizes.length; what++) {
      Due.is("size(" + what + ")", x.size(what), sizes[what]);
    }
    Due.is("the first thing that can't be", x.troubled(), 2);
    Due.is("an image", x.image(), 0);
    Due.is("a part given", x.cast(2, 1), true);
    Due.is("what can't be then", x.troubled(), 1);
    Due.is("undone", x.undo(), true);
    Due.is("redone", x.redo(), true);
    Walk.says("An object is used for at most 512 calls after it has been made;");
    String text = Due.whole(Walk.court());
    x = new OnePlays();
    Texts.feed(x, text);
    x.piece(text.length());
    for (int calls = (text.length() + 19) / 20 + 1; calls < 511; calls++) {
      x.swaps();
    }
    Due.is("the 512th call", x.need(0, 1), 16);
    Walk.asksNothing("what later calls answer is free.");
  }

  // ------------------------------------------------------------- the public face

  private static final String[] METHODS = {
    "public int feed(int a, int b, int c, int d, int e);", "public int piece(int n);",
    "public int fault();", "public int where();", "public int orders();",
    "public int scene(int i);", "public int begins(int scene, boolean ends);",
    "public int seen(int on, boolean ends);", "public int change(int part, int other);",
    "public int need(int on, int other);", "public int meet(int on, int other);",
    "public int bodily(int on);", "public int can(int player);", "public int could(int parts);",
    "public int troubled();", "public int slack(int player);",
    "public int sweat(int player, int what);", "public int fewest();",
    "public int player(int part);", "public int fewestOfAll();", "public int sceneOfAll(int i);",
    "public int enough();", "public int cuts();", "public int cutsBy();",
    "public int ready(int part);", "public int lent(int part);", "public int lend();",
    "public int gap();", "public int swaps();", "public int who(int players);",
    "public int same(int saw, int other);", "public int must();", "public int betrayed();",
    "public boolean swap(int i, int j);", "public boolean cast(int part, int player);",
    "public boolean cut(int on, boolean is);", "public boolean undo();", "public boolean redo();",
    "public int image();", "public boolean back(int image);", "public int part(int p, int what);",
    "public int on(int k, int what);",
    "public int led(int player, int i) throws NoSuchElementException;",
    "public int size(int what);", "public int trouble();"};

  private static void face() throws Exception {
    Walk.asksNothing("## The public face");
    Walk.asksNothing("import java.util.NoSuchElementException;");
    Walk.says("public final class OnePlays {");
    int is = OnePlays.class.getModifiers();
    Due.is("public", Modifier.isPublic(is), true);
    Due.is("final", Modifier.isFinal(is), true);
    Due.is("no class above it", OnePlays.class.getSuperclass() == Object.class, true);
    Due.is("no package", OnePlays.class.getName().equals("OnePlays"), true);
    Walk.says("public static final int NONE = -1;");
    int none = OnePlays.class.getField("NONE").getModifiers();
    Due.is("static final", Modifier.isStatic(none) && Modifier.isFinal(none), true);
    Due.is("an int", OnePlays.class.getField("NONE").getType() == int.class, true);
    Due.is("NONE", OnePlays.NONE, -1);
    Due.is("how many fields", OnePlays.class.getFields().length, 1);
    Walk.says("public OnePlays();");
    Due.is("how many constructors", OnePlays.class.getConstructors().length, 1);
    Due.is("its parameters", OnePlays.class.getConstructors()[0].getParameterCount(), 0);
    Due.is("what it throws", OnePlays.class.getConstructors()[0].getExceptionTypes().length, 0);
    for (String line : METHODS) {
      Walk.says(line);
      method(line);
    }
    Walk.says("}");
    int own = 0;
    for (Method m : OnePlays.class.getMethods()) {
      own += m.getDeclaringClass() == OnePlays.class ? 1 : 0;
    }
    Due.is("how many public methods", own, METHODS.length);
  }

  /** A line of the face is a method of the class: its types and what it throws. */
  private static void method(String line) throws Exception {
    String[] words = line.split("[ (]");
    String inside = line.substring(line.indexOf('(') + 1, line.indexOf(')'));
    List<Class<?>> types = new ArrayList<>();
    for (String one : inside.split(", ")) {
      if (!one.isEmpty()) {
        types.add(one.startsWith("int ") ? int.class : boolean.class);
      }
    }
    Method m = OnePlays.class.getMethod(words[2], types.toArray(new Class<?>[0]));
    Due.is("what it answers", m.getReturnType().getName().equals(words[1]), true);
    Due.is("static", Modifier.isStatic(m.getModifiers()), false);
    boolean throwsIt = Arrays.asList(m.getExceptionTypes()).contains(NoSuchElementException.class);
    Due.is("it names NoSuchElementException", throwsIt, line.contains("throws"));
    Due.is("how many exceptions it names", m.getExceptionTypes().length, throwsIt ? 1 : 0);
  }

  // ------------------------------------------------------------- constants, heads of the calls

  private static final String[][] HEADS = {
    {"the piece", "feed", "piece", "fault", "where"},
    {"an evening", "orders", "scene", "begins", "seen", "change", "need", "meet", "bodily", "can",
      "could", "troubled", "slack", "sweat"},
    {"fewest", "fewest", "player", "fewestOfAll", "sceneOfAll", "enough", "cuts", "cutsBy", "ready",
      "lent", "lend", "gap", "swaps", "who"},
    {"what was seen", "same", "must", "betrayed"},
    {"acts", "swap", "cast", "cut", "undo", "redo", "image", "back"},
    {"what is told", "part", "on", "led", "size", "trouble"}};

  private static void constantsAndHeads(Path source) throws Exception {
    Walk.says("The constants: `NONE = -1`: There is none; refused.");
    Due.is("NONE", OnePlays.NONE, -1);
    Due.is("there is none", Due.told(Walk.court()).scene(2), OnePlays.NONE);
    Due.is("refused", new OnePlays().orders(), OnePlays.NONE);
    String text = new String(Files.readAllBytes(source), StandardCharsets.UTF_8);
    // Heads and calls of the face, in the row in which they stand in the source.
    Matcher found = Pattern.compile("(?m)^    (?:// (---- [a-z ]+)|public (?:int|boolean) (\\w+)\\(.*)$")
        .matcher(text);
    for (String[] row : HEADS) {
      String[] names = Arrays.copyOfRange(row, 1, row.length);
      Walk.says("Ahead of the calls `" + String.join("`, `", names) + "` the interface says: ---- "
          + row[0] + ".");
      Due.is("the head comes next", found.find() && ("---- " + row[0]).equals(found.group(1)), true);
      for (String name : names) {
        Due.is(name + " comes next", found.find() && name.equals(found.group(2)), true);
      }
    }
  }

  // ------------------------------------------------------------- not promised

  private static void notPromised() {
    Walk.asksNothing("## Not promised");
    Walk.asksNothing("How the state is held inside the object is free, as are the speed of each call, the"
        + " text of toString and the behaviour of equals and hashCode. Use of one object from several"
        + " threads at once is not promised to be safe.");
    Walk.says("Nothing is promised beyond the answers and state changes described above,");
    // What is described: a call that only asks changes nothing of what is told.
    OnePlays x = Due.told(Walk.court());
    x.cast(1, 2);
    x.image();
    x.cut(0, true);
    x.undo();
    String told = Due.state(x);
    x.fewestOfAll();
    x.sceneOfAll(0);
    x.ready(1);
    x.lend();
    x.gap();
    x.swaps();
    x.cutsBy();
    x.must();
    Due.is("what it tells is as before", Due.state(x).equals(told), true);
    Due.is("two objects have nothing to do with each other", new OnePlays().size(0), 0);
    Walk.asksNothing("and nothing about an object after its 512th call.");
  }
}

/** The boundaries that Terms II and promises 6 to 18 name: ORDERS, times, NEED, BODILY, CAN, SLACK. */
public final class EveningBoundaryTest {
  private static final int LEAST = Integer.MIN_VALUE;
  private static final int MOST = Integer.MAX_VALUE;
  /** Numbers that are none of a small count, also such as wrap around when shifted by. */
  private static final int[] NO_SUCH = {-1, 32, 33, 64, 256, 65536, -32, -31, LEAST, LEAST + 1, MOST};
  private static final String PLAIN = Due.part("p", "plain", 0, 0, 0);

  public static void main(String[] args) {
    orders();
    scenes();
    begins();
    seen();
    meet();
    change();
    need();
    bodily();
    dead();
    canBehind();
    canPuppets();
    canBodily();
    canNeed();
    players();
    could();
    troubled();
    slack();
    sweat();
    Due.end("boundaries of an evening");
  }

  // ------------------------------------------------------------- ORDERS, times

  private static String scenes(int n, int lasts) {
    StringBuilder all = new StringBuilder();
    for (int i = 0; i < n; i++) {
      all.append(Due.scene("s" + (char) ('a' + i), lasts));
    }
    return all.toString();
  }

  private static void orders() {
    Due.says("orders: how many ORDERS there are: of 1 up to 5 scenes without an after");
    int[] due = {1, 2, 6, 24, 120};
    for (int n = 1; n <= 5; n++) {
      OnePlays x = Due.told(Due.head(0, 0, 1) + PLAIN + scenes(n, 1));
      Due.is(x, "orders() of " + n, x.orders(), due[n - 1], 0);
    }
    Due.says("orders: with all scenes in one row there is 1");
    OnePlays x = Due.told(Due.head(0, 0, 1) + PLAIN + scenes(5, 1)
        + "after se sd;after sd sc;after sc sb;after sb sa");
    Due.is(x, "orders()", x.orders(), 1, 0);
    Due.is("scene(0)", x.scene(0), 4);
    Due.is("scene(4)", x.scene(4), 0);
    OnePlays y = Due.told(Due.head(0, 0, 1) + PLAIN + scenes(5, 1)
        + "after sa sb;after sa sc;after sa sd;after sa se");
    Due.is("orders() with one scene first", y.orders(), 24);
    OnePlays z = Due.told(Due.head(0, 0, 1) + PLAIN + scenes(5, 1) + "after se sa");
    Due.is("orders() with one after", z.orders(), 60);
  }

  private static void scenes() {
    Due.says("scene: The i-th scene; at first the first ORDER, by numbers of scenes");
    OnePlays x = Due.told(Due.head(0, 0, 1) + PLAIN + scenes(5, 1) + "after se sa;after sd sb");
    int[] first = {2, 3, 1, 4, 0};
    for (int i = 0; i < 5; i++) {
      Due.is(x, "scene(" + i + ")", x.scene(i), first[i], 0);
    }
    Due.says("scene: NONE: 1 (i one too small, one too large)");
    Due.is(x, "scene(5)", x.scene(5), -1, 1);
    for (int i : NO_SUCH) {
      Due.is(x, "scene(" + i + ")", x.scene(i), -1, 1);
    }
    OnePlays one = Due.told(Due.head(0, 0, 1) + PLAIN + scenes(1, 1));
    Due.is(one, "scene(0)", one.scene(0), 0, 0);
    Due.is(one, "scene(1)", one.scene(1), -1, 1);
  }

  private static void begins() {
    Due.says("a scene begins gap behind the end of the one ahead, the first at 0: gap 0");
    OnePlays x = Due.told(Due.head(99, 0, 1) + PLAIN + Due.scene("s", 1) + Due.scene("t", 500)
        + Due.scene("u", 7));
    int[][] due = {{0, 1}, {1, 501}, {501, 508}};
    for (int s = 0; s < 3; s++) {
      Due.is(x, "begins(" + s + ", false)", x.begins(s, false), due[s][0], 0);
      Due.is(x, "begins(" + s + ", true)", x.begins(s, true), due[s][1], 0);
    }
    Due.says("a scene begins gap behind the end of the one ahead: gap 99, none behind the last");
    OnePlays y = Due.told(Due.head(0, 99, 1) + PLAIN + scenes(5, 500));
    for (int s = 0; s < 5; s++) {
      Due.is("begins(" + s + ", false)", y.begins(s, false), 599 * s);
      Due.is("begins(" + s + ", true)", y.begins(s, true), 599 * s + 500);
    }
    Due.says("begins is of THE EVENING, by the scene's number");
    Due.is("swap(0, 4)", y.swap(0, 4), true);
    Due.is("begins(4, false)", y.begins(4, false), 0);
    Due.is("begins(0, false)", y.begins(0, false), 4 * 599);
    Due.is("begins(1, false)", y.begins(1, false), 599);
    Due.says("begins: NONE: 1 (one too small, one too large)");
    Due.is(y, "begins(5, true)", y.begins(5, true), -1, 1);
    Due.is(x, "begins(3, false)", x.begins(3, false), -1, 1);
    for (int s : NO_SUCH) {
      Due.is(y, "begins(" + s + ", false)", y.begins(s, false), -1, 1);
    }
  }

  private static void seen() {
    Due.says("An APPEARANCE is from its second to its last one, counted from its scene's begin");
    OnePlays x = Due.told(Due.head(0, 10, 1) + PLAIN + Due.scene("s", 30) + Due.scene("t", 500)
        + Due.on("p", "s", 0, 1) + Due.on("p", "s", 29, 30) + Due.on("p", "t", 0, 500)
        + Due.on("p", "t", 499, 500));
    int[][] due = {{0, 1}, {29, 30}, {40, 540}, {539, 540}};
    for (int k = 0; k < 4; k++) {
      Due.is(x, "seen(" + k + ", false)", x.seen(k, false), due[k][0], 0);
      Due.is(x, "seen(" + k + ", true)", x.seen(k, true), due[k][1], 0);
    }
    x.swap(0, 1);
    Due.is("seen(0, false) in the other ORDER", x.seen(0, false), 510);
    Due.is("seen(2, false) in the other ORDER", x.seen(2, false), 0);
    Due.says("seen: NONE: 1 (one too small, one too large)");
    Due.is(x, "seen(4, true)", x.seen(4, true), -1, 1);
    for (int k : NO_SUCH) {
      Due.is(x, "seen(" + k + ", false)", x.seen(k, false), -1, 1);
    }
    OnePlays none = Due.told(Due.head(0, 0, 1) + PLAIN + Due.scene("s", 1));
    Due.is(none, "seen(0, false) of none", none.seen(0, false), -1, 1);
  }

  private static void meet() {
    Due.says("two MEET if each begins ahead of the other's end");
    OnePlays x = Due.told(Due.head(0, 0, 1) + PLAIN + Due.scene("s", 20) + Due.scene("t", 5)
        + Due.on("p", "s", 5, 10) + Due.on("p", "s", 10, 20) + Due.on("p", "s", 9, 11)
        + Due.on("p", "s", 0, 5) + Due.on("p", "s", 0, 6) + Due.on("p", "s", 6, 7)
        + Due.on("p", "t", 0, 1) + Due.on("p", "s", 5, 10));
    int[][] meets = {{0, 1, 0}, {0, 2, 1}, {0, 3, 0}, {0, 4, 1}, {0, 5, 1}, {3, 4, 1}, {1, 6, 0},
        {0, 7, 1}, {2, 6, 0}};
    for (int[] m : meets) {
      Due.is(x, "meet(" + m[0] + ", " + m[1] + ")", x.meet(m[0], m[1]), m[2], 0);
      Due.is(x, "meet(" + m[1] + ", " + m[0] + ")", x.meet(m[1], m[0]), m[2], 0);
    }
    Due.says("meet is of THE EVENING");
    x.swap(0, 1);
    Due.is("meet(3, 6) one behind the other", x.meet(3, 6), 0);
    Due.is("meet(3, 4) in one scene", x.meet(3, 4), 1);
    Due.says("meet: NONE: 1 (the first, the other, both)");
    Due.is(x, "meet(8, 0)", x.meet(8, 0), -1, 1);
    Due.is(x, "meet(0, 8)", x.meet(0, 8), -1, 1);
    for (int k : NO_SUCH) {
      Due.is(x, "meet(" + k + ", 0)", x.meet(k, 0), -1, 1);
      Due.is(x, "meet(0, " + k + ")", x.meet(0, k), -1, 1);
      Due.is(x, "meet(" + k + ", " + k + ")", x.meet(k, k), -1, 1);
    }
  }

  // ------------------------------------------------------------- CHANGE, NEED

  private static void change() {
    Due.says("CHANGE from a part to another one: 0 if they are one");
    OnePlays x = Due.told(Due.head(99, 0, 1) + Due.part("a", "beard 99", 9, 99, 99)
        + Due.part("b", "beard 99", 9, 99, 99) + Due.part("c", "beard 7", 8, 10, 20)
        + Due.part("d", "plain", 0, 30, 40) + Due.part("e", "puppet", 0, 0, 0)
        + Due.part("f", "dead", 1, 50, 60) + Due.part("g", "beard 0", 1, 3, 5)
        + Due.scene("s", 1));
    for (int p = 0; p < 7; p++) {
      Due.is(x, "change(" + p + ", " + p + ")", x.change(p, p), 0, 0);
    }
    Due.says("CHANGE: if the other one's coat is higher: its don (with a beard: so much more)");
    Due.is(x, "coat 8 to 9", x.change(2, 0), 99 + 99, 0);
    Due.is(x, "coat 0 to 8", x.change(3, 2), 10 + 7, 0);
    Due.is(x, "coat 0 to 1, beard 0", x.change(3, 6), 3, 0);
    Due.is(x, "coat 0 to 1, dead", x.change(4, 5), 50, 0);
    Due.says("CHANGE: if lower: the first one's doff");
    Due.is(x, "coat 9 to 8", x.change(0, 2), 99, 0);
    Due.is(x, "coat 1 to 0", x.change(5, 4), 60, 0);
    Due.is(x, "coat 8 to 0", x.change(2, 4), 20, 0);
    Due.says("CHANGE: if they are alike: both");
    Due.is(x, "coat 9 to 9, the most", x.change(0, 1), 99 + 99 + 99, 0);
    Due.is(x, "coat 0 to 0", x.change(3, 4), 40, 0);
    Due.is(x, "coat 0 to 0 the other way", x.change(4, 3), 30, 0);
    Due.is(x, "coat 1 to 1, beard 0", x.change(5, 6), 60 + 3, 0);
    Due.is(x, "coat 1 to 1, from the beard", x.change(6, 5), 5 + 50, 0);
    Due.says("change: NONE: 1 (the first, the other, both)");
    Due.is(x, "change(7, 0)", x.change(7, 0), -1, 1);
    Due.is(x, "change(0, 7)", x.change(0, 7), -1, 1);
    for (int p : NO_SUCH) {
      Due.is(x, "change(" + p + ", 0)", x.change(p, 0), -1, 1);
      Due.is(x, "change(0, " + p + ")", x.change(0, p), -1, 1);
      Due.is(x, "change(" + p + ", " + p + ")", x.change(p, p), -1, 1);
    }
  }

  private static void need() {
    Due.says("NEED: CHANGE of their parts, and walk, if the first goes off elsewhere than the"
        + " other comes in");
    String[] sides = {"left left", "left right", "right left", "right right"};
    for (int walk = 0; walk <= 99; walk += 99) {
      StringBuilder text = new StringBuilder(Due.head(walk, 0, 1)
          + Due.part("a", "plain", 1, 5, 7) + Due.part("b", "beard 2", 1, 3, 4) + Due.scene("s", 9));
      for (String side : sides) {
        text.append(Due.on("a", "s", 0, 9, side)).append(Due.on("b", "s", 1, 2, side));
      }
      OnePlays x = Due.told(text.toString());
      for (int k = 0; k < 8; k++) {
        for (int l = 0; l < 8; l++) {
          boolean walks = k / 2 % 2 != l / 2 / 2;
          int change = k % 2 == l % 2 ? 0 : k % 2 == 0 ? 7 + 3 + 2 : 4 + 5;
          Due.is(x, "need(" + k + ", " + l + ")", x.need(k, l), change + (walks ? walk : 0), 0);
        }
      }
      Due.is(x, "need(8, 0)", x.need(8, 0), -1, 1);
      Due.is(x, "need(0, 8)", x.need(0, 8), -1, 1);
    }
    Due.says("need: NONE: 1 (the first, the other, both)");
    OnePlays y = Due.told(Due.head(1, 0, 1) + PLAIN + Due.scene("s", 9) + Due.on("p", "s", 0, 9));
    Due.is(y, "need(0, 0)", y.need(0, 0), 0, 0);
    for (int k : NO_SUCH) {
      Due.is(y, "need(" + k + ", 0)", y.need(k, 0), -1, 1);
      Due.is(y, "need(0, " + k + ")", y.need(0, k), -1, 1);
      Due.is(y, "need(" + k + ", " + k + ")", y.need(k, k), -1, 1);
    }
  }

  // ------------------------------------------------------------- BODILY

  private static final String BEHIND = "left left behind";

  private static void bodily() {
    Due.says("those behind need no coat; of a puppet they need none; all others need him: BODILY"
        + " (CUT ones aside)");
    String[] kinds = {"plain", "beard 0", "puppet", "dead"};
    for (int kind = 0; kind < 4; kind++) {
      OnePlays x = Due.told(Due.head(0, 0, 1) + Due.part("p", kinds[kind], 0, 0, 0)
          + Due.scene("s", 9) + Due.on("p", "s", 0, 9) + Due.on("p", "s", 0, 9, BEHIND));
      Due.is(x, "bodily(0) of " + kinds[kind], x.bodily(0), kind == 2 ? 0 : 1, 0);
      Due.is(x, "bodily(1) of " + kinds[kind], x.bodily(1), 0, 0);
      x.cut(0, true);
      Due.is(x, "bodily(0) CUT", x.bodily(0), 0, 0);
      x.cut(1, true);
      Due.is(x, "bodily(1) CUT", x.bodily(1), 0, 0);
      x.cut(0, false);
      Due.is(x, "bodily(0) not CUT any more", x.bodily(0), kind == 2 ? 0 : 1, 0);
    }
    Due.says("bodily: NONE: 1 (one too small, one too large)");
    OnePlays y = Due.told(Due.head(0, 0, 1) + PLAIN + Due.scene("s", 9)
        + Due.times(14, Due.on("p", "s", 0, 9)));
    Due.is(y, "bodily(13)", y.bodily(13), 1, 0);
    Due.is(y, "bodily(14)", y.bodily(14), -1, 1);
    for (int k : NO_SUCH) {
      Due.is(y, "bodily(" + k + ")", y.bodily(k), -1, 1);
    }
  }

  private static void bodilyRow(OnePlays x, int... due) {
    for (int k = 0; k < due.length; k++) {
      Due.is(x, "bodily(" + k + ")", x.bodily(k), due[k], 0);
    }
  }

  private static void dead() {
    String head = Due.head(0, 0, 1) + Due.part("d", "dead", 0, 0, 0)
        + Due.part("e", "dead", 0, 0, 0) + Due.scene("s", 20) + Due.scene("t", 20);
    Due.says("of a dead one only the first, in time, needs him");
    OnePlays x = Due.told(head + Due.on("d", "t", 0, 1) + Due.on("d", "s", 19, 20)
        + Due.on("d", "s", 18, 20) + Due.on("e", "t", 19, 20));
    bodilyRow(x, 0, 0, 1, 1);
    x.swap(0, 1);
    bodilyRow(x, 1, 0, 0, 1);
    Due.says("then by numbers");
    OnePlays y = Due.told(head + Due.on("d", "s", 5, 9) + Due.on("d", "s", 5, 6)
        + Due.on("d", "s", 6, 7));
    bodilyRow(y, 1, 0, 0);
    Due.says("the first that is neither behind nor CUT");
    OnePlays z = Due.told(head + Due.on("d", "s", 0, 1, BEHIND) + Due.on("d", "s", 1, 2)
        + Due.on("d", "s", 2, 3) + Due.on("d", "s", 3, 4, BEHIND) + Due.on("e", "s", 0, 1));
    bodilyRow(z, 0, 1, 0, 0, 1);
    z.cut(1, true);
    bodilyRow(z, 0, 0, 1, 0, 1);
    z.cut(2, true);
    bodilyRow(z, 0, 0, 0, 0, 1);
    z.cut(1, false);
    bodilyRow(z, 0, 1, 0, 0, 1);
    Due.says("the others: a dummy, nobody: whom it may MEET, and no NEED of it");
    OnePlays w = Due.told(Due.head(9, 0, 1) + Due.part("d", "dead", 0, 99, 99)
        + Due.part("p", "plain", 0, 9, 9) + Due.part("q", "puppet", 0, 0, 0)
        + Due.part("v", "plain", 0, 0, 0) + Due.scene("s", 500) + Due.on("d", "s", 0, 1)
        + Due.on("p", "s", 200, 400) + Due.on("d", "s", 150, 450, "right right")
        + Due.on("d", "s", 160, 450) + Due.on("q", "s", 170, 440)
        + Due.on("v", "s", 400, 460, BEHIND));
    Due.is("could() of all", w.could(15), 1);
    w.cut(0, true);
    Due.is("could() with a dummy become BODILY", w.could(15), 0);
    Due.is("could() of the dead one and the puppet then", w.could(5), 1);
    Due.is("could() of the dead one and the one behind then", w.could(9), 0);
    Due.is("could() of the dead one and the plain one then", w.could(3), 0);
  }

  // ------------------------------------------------------------- CAN

  /** Whether one can play p and q, of which the second appearance begins at a second. */
  private static int both(String kinds, String first, String second, int second1) {
    String[] kind = kinds.split(",");
    OnePlays x = Due.told(Due.head(0, 0, 1) + Due.part("p", kind[0], 0, 0, 0)
        + Due.part("q", kind[1], 0, 0, 0) + Due.scene("s", 99)
        + Due.on("p", "s", 10, 20, first) + Due.on("q", "s", second1, second1 + 10, second));
    Due.is("could(3) and can(0)", x.could(3), x.can(0));
    return x.could(3);
  }

  private static void apart(String kinds, String first, String second) {
    String what = kinds + " " + first + ", " + second;
    Due.is("one that begins at the end: " + what, both(kinds, first, second, 20), 1);
    Due.is("a second ahead of the end: " + what, both(kinds, first, second, 19), 0);
    Due.is("one that ends at the begin: " + what, both(kinds, first, second, 0), 1);
    Due.is("a second behind the begin: " + what, both(kinds, first, second, 1), 0);
    Due.is("at once: " + what, both(kinds, first, second, 10), 0);
  }

  private static void mayMeet(String kinds, String first, String second) {
    for (int at = 1; at < 20; at++) {
      Due.is("may MEET: " + kinds + " " + first + ", " + second + " at " + at,
          both(kinds, first, second, at), 1);
    }
  }

  private static void canBehind() {
    String on = "left left";
    Due.says("He CAN if no two that are behind MEET");
    apart("plain,plain", BEHIND, BEHIND);
    Due.says("no two that are behind MEET: behind ones are behind, whatever the part");
    apart("puppet,puppet", BEHIND, BEHIND);
    apart("plain,puppet", BEHIND, BEHIND);
    apart("dead,beard 9", BEHIND, BEHIND);
    Due.says("none behind MEETS one that is BODILY");
    apart("plain,plain", BEHIND, on);
    apart("plain,plain", on, BEHIND);
    apart("dead,puppet", on, BEHIND);
    apart("puppet,beard 9", BEHIND, on);
    Due.says("a puppet may MEET one behind");
    mayMeet("puppet,plain", on, BEHIND);
    mayMeet("plain,puppet", BEHIND, on);
    mayMeet("puppet,puppet", on, BEHIND);
    Due.says("those behind need no coat and no walk");
    OnePlays x = Due.told(Due.head(99, 0, 1) + Due.part("p", "beard 99", 9, 99, 99)
        + Due.part("q", "beard 99", 9, 99, 99) + Due.scene("s", 9) + Due.on("p", "s", 0, 3)
        + Due.on("q", "s", 3, 6, "right right behind") + Due.on("p", "s", 6, 9));
    Due.is("could(3)", x.could(3), 1);
  }

  private static void canPuppets() {
    String on = "left left";
    Due.says("no two of puppets MEET");
    apart("puppet,puppet", on, on);
    Due.says("a puppet may MEET one that is BODILY");
    mayMeet("puppet,plain", on, on);
    mayMeet("beard 9,puppet", on, on);
    mayMeet("puppet,dead", on, on);
    Due.says("of a puppet they need no coat and no walk");
    OnePlays x = Due.told(Due.head(99, 0, 1) + Due.part("p", "puppet", 9, 99, 99)
        + Due.part("q", "puppet", 9, 99, 99) + Due.part("r", "plain", 9, 99, 99)
        + Due.scene("s", 9) + Due.on("p", "s", 0, 3, "left right") + Due.on("q", "s", 3, 6)
        + Due.on("r", "s", 1, 5, "right left") + Due.on("p", "s", 6, 9, "right right"));
    Due.is("could(7)", x.could(7), 1);
    Due.says("no two of puppets MEET, of one puppet neither");
    OnePlays y = Due.told(Due.head(0, 0, 1) + Due.part("p", "puppet", 0, 0, 0)
        + Due.scene("s", 9) + Due.on("p", "s", 0, 5) + Due.on("p", "s", 4, 9));
    Due.is("could(1)", y.could(1), 0);
  }

  private static void canBodily() {
    String on = "left left";
    Due.says("no two BODILY MEET");
    apart("plain,plain", on, on);
    apart("plain,beard 0", on, on);
    apart("dead,plain", on, on);
    apart("dead,dead", on, on);
    Due.says("no two BODILY MEET, also not one in another's time with one between them");
    OnePlays x = Due.told(Due.head(0, 0, 1) + PLAIN + Due.part("q", "plain", 0, 0, 0)
        + Due.part("r", "plain", 0, 0, 0) + Due.scene("s", 99) + Due.on("p", "s", 0, 50)
        + Due.on("q", "s", 50, 60) + Due.on("r", "s", 49, 50));
    Due.is("could(3)", x.could(3), 1);
    Due.is("could(6)", x.could(6), 1);
    Due.is("could(5)", x.could(5), 0);
    Due.is("could(7)", x.could(7), 0);
    Due.says("CUT ones aren't there");
    x.cut(2, true);
    Due.is("could(7) with it CUT", x.could(7), 1);
    x.cut(2, false);
    x.cut(0, true);
    Due.is("could(7) with the other CUT", x.could(7), 1);
    x.cut(0, false);
    Due.is("could(7) with none CUT", x.could(7), 0);
  }

  /** Whether b can come so many seconds behind a's end. */
  private static int behind(int coat, int wait, String in) {
    OnePlays x = Due.told(Due.head(7, 0, 1) + Due.part("a", "beard 50", 5, 60, 11)
        + Due.part("b", "beard 2", coat, 3, 70) + Due.scene("s", 200)
        + Due.on("a", "s", 0, 10, "right left") + Due.on("b", "s", 10 + wait, 100, in));
    Due.is("can(0) and could(3)", x.can(0), x.could(3));
    return x.can(0);
  }

  private static void canNeed() {
    Due.says("each BODILY one begins no sooner than NEED behind the end of the BODILY one ahead");
    int[][] needs = {{6, 5}, {9, 5}, {4, 11}, {0, 11}, {5, 16}};
    for (int[] n : needs) {
      Due.is("coat " + n[0] + ", NEED", behind(n[0], n[1], "left right"), 1);
      Due.is("coat " + n[0] + ", a second less", behind(n[0], n[1] - 1, "left right"), 0);
      Due.is("coat " + n[0] + ", NEED with walk", behind(n[0], n[1] + 7, "right right"), 1);
      Due.is("coat " + n[0] + ", a second less", behind(n[0], n[1] + 6, "right right"), 0);
    }
    Due.says("NEED 0 behind the end: one and the same part, sides alike");
    OnePlays x = Due.told(Due.head(1, 0, 1) + Due.part("a", "plain", 0, 99, 99)
        + Due.scene("s", 9) + Due.scene("t", 9) + Due.on("a", "s", 0, 9, "left right")
        + Due.on("a", "t", 0, 9, "right left"));
    Due.is("can(0)", x.can(0), 1);
    Due.is("slack(0)", x.slack(0), 0);
    x.swap(0, 1);
    Due.is("can(0) in the other ORDER", x.can(0), 1);
    Due.says("NEED of the BODILY one ahead of it, in time, alone");
    // From a to c it takes 40; by b's coat over it 1 and 1.
    OnePlays y = Due.told(Due.head(0, 0, 1) + Due.part("a", "plain", 1, 20, 20)
        + Due.part("b", "plain", 2, 1, 1) + Due.part("c", "plain", 1, 20, 20) + Due.scene("s", 99)
        + Due.on("c", "s", 13, 20) + Due.on("a", "s", 0, 10) + Due.on("b", "s", 11, 12));
    Due.is("could() of a and c", y.could(5), 0);
    Due.is("could() of all", y.could(7), 1);
    y.cut(2, true);
    Due.is("could() of all with b CUT", y.could(7), 0);
    Due.says("the gap counts: a second too few, enough");
    for (int gap = 9; gap <= 10; gap++) {
      OnePlays z = Due.told(Due.head(0, gap, 1) + Due.part("a", "plain", 1, 0, 5)
          + Due.part("b", "plain", 1, 5, 0) + Due.scene("s", 9) + Due.scene("t", 9)
          + Due.on("a", "s", 0, 9) + Due.on("b", "t", 0, 9));
      Due.is("can(0) at gap " + gap, z.can(0), gap - 9);
      Due.is("slack(0) at gap " + gap, z.slack(0), gap - 10);
    }
  }

  private static void players() {
    Due.says("can: Whether a player (0 .. 6) CAN; one of no part CAN");
    OnePlays x = Due.told(Due.head(0, 0, 1) + PLAIN + Due.scene("s", 9) + Due.on("p", "s", 0, 5)
        + Due.on("p", "s", 4, 9));
    Due.is(x, "can(0)", x.can(0), 0, 0);
    for (int player = 1; player <= 6; player++) {
      Due.is(x, "can(" + player + ")", x.can(player), 1, 0);
    }
    x.cast(0, 6);
    Due.is(x, "can(0)", x.can(0), 1, 0);
    Due.is(x, "can(6)", x.can(6), 0, 0);
    x.cut(0, true);
    Due.is(x, "can(6) with one CUT", x.can(6), 1, 0);
    Due.says("can: NONE: 1 (player one too small, one too large)");
    Due.is(x, "can(7)", x.can(7), -1, 1);
    for (int player : NO_SUCH) {
      Due.is(x, "can(" + player + ")", x.can(player), -1, 1);
    }
  }

  private static void could() {
    Due.says("could: some parts (bits); of none he could");
    StringBuilder text = new StringBuilder(Due.head(0, 0, 1) + Due.scene("s", 70));
    for (int p = 0; p < 7; p++) {
      text.append(Due.part("p" + (char) ('a' + p), "plain", 0, 0, 0));
      text.append(Due.on("p" + (char) ('a' + p), "s", 10 * p, 10 * p + 10));
    }
    OnePlays x = Due.told(text.toString());
    Due.is(x, "could(0)", x.could(0), 1, 0);
    Due.is(x, "could(127)", x.could(127), 1, 0);
    Due.is(x, "could(64)", x.could(64), 1, 0);
    Due.says("could: 2 (bits of none such)");
    int[] none = {128, 129, 255, 256, -1, -128, LEAST, MOST, LEAST + 1, 1 << 30};
    for (int bits : none) {
      Due.is(x, "could(" + bits + ")", x.could(bits), -1, 2);
    }
    OnePlays one = Due.told(Due.head(0, 0, 1) + PLAIN + Due.scene("s", 9));
    Due.is(one, "could(1)", one.could(1), 1, 0);
    Due.is(one, "could(2)", one.could(2), -1, 2);
    Due.is(one, "could(3)", one.could(3), -1, 2);
    Due.says("could: NONE: 1 (no PIECE), ahead of 2");
    OnePlays no = new OnePlays();
    Due.is(no, "could(0)", no.could(0), -1, 1);
    Due.is(no, "could(-1)", no.could(-1), -1, 1);
    Due.is(no, "could(1)", no.could(1), -1, 1);
  }

  private static void troubled() {
    Due.says("troubled: -2 if there is none (no APPEARANCE, all fine, all CUT)");
    OnePlays none = Due.told(Due.head(0, 0, 1) + PLAIN + Due.scene("s", 9));
    Due.is(none, "troubled()", none.troubled(), -2, 0);
    OnePlays x = Due.told(Due.head(0, 0, 1) + PLAIN + Due.part("q", "plain", 0, 1, 0)
        + Due.scene("s", 99) + Due.on("p", "s", 50, 60) + Due.on("q", "s", 20, 30)
        + Due.on("p", "s", 20, 29) + Due.on("p", "s", 10, 21) + Due.on("q", "s", 61, 62));
    Due.says("TROUBLED: the first in time (then by numbers) that with those ahead of it can't be so");
    // In time: 3 (10), 1 (20), 2 (20), 0 (50), 4 (61, just so).
    Due.is(x, "troubled()", x.troubled(), 1, 0);
    x.cast(1, 1);
    Due.is(x, "troubled() with q another's", x.troubled(), 2, 0);
    x.cut(2, true);
    Due.is(x, "troubled() with it CUT", x.troubled(), -2, 0);
    x.cast(1, 0);
    Due.is(x, "troubled() with q his again", x.troubled(), 1, 0);
    x.cut(3, true);
    Due.is(x, "troubled() with the one ahead CUT", x.troubled(), -2, 0);
    x.cut(2, false);
    Due.is(x, "troubled() of one second, by numbers", x.troubled(), 2, 0);
    Due.says("TROUBLED: with those ahead of it alone, not with the first by number that comes later");
    OnePlays late = Due.told(Due.head(0, 0, 1) + PLAIN + Due.scene("s", 9) + Due.on("p", "s", 4, 6)
        + Due.on("p", "s", 2, 5) + Due.on("p", "s", 0, 1));
    Due.is(late, "troubled()", late.troubled(), 0, 0);
    Due.says("TROUBLED: NEED of the one ahead counts, a second more does");
    OnePlays y = Due.told(Due.head(0, 0, 1) + PLAIN + Due.part("q", "plain", 0, 2, 0)
        + Due.scene("s", 99) + Due.on("p", "s", 50, 60) + Due.on("q", "s", 61, 62)
        + Due.on("q", "s", 62, 70));
    Due.is(y, "troubled()", y.troubled(), 1, 0);
    y.cut(1, true);
    Due.is(y, "troubled() of the next", y.troubled(), -2, 0);
    Due.says("TROUBLED: those behind and puppets, too");
    OnePlays z = Due.told(Due.head(0, 0, 1) + PLAIN + Due.part("q", "puppet", 0, 2, 0)
        + Due.scene("s", 99) + Due.on("q", "s", 5, 60) + Due.on("p", "s", 6, 20, BEHIND)
        + Due.on("q", "s", 59, 70) + Due.on("p", "s", 19, 30));
    Due.is(z, "troubled()", z.troubled(), 3, 0);
    z.cut(3, true);
    Due.is(z, "troubled()", z.troubled(), 2, 0);
    OnePlays no = new OnePlays();
    Due.says("troubled: NONE: 1 (no PIECE)");
    Due.is(no, "troubled()", no.troubled(), -1, 1);
  }

  // ------------------------------------------------------------- SLACK, sweat

  private static void slack() {
    Due.says("SLACK: 999 without: of no part, no APPEARANCE, one, none that is BODILY, all CUT");
    OnePlays x = Due.told(Due.head(0, 0, 1) + PLAIN + Due.part("q", "puppet", 0, 0, 0)
        + Due.part("r", "plain", 0, 0, 0) + Due.scene("s", 99) + Due.on("p", "s", 0, 9)
        + Due.on("q", "s", 0, 9) + Due.on("q", "s", 20, 29) + Due.on("p", "s", 30, 40, BEHIND));
    Due.is(x, "slack(0) of one BODILY", x.slack(0), 999, 0);
    Due.is(x, "slack(6) of no part", x.slack(6), 999, 0);
    x.cast(0, 2);
    Due.is(x, "slack(0) of puppets", x.slack(0), 999, 0);
    Due.is(x, "slack(2) of one and one behind", x.slack(2), 999, 0);
    x.cut(0, true);
    Due.is(x, "slack(2) with it CUT", x.slack(2), 999, 0);
    Due.says("SLACK: how many seconds more than NEED: 0, 1 and one less; below 0 if it can't be");
    for (int wait = 0; wait <= 7; wait++) {
      OnePlays y = Due.told(Due.head(2, 0, 1) + Due.part("a", "plain", 0, 0, 1)
          + Due.part("b", "plain", 0, 2, 0) + Due.scene("s", 99) + Due.on("a", "s", 0, 9)
          + Due.on("b", "s", 9 + wait, 50, "right left"));
      Due.is(y, "slack(0) at " + wait, y.slack(0), wait - 5, 0);
      Due.is("can(0) at " + wait, y.can(0), wait >= 5 ? 1 : 0);
    }
    Due.says("SLACK: MEET: less than NEED, too");
    OnePlays z = Due.told(Due.head(99, 0, 1) + Due.part("a", "plain", 0, 99, 99)
        + Due.part("b", "beard 99", 0, 99, 99) + Due.scene("s", 500) + Due.on("a", "s", 0, 500)
        + Due.on("b", "s", 0, 1, "right left"));
    Due.is(z, "slack(0) of the least", z.slack(0), -500 - 99 - 99 - 99 - 99, 0);
    Due.says("SLACK: the least, between two one behind the other alone");
    OnePlays w = Due.told(Due.head(0, 0, 1) + PLAIN + Due.scene("s", 500) + Due.on("p", "s", 0, 10)
        + Due.on("p", "s", 17, 20) + Due.on("p", "s", 25, 30) + Due.on("p", "s", 40, 41));
    Due.is(w, "slack(0)", w.slack(0), 5, 0);
    w.cut(2, true);
    Due.is(w, "slack(0) with one CUT", w.slack(0), 7, 0);
    w.cut(1, true);
    Due.is(w, "slack(0) with two CUT", w.slack(0), 30, 0);
    Due.says("SLACK of 998, 999, 1,000 seconds is as many");
    for (int more = 998; more <= 1000; more++) {
      OnePlays v = Due.told(Due.head(0, 0, 1) + PLAIN + Due.scene("s", 500) + Due.scene("t", 500)
          + Due.scene("u", 9) + Due.on("p", "s", 0, 2) + Due.on("p", "u", more - 998, 9)
          + Due.on("p", "t", 0, 1, BEHIND));
      Due.is(v, "slack(0) of " + more, v.slack(0), more, 0);
    }
    Due.says("slack: -1,000: 1 (player 0 .. 6)");
    Due.is(w, "slack(7)", w.slack(7), -1000, 1);
    for (int player : NO_SUCH) {
      Due.is(w, "slack(" + player + ")", w.slack(player), -1000, 1);
    }
    OnePlays no = new OnePlays();
    Due.is(no, "slack(0) without a PIECE", no.slack(0), -1000, 1);
  }

  private static void sweatRow(OnePlays x, int player, int... due) {
    for (int what = 0; what <= 5; what++) {
      Due.is(x, "sweat(" + player + ", " + what + ")", x.sweat(player, what), due[what], 0);
    }
  }

  private static void sweat() {
    Due.says("sweat of a player without a part, and with one APPEARANCE: no walk, no CHANGE");
    OnePlays x = Due.told(Due.head(5, 0, 1) + Due.part("a", "plain", 1, 3, 4)
        + Due.part("b", "beard 2", 1, 5, 6) + Due.part("c", "puppet", 1, 5, 6)
        + Due.part("d", "dead", 0, 5, 6) + Due.scene("s", 500) + Due.on("a", "s", 0, 10, "left right"));
    sweatRow(x, 0, 10, 0, 0, 0, 0, 0);
    sweatRow(x, 1, 0, 0, 0, 0, 0, 0);
    sweatRow(x, 6, 0, 0, 0, 0, 0, 0);
    Due.says("sweat: 0 BODILY, 1 walks, 2 CHANGES, 3 their seconds, 4 behind, 5 puppets not behind");
    OnePlays y = Due.told(Due.head(5, 0, 1) + Due.part("a", "plain", 1, 3, 4)
        + Due.part("b", "beard 2", 1, 5, 6) + Due.part("c", "puppet", 1, 5, 6)
        + Due.part("d", "dead", 0, 5, 6) + Due.scene("s", 500)
        + Due.on("a", "s", 0, 10, "left right") + Due.on("a", "s", 20, 31, "left right")
        + Due.on("b", "s", 50, 62, "right left") + Due.on("d", "s", 100, 113)
        + Due.on("d", "s", 150, 250, "right right") + Due.on("c", "s", 0, 100, "right right")
        + Due.on("c", "s", 300, 303, BEHIND) + Due.on("a", "s", 310, 317, BEHIND)
        + Due.on("a", "s", 400, 401));
    // Walks: a to a; CHANGES: a to b (both), b to d (off), d to a (on).
    sweatRow(y, 0, 10 + 11 + 12 + 13 + 1, 1, 3, 4 + 5 + 2 + 6 + 3, 3 + 7, 100);
    y.cut(1, true);
    // Without the second there is no walk; a to b are as before.
    sweatRow(y, 0, 10 + 12 + 13 + 1, 0, 3, 4 + 5 + 2 + 6 + 3, 3 + 7, 100);
    y.cut(3, true);
    // The dummy needs him now: from b's left to its right, and from its right to a's left.
    sweatRow(y, 0, 10 + 12 + 100 + 1, 2, 3, 4 + 5 + 2 + 6 + 3, 3 + 7, 100);
    y.cast(2, 1);
    sweatRow(y, 0, 10 + 12 + 100 + 1, 2, 3, 4 + 5 + 2 + 6 + 3, 7, 0);
    sweatRow(y, 1, 0, 0, 0, 0, 3, 100);
    Due.says("sweat: also of ones that can't be");
    OnePlays z = Due.told(Due.head(5, 0, 1) + PLAIN + Due.scene("s", 500)
        + Due.times(14, Due.on("p", "s", 0, 500, "left right")));
    sweatRow(z, 0, 14 * 500, 13, 0, 0, 0, 0);
    Due.says("sweat: NONE: 1 (player or what one too small, one too large)");
    Due.is(y, "sweat(7, 0)", y.sweat(7, 0), -1, 1);
    Due.is(y, "sweat(0, 6)", y.sweat(0, 6), -1, 1);
    Due.is(y, "sweat(7, 6)", y.sweat(7, 6), -1, 1);
    for (int no : NO_SUCH) {
      Due.is(y, "sweat(" + no + ", 0)", y.sweat(no, 0), -1, 1);
      Due.is(y, "sweat(0, " + no + ")", y.sweat(0, no), -1, 1);
    }
  }
}

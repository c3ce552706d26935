/** The boundaries that promises 32 to 46 name: those seen, ACTS, UNDO, REDO, IMAGES, what is told, TROUBLE. */
public final class ActsBoundaryTest {
  private static final int LEAST = Integer.MIN_VALUE;
  private static final int MOST = Integer.MAX_VALUE;
  private static final int[] NO_SUCH = {-1, 32, 33, 64, 256, 65536, -32, -31, LEAST, LEAST + 1, MOST};
  /** Three parts, three scenes (the first ahead of the last), four appearances, two seen. */
  private static final String PLAY = Due.head(2, 1, 2) + Due.part("a", "plain", 1, 2, 3)
      + Due.part("b", "beard 4", 2, 5, 6) + Due.part("c", "puppet", 0, 0, 0) + Due.scene("s", 10)
      + Due.scene("t", 20) + Due.scene("u", 30) + Due.after("s", "u") + Due.on("a", "s", 0, 5)
      + Due.on("b", "t", 0, 9) + Due.on("c", "u", 1, 8) + Due.on("a", "u", 9, 30)
      + Due.saw("a", 1) + Due.saw("b", 9);

  public static void main(String[] args) {
    same();
    sameSeconds();
    must();
    betrayed();
    swap();
    cast();
    cut();
    undoAtFirst();
    undoTwelve();
    redo();
    undoEachAct();
    images();
    back();
    backAndActs();
    part();
    on();
    led();
    size();
    Due.end("boundaries of those seen and of acts");
  }

  // ------------------------------------------------------------- what was seen

  private static String seven() {
    StringBuilder text = new StringBuilder(Due.head(1, 0, 1) + Due.part("a", "plain", 1, 5, 5)
        + Due.scene("s", 1));
    for (int i = 0; i < 7; i++) {
      text.append(Due.saw("a", 100 * i));
    }
    return text.toString();
  }

  private static void same() {
    Due.says("same: Whether one can have been two of those seen: 1, 0. NONE: 1 (unlike)");
    OnePlays x = Due.told(seven());
    for (int i = 0; i < 7; i++) {
      for (int j = 0; j < 7; j++) {
        Due.is(x, "same(" + i + ", " + j + ")", x.same(i, j), i == j ? -1 : 1, i == j ? 1 : 0);
      }
    }
    Due.says("same: NONE: 1 (one too small, one too large)");
    Due.is(x, "same(7, 0)", x.same(7, 0), -1, 1);
    Due.is(x, "same(0, 7)", x.same(0, 7), -1, 1);
    Due.is(x, "same(7, 7)", x.same(7, 7), -1, 1);
    for (int i : NO_SUCH) {
      Due.is(x, "same(" + i + ", 0)", x.same(i, 0), -1, 1);
      Due.is(x, "same(0, " + i + ")", x.same(0, i), -1, 1);
    }
    OnePlays none = Due.told(PLAY.substring(0, PLAY.indexOf("saw")));
    Due.is(none, "same(0, 1) of none", none.same(0, 1), -1, 1);
    OnePlays no = new OnePlays();
    Due.is(no, "same(0, 1) without a PIECE", no.same(0, 1), -1, 1);
  }

  private static int both(String first, String second) {
    OnePlays x = Due.told(Due.head(7, 0, 1) + Due.part("a", "plain", 1, 10, 20)
        + Due.part("b", "beard 3", 1, 30, 40) + Due.part("c", "dead", 5, 50, 60)
        + Due.part("d", "puppet", 5, 1, 2) + Due.scene("s", 1) + first + second);
    int one = x.same(0, 1);
    Due.is("same(1, 0) as same(0, 1)", x.same(1, 0), one);
    Due.is("must()", x.must(), 2 - one);
    Due.is("betrayed()", x.betrayed(), one == 1 ? -2 : 1);
    return one;
  }

  /** From the one seen at 100 to the other: so many seconds are enough, one less isn't. */
  private static void takes(String part, String other, int change) {
    String what = part + " to " + other;
    String first = Due.saw(part, 100);
    Due.is(what, both(first, Due.saw(other, 100 + change)), 1);
    Due.is(what + " with a walk", both(first, Due.saw(other, 107 + change, "right")), 1);
    Due.is(what + " with a walk, less", both(first, Due.saw(other, 106 + change, "right")), 0);
    if (change > 0) {
      Due.is(what + ", a second less", both(first, Due.saw(other, 99 + change)), 0);
      Due.is(what + " told first", both(Due.saw(other, 99 + change), first), 0);
    }
    Due.is(what + " told first", both(Due.saw(other, 101 + change), first), 1);
  }

  private static void sameSeconds() {
    Due.says("SEEN: each is no sooner than CHANGE and walk, if SIDES are unlike, behind the one ahead");
    takes("a", "a", 0);
    takes("a", "b", 20 + 33);
    takes("b", "a", 40 + 10);
    takes("a", "c", 50);
    takes("c", "a", 60);
    takes("c", "d", 61);
    takes("d", "c", 52);
    takes("d", "d", 0);
    Due.says("SEEN: one behind the other in time (of one second by numbers)");
    OnePlays x = Due.told(Due.head(0, 0, 1) + Due.part("a", "plain", 1, 9, 0)
        + Due.part("b", "plain", 2, 0, 9) + Due.scene("s", 1) + Due.saw("a", 5) + Due.saw("b", 5)
        + Due.saw("a", 5) + Due.saw("b", 0));
    Due.is("a, then b", x.same(0, 1), 1);
    Due.is("b, then a", x.same(1, 2), 0);
    Due.is("a twice", x.same(0, 2), 1);
    Due.is("b at 0, a at 5", x.same(0, 3), 0);
    Due.is("b at 0, b at 5", x.same(1, 3), 1);
    Due.says("SEEN: in time, in whatever row they are told");
    int[][] rows = {{5, 9, 1, 7, 3}, {1, 3, 5, 7, 9}, {9, 7, 5, 3, 1}, {3, 1, 9, 5, 7}, {5, 1, 3, 9, 7}};
    for (int[] row : rows) {
      // A coat higher each time, in no time; back it takes too long.
      StringBuilder text = new StringBuilder(Due.head(0, 0, 1) + Due.scene("s", 1));
      for (int time : row) {
        text.append(Due.part("p" + (char) ('a' + time), "plain", time, 0, 99));
      }
      for (int time : row) {
        text.append(Due.saw("p" + (char) ('a' + time), time));
      }
      OnePlays y = Due.told(text.toString());
      Due.is(y, "must()", y.must(), 1, 0);
      Due.is(y, "betrayed()", y.betrayed(), -2, 0);
    }
    Due.says("SEEN: seconds 0 and 999");
    Due.is("0 and 999", both(Due.saw("a", 999), Due.saw("b", 0)), 1);
    Due.is("999 and 999", both(Due.saw("a", 999), Due.saw("a", 999)), 1);
    Due.is("999 and 999, unlike", both(Due.saw("a", 999), Due.saw("d", 999)), 0);
  }

  private static void must() {
    Due.says("must: MUST (0 without any)");
    OnePlays none = Due.told(Due.head(0, 0, 1) + Due.part("p", "plain", 0, 0, 0) + Due.scene("s", 1));
    Due.is(none, "must()", none.must(), 0, 0);
    Due.says("MUST: the fewest players that can have been all: of 1 up to 7");
    for (int n = 1; n <= 7; n++) {
      StringBuilder text = new StringBuilder(Due.head(0, 0, 1) + Due.scene("s", 1));
      StringBuilder row = new StringBuilder(text);
      for (int p = 0; p < n; p++) {
        String part = Due.part("p" + (char) ('a' + p), "plain", 1, 1, 0);
        text.append(part).append(Due.saw("p" + (char) ('a' + p), 999));
        row.append(part).append(Due.saw("p" + (char) ('a' + p), 10 - p));
      }
      OnePlays x = Due.told(text.toString());
      Due.is(x, "must() of " + n + " at once", x.must(), n, 0);
      OnePlays y = Due.told(row.toString());
      Due.is(y, "must() of " + n + " in a row", y.must(), 1, 0);
    }
    Due.says("MUST: CUT, CAST and ORDER of THE EVENING are nothing to it");
    OnePlays z = Due.told(PLAY);
    Due.is("must()", z.must(), 2);
    z.cut(0, true);
    z.cast(0, 5);
    Due.is("must() behind ACTS", z.must(), 2);
    Due.says("must: NONE: 1 (no PIECE)");
    OnePlays no = new OnePlays();
    Due.is(no, "must()", no.must(), -1, 1);
  }

  private static void betrayed() {
    Due.says("betrayed: -2 if there are none: without any, of one, of seven");
    OnePlays none = Due.told(Due.head(0, 0, 1) + Due.part("p", "plain", 0, 0, 0) + Due.scene("s", 1));
    Due.is(none, "betrayed() without any", none.betrayed(), -2, 0);
    OnePlays one = Due.told(Due.head(0, 0, 1) + Due.part("p", "plain", 0, 0, 0) + Due.scene("s", 1)
        + Due.saw("p", 1));
    Due.is(one, "betrayed() of one", one.betrayed(), -2, 0);
    Due.is(one, "must() of one", one.must(), 1, 0);
    OnePlays seven = Due.told(seven());
    Due.is(seven, "betrayed() of seven", seven.betrayed(), -2, 0);
    Due.says("betrayed: The first two, by numbers: 8 times the first and the second: each two of seven");
    for (int i = 0; i < 7; i++) {
      for (int j = i + 1; j < 7; j++) {
        // The j-th is seen at the i-th one's second, at the other side.
        String text = Due.whole(seven()).replace("saw a " + 100 * j + " left",
            "saw a " + 100 * i + " right");
        OnePlays x = Due.told(text);
        Due.is(x, "betrayed() of " + i + ", " + j, x.betrayed(), 8 * i + j, 0);
      }
    }
    Due.says("betrayed: of more the first two");
    OnePlays all = Due.told(Due.whole(seven()).replaceAll("saw a \\d+ left", "saw a 5 left")
        .replaceAll("left$", "right"));
    Due.is(all, "betrayed()", all.betrayed(), 6, 0);
    Due.says("betrayed: NONE: 1 (no PIECE)");
    OnePlays no = new OnePlays();
    Due.is(no, "betrayed()", no.betrayed(), -1, 1);
  }

  // ------------------------------------------------------------- ACTS

  private static void swap() {
    Due.says("SWAP the i-th and the j-th scene of THE EVENING: the first and the last of five");
    OnePlays x = Due.told(Due.head(0, 0, 1) + Due.part("p", "plain", 0, 0, 0) + Due.scene("s", 1)
        + Due.scene("t", 2) + Due.scene("u", 3) + Due.scene("v", 4) + Due.scene("w", 5));
    Due.is(x, "swap(0, 4)", x.swap(0, 4), true, 0);
    Due.is(x, "swap(4, 3)", x.swap(4, 3), true, 0);
    int[] due = {4, 1, 2, 0, 3};
    for (int i = 0; i < 5; i++) {
      Due.is("scene(" + i + ")", x.scene(i), due[i]);
    }
    Due.says("SWAP of five: undone and done again to the last scene's number");
    Due.is(x, "undo()", x.undo(), true, 0);
    int[] before = {4, 1, 2, 3, 0};
    for (int i = 0; i < 5; i++) {
      Due.is("scene(" + i + ") behind UNDO", x.scene(i), before[i]);
    }
    Due.is(x, "redo()", x.redo(), true, 0);
    for (int i = 0; i < 5; i++) {
      Due.is("scene(" + i + ") behind REDO", x.scene(i), due[i]);
    }
    Due.says("swap: false: 1 (unlike)");
    for (int i = 0; i < 5; i++) {
      Due.is(x, "swap(" + i + ", " + i + ")", x.swap(i, i), false, 1);
    }
    Due.says("swap: false: 1 (one too small, one too large)");
    Due.is(x, "swap(5, 0)", x.swap(5, 0), false, 1);
    Due.is(x, "swap(0, 5)", x.swap(0, 5), false, 1);
    Due.is(x, "swap(5, 6)", x.swap(5, 6), false, 1);
    for (int i : NO_SUCH) {
      Due.is(x, "swap(" + i + ", 0)", x.swap(i, 0), false, 1);
      Due.is(x, "swap(0, " + i + ")", x.swap(0, i), false, 1);
      Due.is(x, "swap(" + i + ", " + i + ")", x.swap(i, i), false, 1);
    }
    Due.says("swap: 5 (no ORDER then)");
    OnePlays y = Due.told(PLAY);
    Due.is(y, "swap(0, 2)", y.swap(0, 2), false, 5);
    Due.is(y, "swap(2, 0)", y.swap(2, 0), false, 5);
    Due.is(y, "swap(0, 1)", y.swap(0, 1), true, 0);
    Due.is(y, "swap(1, 2)", y.swap(1, 2), false, 5);
    Due.is(y, "swap(0, 2) with s between", y.swap(0, 2), false, 5);
    Due.is("size(6)", y.size(6), 1);
    Due.says("a scene ahead of one that stands between the two counts too");
    OnePlays z = Due.told(Due.head(0, 0, 1) + Due.part("p", "plain", 0, 0, 0) + Due.scene("s", 1)
        + Due.scene("t", 1) + Due.scene("u", 1) + Due.after("t", "u"));
    Due.is(z, "swap(0, 2) of s, t, u", z.swap(0, 2), false, 5);
    Due.is(z, "swap(0, 1)", z.swap(0, 1), true, 0);
    Due.is(z, "swap(1, 2)", z.swap(1, 2), true, 0);
    OnePlays one = Due.told(Due.head(0, 0, 1) + Due.part("p", "plain", 0, 0, 0) + Due.scene("s", 1));
    Due.is(one, "swap(0, 1) of one scene", one.swap(0, 1), false, 1);
    Due.is(one, "swap(0, 0) of one scene", one.swap(0, 0), false, 1);
  }

  private static void cast() {
    Due.says("cast: A part is a player's (0 .. 6); 5 (it is already)");
    OnePlays x = Due.told(PLAY);
    for (int player = 6; player >= 0; player--) {
      Due.is(x, "cast(2, " + player + ")", x.cast(2, player), true, 0);
      Due.is("part(2, 5)", x.part(2, 5), player);
      Due.is("part(0, 5)", x.part(0, 5), 0);
      Due.is("part(1, 5)", x.part(1, 5), 0);
      Due.is(x, "cast(2, " + player + ") again", x.cast(2, player), false, 5);
    }
    Due.says("cast: 5 (it is already): at first by player 0");
    Due.is(x, "cast(0, 0)", x.cast(0, 0), false, 5);
    Due.says("cast: 2 (player one too small, one too large)");
    Due.is(x, "cast(0, 7)", x.cast(0, 7), false, 2);
    Due.is(x, "cast(0, 8)", x.cast(0, 8), false, 2);
    for (int player : NO_SUCH) {
      Due.is(x, "cast(0, " + player + ")", x.cast(0, player), false, 2);
    }
    Due.says("cast: 1 (part one too small, one too large), ahead of 2 and 5");
    Due.is(x, "cast(3, 1)", x.cast(3, 1), false, 1);
    Due.is(x, "cast(3, 0)", x.cast(3, 0), false, 1);
    Due.is(x, "cast(3, 7)", x.cast(3, 7), false, 1);
    for (int part : NO_SUCH) {
      Due.is(x, "cast(" + part + ", 1)", x.cast(part, 1), false, 1);
      Due.is(x, "cast(" + part + ", 9)", x.cast(part, 9), false, 1);
    }
    Due.is("size(6)", x.size(6), 7);
    OnePlays seven = Due.told(Due.head(0, 0, 1) + Due.scene("s", 1)
        + "part a dead coat 0 don 0 doff 0;part b dead coat 0 don 0 doff 0;"
        + "part c dead coat 0 don 0 doff 0;part d dead coat 0 don 0 doff 0;"
        + "part e dead coat 0 don 0 doff 0;part f dead coat 0 don 0 doff 0;"
        + "part g dead coat 0 don 0 doff 0");
    for (int p = 0; p < 7; p++) {
      Due.is(seven, "cast(" + p + ")", seven.cast(p, 6 - p), p != 6, p != 6 ? 0 : 5);
    }
    for (int p = 0; p < 7; p++) {
      Due.is("part(" + p + ", 5)", seven.part(p, 5), 6 - p);
    }
  }

  private static void cut() {
    Due.says("cut: 5 (it is so already): not CUT at first");
    OnePlays x = Due.told(PLAY);
    for (int k = 0; k < 4; k++) {
      Due.is(x, "cut(" + k + ", false)", x.cut(k, false), false, 5);
      Due.is(x, "cut(" + k + ", true)", x.cut(k, true), true, 0);
      Due.is(x, "cut(" + k + ", true) again", x.cut(k, true), false, 5);
      Due.is("on(" + k + ", 5)", x.on(k, 5), 1);
    }
    Due.says("CUT an APPEARANCE, or not any more");
    for (int k = 0; k < 4; k++) {
      Due.is(x, "cut(" + k + ", false)", x.cut(k, false), true, 0);
      Due.is("on(" + k + ", 5)", x.on(k, 5), 0);
      Due.is("on(" + (k + 1) % 4 + ", 5)", x.on((k + 1) % 4, 5), k == 3 ? 0 : 1);
    }
    Due.says("cut: 1 (one too small, one too large)");
    Due.is(x, "cut(4, true)", x.cut(4, true), false, 1);
    Due.is(x, "cut(4, false)", x.cut(4, false), false, 1);
    for (int k : NO_SUCH) {
      Due.is(x, "cut(" + k + ", true)", x.cut(k, true), false, 1);
      Due.is(x, "cut(" + k + ", false)", x.cut(k, false), false, 1);
    }
    Due.is("size(6)", x.size(6), 8);
    Due.says("CUT: all of 14, the last too");
    OnePlays y = Due.told(Due.head(0, 0, 1) + Due.part("p", "plain", 0, 0, 0) + Due.scene("s", 9)
        + Due.times(14, Due.on("p", "s", 0, 9)));
    for (int k = 0; k < 14; k++) {
      Due.is(y, "cut(" + k + ", true)", y.cut(k, true), true, 0);
    }
    for (int k = 0; k < 14; k++) {
      Due.is("on(" + k + ", 5)", y.on(k, 5), 1);
    }
    Due.is(y, "cut(14, true)", y.cut(14, true), false, 1);
    Due.is("led(0, 0)", Due.led(y, 0, 0), -99);
    Due.is("troubled()", y.troubled(), -2);
  }

  // ------------------------------------------------------------- UNDO, REDO

  private static void undoAtFirst() {
    Due.says("undo: false: 6, without a PIECE and without an ACT");
    OnePlays no = new OnePlays();
    Due.is(no, "undo()", no.undo(), false, 6);
    Due.is(no, "redo()", no.redo(), false, 6);
    OnePlays x = Due.told(PLAY);
    Due.is(x, "undo()", x.undo(), false, 6);
    Due.says("redo: false: 6, without an UNDO");
    Due.is(x, "redo()", x.redo(), false, 6);
    x.cast(0, 1);
    Due.is(x, "redo() behind an ACT", x.redo(), false, 6);
    Due.says("an ACT that is refused isn't one");
    OnePlays y = Due.told(PLAY);
    y.cast(0, 0);
    y.cast(0, 9);
    y.cast(9, 0);
    y.cut(0, false);
    y.cut(9, true);
    y.swap(0, 2);
    y.swap(1, 1);
    Due.is("size(6)", y.size(6), 0);
    Due.is(y, "undo()", y.undo(), false, 6);
  }

  private static void undoTwelve() {
    for (int acts = 11; acts <= 14; acts++) {
      Due.says("UNDO (12 are kept): of " + acts);
      OnePlays x = Due.told(PLAY);
      for (int i = 1; i <= acts; i++) {
        Due.is(x, "cast(0, " + i % 7 + ")", x.cast(0, i % 7), true, 0);
        Due.is("size(6)", x.size(6), Math.min(i, 12));
        Due.is("size(7)", x.size(7), 0);
      }
      int kept = Math.min(acts, 12);
      for (int i = 1; i <= kept; i++) {
        Due.is(x, "undo() " + i, x.undo(), true, 0);
        Due.is("part(0, 5)", x.part(0, 5), (acts - i) % 7);
        Due.is("size(6)", x.size(6), kept - i);
        Due.is("size(7)", x.size(7), i);
      }
      Due.is(x, "undo() of one more", x.undo(), false, 6);
      Due.is("part(0, 5)", x.part(0, 5), (acts - kept) % 7);
      Due.says("REDO the latest undone: all of " + kept);
      for (int i = 1; i <= kept; i++) {
        Due.is(x, "redo() " + i, x.redo(), true, 0);
        Due.is("part(0, 5)", x.part(0, 5), (acts - kept + i) % 7);
        Due.is("size(6)", x.size(6), i);
        Due.is("size(7)", x.size(7), kept - i);
      }
      Due.is(x, "redo() of one more", x.redo(), false, 6);
      Due.is("part(0, 5)", x.part(0, 5), acts % 7);
    }
    Due.says("UNDO (12 are kept): also behind UNDO and REDO");
    OnePlays y = Due.told(PLAY);
    for (int i = 1; i <= 12; i++) {
      y.cast(0, i % 7);
    }
    for (int round = 0; round < 3; round++) {
      y.undo();
      y.undo();
      y.redo();
      y.redo();
    }
    Due.is("size(6)", y.size(6), 12);
    y.undo();
    Due.is("cut(0, true)", y.cut(0, true), true);
    Due.is("cut(1, true)", y.cut(1, true), true);
    Due.is("size(6)", y.size(6), 12);
    for (int i = 0; i < 12; i++) {
      Due.is("undo()", y.undo(), true);
    }
    Due.is(y, "undo()", y.undo(), false, 6);
    Due.is("part(0, 5)", y.part(0, 5), 1);
  }

  private static void redo() {
    Due.says("REDO the latest undone, if no ACT came since");
    for (int act = 0; act < 3; act++) {
      OnePlays x = Due.told(PLAY);
      x.cast(0, 1);
      x.cast(0, 2);
      x.undo();
      x.undo();
      boolean is = act == 0 ? x.cast(1, 3) : act == 1 ? x.cut(3, true) : x.swap(0, 1);
      Due.is("an ACT", is, true);
      Due.is("size(7)", x.size(7), 0);
      Due.is(x, "redo()", x.redo(), false, 6);
      Due.is("size(6)", x.size(6), 1);
    }
    Due.says("REDO: an ACT that is refused doesn't count");
    OnePlays x = Due.told(PLAY);
    x.cast(0, 1);
    x.undo();
    x.cast(0, 0);
    x.cast(0, 7);
    x.cut(0, false);
    x.cut(4, true);
    x.swap(0, 0);
    x.swap(0, 2);
    x.back(0);
    x.piece(99);
    x.piece(0);
    Due.is("size(7)", x.size(7), 1);
    Due.says("REDO: an IMAGE that is made is no ACT");
    Due.is("image()", x.image(), 0);
    Due.is(x, "redo()", x.redo(), true, 0);
    Due.is("part(0, 5)", x.part(0, 5), 1);
    Due.is(x, "redo() again", x.redo(), false, 6);
    Due.says("UNDO of what was done again");
    Due.is(x, "undo()", x.undo(), true, 0);
    Due.is("part(0, 5)", x.part(0, 5), 0);
    Due.is(x, "undo()", x.undo(), false, 6);
  }

  private static void undoEachAct() {
    Due.says("ACTS: SWAP, CAST, CUT: each is undone and done again by itself");
    OnePlays x = Due.told(PLAY);
    String[] states = new String[6];
    states[0] = told(x);
    for (int i = 1; i <= 5; i++) {
      boolean is = i == 1 ? x.swap(0, 1) : i == 2 ? x.cast(2, 6) : i == 3 ? x.cut(3, true)
          : i == 4 ? x.cut(3, false) : x.cast(2, 0);
      Due.is("ACT " + i, is, true);
      states[i] = told(x);
    }
    for (int i = 4; i >= 0; i--) {
      Due.is("undo()", x.undo(), true);
      Due.is("the state " + i, told(x).equals(states[i]), true);
    }
    for (int i = 1; i <= 5; i++) {
      Due.is("redo()", x.redo(), true);
      Due.is("the state " + i, told(x).equals(states[i]), true);
    }
    Due.is("scene(0)", x.scene(0), 1);
  }

  /** THE EVENING alone. */
  private static String told(OnePlays x) {
    StringBuilder all = new StringBuilder();
    for (int i = 0; i < x.size(1); i++) {
      all.append(x.scene(i)).append(' ');
    }
    for (int p = 0; p < x.size(0); p++) {
      all.append(x.part(p, 5)).append(' ');
    }
    for (int k = 0; k < x.size(2); k++) {
      all.append(x.on(k, 5)).append(' ').append(x.seen(k, false)).append(' ');
    }
    return all.append(x.troubled()).append(' ').append(x.fewest()).toString();
  }

  // ------------------------------------------------------------- IMAGES

  private static void images() {
    Due.says("image: An IMAGE of THE EVENING: its number; IMAGES: up to 3; 3");
    OnePlays x = Due.told(PLAY);
    for (int i = 0; i < 3; i++) {
      Due.is("size(8)", x.size(8), i);
      Due.is(x, "image()", x.image(), i, 0);
    }
    for (int i = 0; i < 3; i++) {
      Due.is(x, "image() of a fourth", x.image(), -1, 3);
      Due.is("size(8)", x.size(8), 3);
    }
    Due.says("all IMAGES stay: there is no room behind back() either");
    x.back(1);
    Due.is(x, "image()", x.image(), -1, 3);
    Due.says("image: NONE: 1 (no PIECE)");
    OnePlays no = new OnePlays();
    Due.is(no, "image()", no.image(), -1, 1);
    Due.is("size(8)", no.size(8), 0);
    Due.says("no IMAGES of a new PIECE: there is room again");
    Texts.feed(x, Due.whole(PLAY));
    Due.is(x, "piece()", x.piece(Due.whole(PLAY).length()), 4, 0);
    Due.is("size(8)", x.size(8), 0);
    Due.is(x, "back(0)", x.back(0), false, 1);
    Due.is(x, "image()", x.image(), 0, 0);
  }

  private static void back() {
    Due.says("back: THE EVENING is as by an IMAGE (all IMAGES stay)");
    OnePlays x = Due.told(PLAY);
    String[] states = new String[3];
    for (int i = 0; i < 3; i++) {
      states[i] = told(x);
      x.image();
      x.cast(i, 6);
      x.cut(3 - i, true);
      x.swap(0, 1);
    }
    int[] row = {0, 1, 2, 0, 2, 1, 1, 0};
    for (int i : row) {
      Due.is(x, "back(" + i + ")", x.back(i), true, 0);
      Due.is("the state of IMAGE " + i, told(x).equals(states[i]), true);
      Due.is("size(8)", x.size(8), 3);
      x.cut(0, true);
      x.cast(1, 5);
    }
    Due.says("back: false: 1 (one too small, one too large)");
    Due.is(x, "back(3)", x.back(3), false, 1);
    for (int i : NO_SUCH) {
      Due.is(x, "back(" + i + ")", x.back(i), false, 1);
    }
    OnePlays one = Due.told(PLAY);
    Due.is(one, "back(0) of none", one.back(0), false, 1);
    one.image();
    Due.is(one, "back(0)", one.back(0), true, 0);
    Due.is(one, "back(1) of one", one.back(1), false, 1);
    Due.is(one, "back(2) of one", one.back(2), false, 1);
    OnePlays no = new OnePlays();
    Due.is(no, "back(0) without a PIECE", no.back(0), false, 1);
  }

  private static void backAndActs() {
    Due.says("gone back to one, nothing can be undone or redone");
    OnePlays x = Due.told(PLAY);
    x.image();
    x.cast(0, 1);
    x.cast(0, 2);
    x.undo();
    Due.is("size(6)", x.size(6), 1);
    Due.is("size(7)", x.size(7), 1);
    Due.is(x, "back(0)", x.back(0), true, 0);
    Due.is("size(6)", x.size(6), 0);
    Due.is("size(7)", x.size(7), 0);
    Due.is(x, "undo()", x.undo(), false, 6);
    Due.is(x, "redo()", x.redo(), false, 6);
    Due.says("gone back, though THE EVENING was the same already");
    x.cast(0, 1);
    x.undo();
    Due.is(x, "back(0)", x.back(0), true, 0);
    Due.is(x, "redo()", x.redo(), false, 6);
    Due.says("behind it ACTS are undone to the IMAGE and no further");
    x.cast(0, 4);
    Due.is(x, "undo()", x.undo(), true, 0);
    Due.is(x, "undo()", x.undo(), false, 6);
    Due.is("part(0, 5)", x.part(0, 5), 0);
    Due.is(x, "redo()", x.redo(), true, 0);
    Due.says("a back() that is refused leaves what can be undone and redone");
    x.cast(0, 5);
    x.undo();
    Due.is(x, "back(1)", x.back(1), false, 1);
    Due.is("size(6)", x.size(6), 1);
    Due.is("size(7)", x.size(7), 1);
  }

  // ------------------------------------------------------------- what is told

  private static void part() {
    Due.says("part: NONE: 1 (p or what one too small, one too large)");
    OnePlays x = Due.told(PLAY);
    int[][] due = {{0, 1, 2, 3, 0, 0}, {1, 2, 5, 6, 4, 0}, {2, 0, 0, 0, 0, 0}};
    for (int p = 0; p < 3; p++) {
      for (int what = 0; what < 6; what++) {
        Due.is(x, "part(" + p + ", " + what + ")", x.part(p, what), due[p][what], 0);
      }
      Due.is(x, "part(" + p + ", 6)", x.part(p, 6), -1, 1);
    }
    Due.is(x, "part(3, 0)", x.part(3, 0), -1, 1);
    Due.is(x, "part(3, 5)", x.part(3, 5), -1, 1);
    for (int no : NO_SUCH) {
      Due.is(x, "part(" + no + ", 0)", x.part(no, 0), -1, 1);
      Due.is(x, "part(" + no + ", 5)", x.part(no, 5), -1, 1);
      Due.is(x, "part(0, " + no + ")", x.part(0, no), -1, 1);
    }
    OnePlays none = new OnePlays();
    Due.is(none, "part(0, 0) without a PIECE", none.part(0, 0), -1, 1);
    Due.says("part: 0 its KIND (0 plain, 1 beard, 2 puppet, 3 dead), 4 beard (0 without)");
    String[] kinds = {"plain", "beard 99", "puppet", "dead", "beard 0"};
    for (int kind = 0; kind < 5; kind++) {
      OnePlays y = Due.told(Due.head(0, 0, 1) + Due.part("p", kinds[kind], 9, 99, 98)
          + Due.scene("s", 1));
      int[] row = {kind % 4 + kind / 4, 9, 99, 98, kind == 1 ? 99 : 0, 0};
      for (int what = 0; what < 6; what++) {
        Due.is(y, "part(0, " + what + ") of " + kinds[kind], y.part(0, what), row[what], 0);
      }
    }
  }

  private static void on() {
    Due.says("on: NONE: 1 (k or what one too small, one too large)");
    OnePlays x = Due.told(Due.head(0, 0, 1) + Due.part("p", "plain", 0, 0, 0)
        + Due.part("q", "plain", 0, 0, 0) + Due.scene("s", 9) + Due.scene("t", 9)
        + Due.on("p", "s", 0, 9, "left right") + Due.on("q", "t", 0, 9, "right left behind"));
    int[][] due = {{0, 0, 0, 0, 1, 0}, {1, 1, 1, 1, 0, 0}};
    for (int k = 0; k < 2; k++) {
      for (int what = 0; what < 6; what++) {
        Due.is(x, "on(" + k + ", " + what + ")", x.on(k, what), due[k][what], 0);
      }
      Due.is(x, "on(" + k + ", 6)", x.on(k, 6), -1, 1);
    }
    Due.is(x, "on(2, 0)", x.on(2, 0), -1, 1);
    Due.is(x, "on(2, 5)", x.on(2, 5), -1, 1);
    for (int no : NO_SUCH) {
      Due.is(x, "on(" + no + ", 0)", x.on(no, 0), -1, 1);
      Due.is(x, "on(" + no + ", 5)", x.on(no, 5), -1, 1);
      Due.is(x, "on(0, " + no + ")", x.on(0, no), -1, 1);
    }
    OnePlays none = new OnePlays();
    Due.is(none, "on(0, 0) without a PIECE", none.on(0, 0), -1, 1);
  }

  private static void led() {
    Due.says("led: NoSuchElementException if there is none such (player 0 .. 6, i)");
    OnePlays x = Due.told(PLAY);
    int[] due = {0, 1, 2, 3};
    for (int i = 0; i < 4; i++) {
      Due.is("led(0, " + i + ")", Due.led(x, 0, i), due[i]);
    }
    Due.is("led(0, 4)", Due.led(x, 0, 4), -99);
    for (int player = 1; player <= 7; player++) {
      Due.is("led(" + player + ", 0)", Due.led(x, player, 0), -99);
    }
    x.cast(2, 6);
    Due.is("led(6, 0)", Due.led(x, 6, 0), 2);
    Due.is("led(6, 1)", Due.led(x, 6, 1), -99);
    Due.is("led(0, 2)", Due.led(x, 0, 2), 3);
    Due.is("led(0, 3)", Due.led(x, 0, 3), -99);
    for (int no : NO_SUCH) {
      Due.is("led(0, " + no + ")", Due.led(x, 0, no), -99);
      Due.is("led(" + no + ", 0)", Due.led(x, no, 0), -99);
    }
    Due.says("led: without a PIECE, and of an evening without an APPEARANCE");
    Due.is("led(0, 0)", Due.led(new OnePlays(), 0, 0), -99);
    OnePlays none = Due.told(Due.head(0, 0, 1) + Due.part("p", "plain", 0, 0, 0) + Due.scene("s", 1));
    Due.is("led(0, 0)", Due.led(none, 0, 0), -99);
    Due.says("led: by time, then numbers, CUT ones aside; those behind and dummies too");
    OnePlays y = Due.told(Due.head(0, 0, 1) + Due.part("p", "dead", 0, 0, 0) + Due.scene("s", 9)
        + Due.on("p", "s", 3, 9) + Due.on("p", "s", 2, 9, "left left behind")
        + Due.on("p", "s", 2, 3) + Due.on("p", "s", 0, 1) + Due.on("p", "s", 2, 9));
    int[] row = {3, 1, 2, 4, 0};
    for (int i = 0; i < 5; i++) {
      Due.is("led(0, " + i + ")", Due.led(y, 0, i), row[i]);
    }
    y.cut(1, true);
    y.cut(0, true);
    int[] then = {3, 2, 4, -99, -99};
    for (int i = 0; i < 5; i++) {
      Due.is("led(0, " + i + ") behind two cut", Due.led(y, 0, i), then[i]);
    }
  }

  private static void size() {
    Due.says("size: NONE for others; 0 for what there isn't");
    OnePlays no = new OnePlays();
    OnePlays x = Due.told(PLAY);
    int[] due = {3, 3, 4, 1, 2, 2, 0, 0, 0, 0};
    for (int what = 0; what <= 9; what++) {
      Due.is("size(" + what + ") without a PIECE", no.size(what), 0);
      Due.is("size(" + what + ")", x.size(what), due[what]);
    }
    Due.is("size(10)", x.size(10), -1);
    Due.is("size(10) without a PIECE", no.size(10), -1);
    for (int what : NO_SUCH) {
      Due.is("size(" + what + ")", x.size(what), -1);
      Due.is("size(" + what + ") without a PIECE", no.size(what), -1);
    }
    Due.says("size: 6 ACTS that can be undone, 7 redone, 8 IMAGES, 9 bytes of THE TAPE");
    x.cast(0, 1);
    x.cast(0, 2);
    x.cast(0, 3);
    x.undo();
    x.image();
    x.feed(0, 0, 0, 0, 0);
    x.feed(0, 0, 0, 0, 0);
    Due.is("size(6)", x.size(6), 2);
    Due.is("size(7)", x.size(7), 1);
    Due.is("size(8)", x.size(8), 1);
    Due.is("size(9)", x.size(9), 40);
  }
}

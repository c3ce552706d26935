/** The boundaries that Terms III and promises 19 to 31 name: FEWEST, CUTS, READY, LENT, GAP, SWAPS, WHO. */
public final class FewestBoundaryTest {
  private static final int LEAST = Integer.MIN_VALUE;
  private static final int MOST = Integer.MAX_VALUE;
  private static final int[] NO_SUCH = {-1, 32, 33, 64, 256, 65536, -32, -31, LEAST, LEAST + 1, MOST};
  /** One part that MEETS itself: no number of players helps. */
  private static final String NEVER = Due.part("p", "plain", 0, 0, 0) + Due.scene("s", 9)
      + Due.on("p", "s", 0, 5) + Due.on("p", "s", 4, 9);

  public static void main(String[] args) {
    noPiece();
    fewest();
    player();
    firstCast();
    fewestOfAll();
    sceneOfAll();
    enough();
    cuts();
    cutsBy();
    ready();
    lent();
    lend();
    gap();
    swaps();
    who();
    Due.end("boundaries of the fewest");
  }

  private static String name(int p) {
    return "p" + (char) ('a' + p);
  }

  /** So many parts, all on at once, or one behind the other. */
  private static OnePlays parts(int count, int players, boolean atOnce) {
    StringBuilder text = new StringBuilder(Due.head(0, 0, players) + Due.scene("s", 70));
    for (int p = 0; p < count; p++) {
      text.append(Due.part(name(p), "plain", 0, 0, 0));
      text.append(Due.on(name(p), "s", atOnce ? 0 : 10 * p, atOnce ? 70 : 10 * p + 10));
    }
    return Due.told(text.toString());
  }

  private static void noPiece() {
    Due.says("NONE: 1 (no PIECE)");
    OnePlays x = new OnePlays();
    Due.is(x, "fewest()", x.fewest(), -1, 1);
    Due.is(x, "player(0)", x.player(0), -1, 1);
    Due.is(x, "fewestOfAll()", x.fewestOfAll(), -1, 1);
    Due.is(x, "sceneOfAll(0)", x.sceneOfAll(0), -1, 1);
    Due.is(x, "enough()", x.enough(), -1, 1);
    Due.is(x, "cuts()", x.cuts(), -1, 1);
    Due.is(x, "cutsBy()", x.cutsBy(), -1, 1);
    Due.is(x, "ready(0)", x.ready(0), -1, 1);
    Due.is(x, "lent(0)", x.lent(0), -1, 1);
    Due.is(x, "lend()", x.lend(), -1, 1);
    Due.is(x, "gap()", x.gap(), -1, 1);
    Due.is(x, "swaps()", x.swaps(), -1, 1);
    Due.is(x, "who(1)", x.who(1), -1, 1);
    Due.is(x, "who(3)", x.who(3), -1, 1);
    Due.says("who: 1 (no PIECE) ahead of 2");
    Due.is(x, "who(0)", x.who(0), -1, 1);
    Due.is(x, "who(4)", x.who(4), -1, 1);
  }

  // ------------------------------------------------------------- FEWEST

  private static void fewest() {
    Due.says("FEWEST: the fewest players: of parts all at once as many as there are, up to 7");
    for (int n = 1; n <= 7; n++) {
      OnePlays x = parts(n, 1, true);
      Due.is(x, "fewest() of " + n + " at once", x.fewest(), n, 0);
      OnePlays y = parts(n, 1, false);
      Due.is(y, "fewest() of " + n + " in a row", y.fewest(), 1, 0);
    }
    Due.says("FEWEST: a part without an APPEARANCE needs a player all the same");
    OnePlays x = Due.told(Due.head(0, 0, 1) + Due.part("p", "plain", 0, 0, 0) + Due.scene("s", 1));
    Due.is(x, "fewest()", x.fewest(), 1, 0);
    Due.says("FEWEST: CUT ones aren't there, all CUT neither");
    OnePlays y = parts(3, 1, true);
    y.cut(0, true);
    Due.is(y, "fewest() of 3 less 1", y.fewest(), 2, 0);
    y.cut(1, true);
    y.cut(2, true);
    Due.is(y, "fewest() of all CUT", y.fewest(), 1, 0);
    y.undo();
    y.undo();
    Due.is(y, "fewest() behind UNDO", y.fewest(), 2, 0);
    Due.says("FEWEST: -2: more than 7 don't help");
    OnePlays never = Due.told(Due.head(0, 0, 3) + NEVER);
    Due.is(never, "fewest()", never.fewest(), -2, 0);
    never.cut(1, true);
    Due.is(never, "fewest() with one CUT", never.fewest(), 1, 0);
    Due.says("FEWEST: of pairs that MEET each other a player each");
    StringBuilder pairs = new StringBuilder(Due.head(0, 0, 3) + Due.scene("s", 70));
    for (int p = 0; p < 7; p++) {
      pairs.append(Due.part(name(p), "plain", 0, 0, 9));
      pairs.append(Due.on(name(p), "s", p < 3 ? 0 : 30, p < 3 ? 20 : 70));
    }
    OnePlays four = Due.told(pairs.toString());
    Due.is(four, "fewest() of 3 and 4", four.fewest(), 4, 0);
    four.cut(6, true);
    Due.is(four, "fewest() of 3 and 3", four.fewest(), 3, 0);
    four.cut(5, true);
    four.cut(0, true);
    Due.is(four, "fewest() of 2 and 2", four.fewest(), 2, 0);
    Due.says("FEWEST isn't of the CAST of THE EVENING");
    OnePlays z = parts(2, 1, false);
    z.cast(1, 6);
    Due.is(z, "fewest()", z.fewest(), 1, 0);
    Due.is(z, "player(1)", z.player(1), 0, 0);
  }

  private static void player() {
    Due.says("player: by numbers of players: of 7 parts at once each another one");
    OnePlays x = parts(7, 1, true);
    for (int p = 0; p < 7; p++) {
      Due.is(x, "player(" + p + ")", x.player(p), p, 0);
    }
    Due.says("player: by FEWEST of the evening as it is, asked again behind each ACT");
    x.cut(0, true);
    int[] due = {0, 0, 1, 2, 3, 4, 5};
    for (int p = 0; p < 7; p++) {
      Due.is(x, "player(" + p + ") with the first's CUT", x.player(p), due[p], 0);
    }
    x.undo();
    for (int p = 0; p < 7; p++) {
      Due.is(x, "player(" + p + ") behind UNDO", x.player(p), p, 0);
    }
    OnePlays swapped = Due.told(pair(1));
    Due.is("player(1)", swapped.player(1), 1);
    swapped.swap(0, 1);
    Due.is("player(1) in the other ORDER", swapped.player(1), 0);
    swapped.undo();
    Due.is("player(1) in the first ORDER again", swapped.player(1), 1);
    Due.says("player: NONE: 1 (one too small, one too large)");
    Due.is(x, "player(7)", x.player(7), -1, 1);
    OnePlays two = parts(2, 1, true);
    Due.is(two, "player(1)", two.player(1), 1, 0);
    Due.is(two, "player(2)", two.player(2), -1, 1);
    for (int p : NO_SUCH) {
      Due.is(two, "player(" + p + ")", two.player(p), -1, 1);
    }
    Due.says("player: -2");
    OnePlays never = Due.told(Due.head(0, 0, 3) + NEVER);
    Due.is(never, "player(0)", never.player(0), -2, 0);
    Due.is(never, "player(1) of none such", never.player(1), -1, 1);
  }

  private static void firstCast() {
    Due.says("the CAST: the first by parts (each new one the least not used yet)");
    // b and c MEET a, d MEETS b: c is with b, d with a.
    OnePlays x = Due.told(Due.head(0, 0, 1) + Due.part("a", "plain", 0, 0, 0)
        + Due.part("b", "plain", 0, 0, 0) + Due.part("c", "plain", 0, 0, 0)
        + Due.part("d", "plain", 0, 0, 0) + Due.scene("s", 90) + Due.on("a", "s", 0, 30)
        + Due.on("b", "s", 20, 50) + Due.on("c", "s", 0, 10) + Due.on("d", "s", 40, 60));
    int[] due = {0, 1, 1, 0};
    for (int p = 0; p < 4; p++) {
      Due.is(x, "player(" + p + ")", x.player(p), due[p], 0);
    }
    Due.says("the CAST: parts ahead are given the lesser number, if the fewest still do");
    // a could be with b or with c, which MEET: by parts it is with b.
    OnePlays y = Due.told(Due.head(0, 0, 1) + Due.part("a", "plain", 0, 0, 0)
        + Due.part("b", "plain", 0, 0, 0) + Due.part("c", "plain", 0, 0, 0) + Due.scene("s", 90)
        + Due.on("a", "s", 0, 10) + Due.on("b", "s", 20, 40) + Due.on("c", "s", 30, 50));
    Due.is("player(0)", y.player(0), 0);
    Due.is("player(1)", y.player(1), 0);
    Due.is("player(2)", y.player(2), 1);
    Due.says("the CAST has the fewest players, though a part ahead needs a new one by it");
    // a with b leaves c and d, which MEET, to two others; a with c, b with d are two in all.
    OnePlays z = Due.told(Due.head(0, 0, 1) + Due.part("a", "plain", 0, 0, 0)
        + Due.part("b", "plain", 0, 0, 0) + Due.part("c", "plain", 0, 0, 0)
        + Due.part("d", "plain", 0, 0, 0) + Due.scene("s", 90) + Due.on("a", "s", 0, 10)
        + Due.on("b", "s", 20, 30) + Due.on("c", "s", 25, 40) + Due.on("d", "s", 5, 15)
        + Due.on("d", "s", 35, 45) + Due.on("c", "s", 60, 61));
    int[] then = {0, 1, 0, 1};
    Due.is("fewest()", z.fewest(), 2);
    for (int p = 0; p < 4; p++) {
      Due.is("player(" + p + ")", z.player(p), then[p]);
    }
  }

  // ------------------------------------------------------------- over all ORDERS

  /** Two scenes; only with the second ahead one player is enough (10 seconds apart). */
  private static String pair(int players) {
    return Due.head(0, 0, players) + Due.part("a", "plain", 0, 5, 5) + Due.part("b", "plain", 0, 5, 5)
        + Due.scene("x", 10) + Due.scene("y", 20) + Due.on("a", "x", 5, 10) + Due.on("b", "y", 0, 5);
  }

  private static void fewestOfAll() {
    Due.says("FEWEST of all: over all ORDERS");
    OnePlays x = Due.told(pair(1));
    Due.is(x, "fewest()", x.fewest(), 2, 0);
    Due.is(x, "fewestOfAll()", x.fewestOfAll(), 1, 0);
    OnePlays bound = Due.told(pair(1) + Due.after("x", "y"));
    Due.is(bound, "fewestOfAll() of one ORDER", bound.fewestOfAll(), 2, 0);
    Due.says("FEWEST of all: 7, -2");
    OnePlays seven = parts(7, 3, true);
    Due.is(seven, "fewestOfAll() of 7", seven.fewestOfAll(), 7, 0);
    OnePlays never = Due.told(Due.head(0, 0, 3) + NEVER);
    Due.is(never, "fewestOfAll()", never.fewestOfAll(), -2, 0);
    never.cut(0, true);
    Due.is(never, "fewestOfAll() with one CUT", never.fewestOfAll(), 1, 0);
    never.undo();
    Due.is(never, "fewestOfAll() behind UNDO", never.fewestOfAll(), -2, 0);
    Due.says("FEWEST of all: of 120 ORDERS the last alone");
    OnePlays last = Due.told(Due.head(1, 0, 1) + lastOrder());
    Due.is(last, "orders()", last.orders(), 120, 0);
    Due.is(last, "fewestOfAll()", last.fewestOfAll(), 1, 0);
    for (int i = 0; i < 5; i++) {
      Due.is(last, "sceneOfAll(" + i + ")", last.sceneOfAll(i), 4 - i, 0);
    }
  }

  /**
   * Five scenes, all of a part that must be on and off at once: from each to the next one
   * player comes in time only in the row e, d, c, b, a (a coat higher each time, in no time).
   */
  private static String lastOrder() {
    StringBuilder text = new StringBuilder();
    for (int i = 0; i < 5; i++) {
      text.append("part ").append((char) ('p' + i)).append(" plain coat ").append(8 - i)
          .append(" don 0 doff 1;");
    }
    for (int i = 0; i < 5; i++) {
      text.append(Due.scene("" + (char) ('a' + i), 5));
    }
    for (int i = 0; i < 5; i++) {
      text.append(Due.on("" + (char) ('p' + i), "" + (char) ('a' + i), 0, 5));
    }
    return text.toString();
  }

  private static void sceneOfAll() {
    Due.says("FEWEST of all: the first such, by numbers of scenes");
    OnePlays like = Due.told(Due.head(0, 0, 1) + Due.part("p", "plain", 0, 0, 0) + Due.scene("s", 1)
        + Due.scene("t", 1) + Due.scene("u", 1) + Due.after("u", "s"));
    int[] due = {1, 2, 0};
    like.swap(0, 1);
    for (int i = 0; i < 3; i++) {
      Due.is(like, "sceneOfAll(" + i + ")", like.sceneOfAll(i), due[i], 0);
    }
    Due.says("FEWEST of all: of ORDERS by which it takes two the first, not a later one by which it takes more");
    OnePlays two = Due.told(Due.head(0, 0, 1) + Due.part("a", "plain", 0, 0, 0)
        + Due.part("b", "plain", 0, 0, 0) + Due.scene("s", 9) + Due.scene("t", 9)
        + Due.on("a", "s", 0, 9) + Due.on("b", "s", 0, 9));
    Due.is(two, "fewestOfAll() of two at once", two.fewestOfAll(), 2, 0);
    Due.is(two, "sceneOfAll(0)", two.sceneOfAll(0), 0, 0);
    // By s, t a coat is put over another; by t, s it must come off first.
    OnePlays more = Due.told(Due.head(0, 0, 1) + Due.part("a", "plain", 0, 0, 1)
        + Due.part("b", "plain", 0, 0, 1) + Due.part("c", "plain", 1, 0, 1) + Due.scene("s", 9)
        + Due.scene("t", 9) + Due.on("a", "s", 0, 9) + Due.on("b", "s", 0, 9)
        + Due.on("c", "t", 0, 9));
    Due.is(more, "fewestOfAll() of two or three", more.fewestOfAll(), 2, 0);
    Due.is(more, "sceneOfAll(0)", more.sceneOfAll(0), 0, 0);
    more.swap(0, 1);
    Due.is(more, "fewest() of the other ORDER", more.fewest(), 3, 0);
    Due.says("sceneOfAll: -2 if there is none");
    OnePlays never = Due.told(Due.head(0, 0, 3) + NEVER);
    Due.is(never, "sceneOfAll(0)", never.sceneOfAll(0), -2, 0);
    Due.is(never, "sceneOfAll(1) of none such", never.sceneOfAll(1), -1, 1);
    Due.says("sceneOfAll: NONE: 1 (one too small, one too large)");
    Due.is(like, "sceneOfAll(3)", like.sceneOfAll(3), -1, 1);
    for (int i : NO_SUCH) {
      Due.is(like, "sceneOfAll(" + i + ")", like.sceneOfAll(i), -1, 1);
      Due.is(never, "sceneOfAll(" + i + ")", never.sceneOfAll(i), -1, 1);
    }
  }

  private static void enough() {
    Due.says("enough: Whether as many players as told do: as many, one too few");
    for (int n = 1; n <= 4; n++) {
      for (int players = 1; players <= 3; players++) {
        OnePlays x = parts(n, players, true);
        Due.is(x, "enough() of " + n + " by " + players, x.enough(), players >= n ? 1 : 0, 0);
      }
    }
    Due.says("enough: in some ORDER, not in the ORDER there is");
    OnePlays x = Due.told(pair(1));
    Due.is(x, "enough()", x.enough(), 1, 0);
    OnePlays bound = Due.told(pair(1) + Due.after("x", "y"));
    Due.is(bound, "enough() of one ORDER", bound.enough(), 0, 0);
    OnePlays never = Due.told(Due.head(0, 0, 3) + NEVER);
    Due.is(never, "enough() of never", never.enough(), 0, 0);
    never.cut(1, true);
    Due.is(never, "enough() with one CUT", never.enough(), 1, 0);
  }

  // ------------------------------------------------------------- CUTS

  private static void cuts() {
    Due.says("CUTS: the fewest APPEARANCES: 0 .. 3; -2 if 3 don't do");
    for (int n = 1; n <= 7; n++) {
      for (int players = 1; players <= 3; players++) {
        OnePlays x = parts(n, players, true);
        int cuts = Math.max(0, n - players);
        Due.is(x, "cuts() of " + n + " by " + players, x.cuts(), cuts > 3 ? -2 : cuts, 0);
        Due.is(x, "cutsBy() of " + n + " by " + players, x.cutsBy(),
            cuts > 3 ? -2 : (1 << cuts) - 1, 0);
      }
    }
    Due.says("CUTS: 0 without an APPEARANCE");
    OnePlays none = Due.told(Due.head(0, 0, 1) + Due.part("p", "plain", 0, 0, 0) + Due.scene("s", 1));
    Due.is(none, "cuts()", none.cuts(), 0, 0);
    Due.is(none, "cutsBy()", none.cutsBy(), 0, 0);
    Due.says("CUTS: of those that aren't CUT, without which, too");
    OnePlays x = parts(5, 1, true);
    Due.is("cuts() of 5", x.cuts(), -2);
    x.cut(1, true);
    Due.is("cuts() with one CUT", x.cuts(), 3);
    Due.is("cutsBy() with one CUT", x.cutsBy(), 1 | 4 | 8);
    x.cut(0, true);
    Due.is("cutsBy() with two CUT", x.cutsBy(), 4 | 8);
    x.cut(4, true);
    Due.is("cutsBy() with three CUT", x.cutsBy(), 4);
    x.cut(3, true);
    Due.is("cuts() with four CUT", x.cuts(), 0);
    Due.is("cutsBy() with four CUT", x.cutsBy(), 0);
    x.undo();
    Due.is("cutsBy() behind UNDO", x.cutsBy(), 4);
    Due.says("CUTS: in the ORDER there is");
    OnePlays y = Due.told(pair(1));
    Due.is("cuts()", y.cuts(), 1);
    y.swap(0, 1);
    Due.is("cuts() in the other ORDER", y.cuts(), 0);
  }

  private static void cutsBy() {
    Due.says("CUTS: of like ones the least bits: the last of 14 alone helps");
    StringBuilder text = new StringBuilder(Due.head(0, 0, 1) + Due.part("p", "plain", 0, 0, 0)
        + Due.scene("s", 99));
    for (int k = 0; k < 13; k++) {
      text.append(Due.on("p", "s", 5 * k, 5 * k + 5));
    }
    OnePlays x = Due.told(text + Due.on("p", "s", 0, 99));
    Due.is(x, "cuts()", x.cuts(), 1, 0);
    Due.is(x, "cutsBy()", x.cutsBy(), 1 << 13, 0);
    Due.says("CUTS: of like ones the least bits: not the least first number");
    // {1, 2} is less than {0, 3}; each pair of them frees the rest.
    OnePlays y = Due.told(Due.head(0, 0, 1) + Due.part("p", "plain", 0, 0, 0) + Due.scene("s", 99)
        + Due.on("p", "s", 0, 30) + Due.on("p", "s", 20, 60) + Due.on("p", "s", 20, 60)
        + Due.on("p", "s", 50, 99));
    Due.is(y, "cutsBy()", y.cutsBy(), 2 | 4, 0);
    Due.says("CUTS: one may be behind, a puppet, the first of a dead one");
    OnePlays z = Due.told(Due.head(0, 0, 1) + Due.part("p", "plain", 0, 0, 0)
        + Due.part("q", "puppet", 0, 0, 0) + Due.part("d", "dead", 0, 0, 0) + Due.scene("s", 99)
        + Due.on("p", "s", 0, 50) + Due.on("q", "s", 0, 9, "left left behind")
        + Due.on("q", "s", 60, 70) + Due.on("q", "s", 65, 80) + Due.on("d", "s", 40, 60)
        + Due.on("d", "s", 70, 90));
    Due.is(z, "cuts()", z.cuts(), 2, 0);
    Due.is(z, "cutsBy()", z.cutsBy(), 1 | 4, 0);
    Due.says("CUTS: with the first of a dead one CUT the next one is BODILY");
    OnePlays w = Due.told(Due.head(0, 0, 1) + Due.part("d", "dead", 0, 0, 0)
        + Due.part("p", "plain", 0, 0, 0) + Due.scene("s", 99) + Due.on("d", "s", 0, 10)
        + Due.on("d", "s", 20, 30) + Due.on("d", "s", 40, 50) + Due.on("p", "s", 5, 45));
    Due.is(w, "cuts()", w.cuts(), 1, 0);
    Due.is(w, "cutsBy()", w.cutsBy(), 8, 0);
  }

  // ------------------------------------------------------------- READY, LENT

  private static void ready() {
    Due.says("READY: if a part's don were 0");
    String on = Due.scene("s", 99) + Due.on("a", "s", 0, 10) + Due.on("b", "s", 10, 20);
    OnePlays don = Due.told(Due.head(0, 0, 1) + Due.part("a", "plain", 0, 9, 9)
        + Due.part("b", "plain", 1, 1, 9) + on);
    Due.is(don, "fewest()", don.fewest(), 2, 0);
    Due.is(don, "ready(0)", don.ready(0), 0, 0);
    Due.is(don, "ready(1)", don.ready(1), 1, 0);
    Due.says("READY: if a part's doff were 0");
    OnePlays doff = Due.told(Due.head(0, 0, 1) + Due.part("a", "plain", 1, 9, 1)
        + Due.part("b", "plain", 0, 9, 9) + on);
    Due.is(doff, "ready(0)", doff.ready(0), 1, 0);
    Due.is(doff, "ready(1)", doff.ready(1), 0, 0);
    Due.says("READY: if a part's beard were 0");
    OnePlays beard = Due.told(Due.head(0, 0, 1) + Due.part("a", "plain", 0, 9, 9)
        + Due.part("b", "beard 1", 1, 0, 9) + on);
    Due.is(beard, "ready(1)", beard.ready(1), 1, 0);
    Due.says("READY: not the walk");
    OnePlays walk = Due.told(Due.head(1, 0, 1) + Due.part("a", "plain", 0, 1, 0)
        + Due.part("b", "plain", 1, 1, 0) + Due.scene("s", 99) + Due.on("a", "s", 0, 10, "left right")
        + Due.on("b", "s", 10, 20));
    Due.is(walk, "ready(1)", walk.ready(1), 0, 0);
    Due.says("READY: of alike coats both, of which one alone becomes 0");
    OnePlays both = Due.told(Due.head(0, 0, 1) + Due.part("a", "plain", 0, 0, 1)
        + Due.part("b", "plain", 0, 1, 0) + on);
    Due.is(both, "ready(0)", both.ready(0), 0, 0);
    Due.is(both, "ready(1)", both.ready(1), 0, 0);
    Due.is("fewest() is as before", both.fewest(), 2);
    Due.is("change(0, 1) is as before", both.change(0, 1), 2);
    Due.says("READY (-2 if FEWEST is so), though it were none with the part ready");
    // p MEETS nothing, but must change to q and back: with q ready it can, by one player.
    OnePlays never = Due.told(Due.head(5, 0, 1) + Due.part("p", "plain", 0, 0, 0)
        + Due.part("q", "plain", 1, 5, 5) + Due.scene("s", 99) + Due.on("p", "s", 0, 10, "left right")
        + Due.on("p", "s", 13, 20) + Due.on("q", "s", 10, 13, "right left"));
    Due.is(never, "fewest()", never.fewest(), -2, 0);
    Due.is(never, "ready(1)", never.ready(1), -2, 0);
    Due.is(never, "ready(0)", never.ready(0), -2, 0);
    Due.says("READY is of the call alone: what is asked behind it is as told");
    OnePlays then = Due.told(Due.head(0, 0, 1) + Due.part("a", "plain", 0, 9, 9)
        + Due.part("b", "plain", 1, 5, 9) + Due.scene("s", 9) + Due.scene("t", 9)
        + Due.on("a", "s", 0, 9) + Due.on("b", "t", 0, 9));
    Due.is(then, "ready(1)", then.ready(1), 1, 0);
    Due.is(then, "gap()", then.gap(), 5, 0);
    Due.is(then, "ready(1)", then.ready(1), 1, 0);
    Due.is(then, "swaps()", then.swaps(), -2, 0);
    Due.is(then, "ready(1)", then.ready(1), 1, 0);
    Due.is(then, "enough()", then.enough(), 0, 0);
    Due.is(then, "fewestOfAll()", then.fewestOfAll(), 2, 0);
    Due.is(then, "fewest()", then.fewest(), 2, 0);
    Due.says("ready: NONE: 1 (one too small, one too large), ahead of -2");
    Due.is(never, "ready(2)", never.ready(2), -1, 1);
    Due.is(both, "ready(2)", both.ready(2), -1, 1);
    for (int p : NO_SUCH) {
      Due.is(both, "ready(" + p + ")", both.ready(p), -1, 1);
    }
  }

  private static void lent() {
    Due.says("LENT: FEWEST of the ORDER there is without a part");
    OnePlays x = parts(7, 1, true);
    for (int p = 0; p < 7; p++) {
      Due.is(x, "lent(" + p + ")", x.lent(p), 6, 0);
    }
    Due.is("fewest() is as before", x.fewest(), 7);
    Due.says("LENT (-2 likewise)");
    OnePlays never = Due.told(Due.head(0, 0, 3) + NEVER + Due.part("q", "plain", 0, 0, 0));
    Due.is(never, "lent(0)", never.lent(0), 1, 0);
    Due.is(never, "lent(1)", never.lent(1), -2, 0);
    Due.says("LENT without the one part there is: no player");
    OnePlays one = parts(1, 1, true);
    Due.is(one, "lent(0)", one.lent(0), 0, 0);
    Due.says("lent: NONE: 1 (one too small, one too large)");
    Due.is(x, "lent(7)", x.lent(7), -1, 1);
    Due.is(one, "lent(1)", one.lent(1), -1, 1);
    for (int p : NO_SUCH) {
      Due.is(x, "lent(" + p + ")", x.lent(p), -1, 1);
    }
  }

  private static void lend() {
    Due.says("lend: The part by which LENT is least, the first such");
    OnePlays x = parts(7, 1, true);
    Due.is(x, "lend() of like ones", x.lend(), 0, 0);
    x.cut(0, true);
    Due.is(x, "lend() with the first's CUT", x.lend(), 1, 0);
    OnePlays one = parts(1, 1, true);
    Due.is(one, "lend() of one", one.lend(), 0, 0);
    // The last of seven MEETS all others, which are one behind the other.
    StringBuilder text = new StringBuilder(Due.head(0, 0, 1) + Due.scene("s", 70));
    for (int p = 0; p < 7; p++) {
      text.append(Due.part(name(p), "plain", 0, 0, 0));
      text.append(Due.on(name(p), "s", p == 6 ? 0 : 10 * p, p == 6 ? 70 : 10 * p + 10));
    }
    OnePlays last = Due.told(text.toString());
    Due.is(last, "lend() of the last", last.lend(), 6, 0);
    Due.says("lend: a part whose LENT is -2 isn't the least");
    OnePlays never = Due.told(Due.head(0, 0, 3) + Due.part("q", "plain", 0, 0, 0) + NEVER);
    Due.is(never, "lent(0)", never.lent(0), -2, 0);
    Due.is(never, "lend()", never.lend(), 1, 0);
    Due.says("lend: -2 if LENT always is -2");
    OnePlays two = Due.told(Due.head(0, 0, 3) + NEVER + Due.part("q", "plain", 0, 0, 0)
        + Due.on("q", "s", 0, 5) + Due.on("q", "s", 4, 9));
    Due.is(two, "lend()", two.lend(), -2, 0);
    Due.says("lend: -2 if LENT always is -2, though FEWEST isn't");
    // p and q take turns; each alone has a walk of 9 to do in 5 seconds.
    OnePlays turns = Due.told(Due.head(9, 0, 1) + Due.part("p", "plain", 1, 0, 0)
        + Due.part("q", "plain", 2, 0, 0) + Due.scene("s", 20) + Due.on("p", "s", 0, 5)
        + Due.on("q", "s", 5, 10, "left right") + Due.on("p", "s", 10, 15, "right left")
        + Due.on("q", "s", 15, 20));
    Due.is(turns, "fewest()", turns.fewest(), 1, 0);
    Due.is(turns, "lent(0)", turns.lent(0), -2, 0);
    Due.is(turns, "lent(1)", turns.lent(1), -2, 0);
    Due.is(turns, "lend()", turns.lend(), -2, 0);
  }

  // ------------------------------------------------------------- GAP, SWAPS, WHO

  /** From a's end to b's begin there is the gap alone. */
  private static OnePlays gapOf(int told, int needed) {
    return Due.told(Due.head(0, told, 1) + Due.part("a", "plain", 0, 0, needed / 2)
        + Due.part("b", "plain", 0, needed - needed / 2, 0) + Due.scene("s", 9) + Due.scene("t", 9)
        + Due.on("a", "s", 0, 9) + Due.on("b", "t", 0, 9));
  }

  private static void gap() {
    Due.says("GAP: the least gap (0 .. 99) by which as many players as told do; -2 if 99 doesn't do");
    for (int needed = 0; needed <= 99; needed++) {
      Due.is("gap() of " + needed, gapOf(needed % 3 * 49, needed).gap(), needed);
    }
    OnePlays x = gapOf(99, 100);
    Due.is(x, "gap() of 100", x.gap(), -2, 0);
    Due.is(x, "gap() of 101", gapOf(0, 101).gap(), -2, 0);
    Due.says("GAP leaves the gap told as it is");
    OnePlays y = gapOf(50, 10);
    Due.is(y, "gap()", y.gap(), 10, 0);
    Due.is("begins(1, false)", y.begins(1, false), 59);
    Due.is("slack(0)", y.slack(0), 40);
    Due.says("GAP: as many players as told: with one more none is needed");
    OnePlays two = Due.told(Due.head(0, 5, 2) + Due.part("a", "plain", 0, 0, 9)
        + Due.part("b", "plain", 0, 9, 0) + Due.scene("s", 9) + Due.scene("t", 9)
        + Due.on("a", "s", 0, 9) + Due.on("b", "t", 0, 9));
    Due.is(two, "gap()", two.gap(), 0, 0);
    Due.says("GAP: -2 where no gap helps");
    OnePlays never = Due.told(Due.head(0, 99, 3) + NEVER);
    Due.is(never, "gap()", never.gap(), -2, 0);
    never.cut(0, true);
    Due.is(never, "gap() with one CUT", never.gap(), 0, 0);
    Due.says("GAP: in the ORDER there is");
    OnePlays z = Due.told(pair(1));
    Due.is("gap()", z.gap(), 10);
    z.swap(0, 1);
    Due.is("gap() in the other ORDER", z.gap(), 0);
  }

  private static void swaps() {
    Due.says("SWAPS: 0 if the ORDER there is does; 1; -2 if there is no such ORDER");
    OnePlays x = Due.told(pair(1));
    Due.is(x, "swaps()", x.swaps(), 1, 0);
    Due.is("scene(0) is as before", x.scene(0), 0);
    x.swap(0, 1);
    Due.is(x, "swaps() behind it", x.swaps(), 0, 0);
    OnePlays two = Due.told(pair(2));
    Due.is(two, "swaps() for two", two.swaps(), 0, 0);
    OnePlays bound = Due.told(pair(1) + Due.after("x", "y"));
    Due.is(bound, "swaps() of one ORDER", bound.swaps(), -2, 0);
    OnePlays never = Due.told(Due.head(0, 0, 3) + NEVER);
    Due.is(never, "swaps() of never", never.swaps(), -2, 0);
    Due.says("SWAPS: back to the first ORDER");
    OnePlays first = Due.told(Due.head(0, 0, 1) + Due.part("a", "plain", 0, 5, 5)
        + Due.part("b", "plain", 1, 0, 5) + Due.scene("x", 10) + Due.scene("y", 20)
        + Due.on("a", "x", 0, 10) + Due.on("b", "y", 0, 20));
    Due.is(first, "swaps()", first.swaps(), 0, 0);
    first.swap(0, 1);
    Due.is(first, "swaps() behind one", first.swaps(), 1, 0);
    Due.says("SWAPS: each of two scenes, not of neighbours alone: of five in a row back two");
    OnePlays last = Due.told(Due.head(1, 0, 1) + lastOrder());
    Due.is(last, "swaps()", last.swaps(), 2, 0);
    last.swap(0, 4);
    Due.is(last, "swaps() behind one", last.swaps(), 1, 0);
    last.swap(1, 3);
    Due.is(last, "swaps() behind two", last.swaps(), 0, 0);
    last.swap(0, 1);
    last.swap(1, 2);
    last.swap(2, 3);
    last.swap(3, 4);
    Due.is(last, "swaps() of a ring of five", last.swaps(), 4, 0);
    Due.says("SWAPS: each to an ORDER: by the afters it takes four for two");
    // Off right and in left takes a walk; only c, d, a, b goes.
    String four = Due.head(1, 0, 1) + Due.part("p", "plain", 0, 0, 0) + Due.scene("a", 5)
        + Due.scene("b", 5) + Due.scene("c", 5) + Due.scene("d", 5) + Due.on("p", "a", 0, 5)
        + Due.on("p", "b", 0, 5) + Due.on("p", "c", 0, 5, "right right")
        + Due.on("p", "d", 0, 5, "right left");
    OnePlays free = Due.told(four);
    Due.is(free, "swaps() without an after", free.swaps(), 2, 0);
    OnePlays held = Due.told(four + Due.after("a", "b") + Due.after("c", "d"));
    Due.is(held, "swaps() by two afters", held.swaps(), 4, 0);
  }

  private static void who() {
    Due.says("WHO: how many CASTS (players by numbers, not all of them need play)");
    OnePlays row = parts(7, 1, false);
    int[] due = {1, 128, 2187};
    for (int players = 1; players <= 3; players++) {
      Due.is(row, "who(" + players + ") of 7 in a row", row.who(players), due[players - 1], 0);
    }
    OnePlays three = parts(3, 1, true);
    Due.is(three, "who(1) of 3 at once", three.who(1), 0, 0);
    Due.is(three, "who(2) of 3 at once", three.who(2), 0, 0);
    Due.is(three, "who(3) of 3 at once", three.who(3), 6, 0);
    OnePlays one = parts(1, 1, true);
    Due.is(one, "who(3) of 1", one.who(3), 3, 0);
    OnePlays never = Due.told(Due.head(0, 0, 3) + NEVER);
    Due.is(never, "who(3) of never", never.who(3), 0, 0);
    never.cut(0, true);
    Due.is(never, "who(3) with one CUT", never.who(3), 3, 0);
    Due.says("WHO: a part without an APPEARANCE is by any of them");
    OnePlays none = Due.told(Due.head(0, 0, 1) + Due.part("p", "plain", 0, 0, 0)
        + Due.part("q", "plain", 0, 0, 0) + Due.scene("s", 1));
    Due.is(none, "who(3) of none on", none.who(3), 9, 0);
    Due.says("WHO: a part that can't be by itself, but with another one");
    // q's way across the stage, in no time, is between p's two.
    OnePlays across = Due.told(Due.head(9, 0, 1) + Due.part("p", "plain", 1, 9, 9)
        + Due.part("q", "plain", 2, 0, 0) + Due.scene("s", 20) + Due.on("p", "s", 0, 5)
        + Due.on("p", "s", 10, 15, "right right") + Due.on("q", "s", 6, 9, "left right"));
    for (int players = 1; players <= 3; players++) {
      Due.is(across, "who(" + players + ")", across.who(players), players, 0);
    }
    Due.is(across, "fewest()", across.fewest(), 1, 0);
    Due.says("who: 2 (1 .. 3)");
    Due.is(row, "who(0)", row.who(0), -1, 2);
    Due.is(row, "who(4)", row.who(4), -1, 2);
    for (int players : NO_SUCH) {
      Due.is(row, "who(" + players + ")", row.who(players), -1, 2);
    }
  }
}

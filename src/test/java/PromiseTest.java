import java.util.NoSuchElementException;

/** For each promise of the document what it asks, its edges and wrong inputs, worked out by hand. */
public final class PromiseTest {
  private static int wrong = 0;
  private static int checks = 0;
  private static int promise = 0;

  private static final String HEAD = "piece walk 5 gap 10 players 1;";
  private static final String PARTS = "part king plain coat 2 don 4 doff 3;"
      + "part fool beard 6 coat 2 don 2 doff 1;part cloak plain coat 5 don 3 doff 2;"
      + "part doll puppet coat 0 don 0 doff 0;part corpse dead coat 1 don 9 doff 7;";
  private static final String SCENES = "scene one lasts 60;scene two lasts 40;";
  /** Five parts, two scenes, seven appearances, three seen. */
  private static final String COURT = HEAD + PARTS + SCENES + "after one two;"
      + "on king one 0 to 20 left right;on fool one 34 to 50 left left;"
      + "on cloak one 10 to 15 right right behind;on doll one 5 to 18 left left;"
      + "on corpse two 0 to 10 left left;on king two 20 to 30 right right;"
      + "on corpse two 25 to 40 left left;"
      + "saw king 10 left;saw fool 15 right;saw king 40 right";
  /** Two parts, two scenes in any order, of which one is better. */
  private static final String PAIR = "piece walk 0 gap 0 players 2;"
      + "part a plain coat 1 don 5 doff 5;part b plain coat 1 don 5 doff 5;"
      + "scene x lasts 10;scene y lasts 20;on a x 0 to 10 left left;on b y 0 to 5 left left;"
      + "on a y 16 to 20 left left";
  /** What a line more is put behind. */
  private static final String SHORT = "piece walk 3 gap 2 players 1;part p plain coat 1 don 4 doff 6;"
      + "scene s lasts 9;";

  public static void main(String[] args) {
    newObject();
    feeds();
    reads();
    formFaults();
    nameFaults();
    boundFaults();
    manyFaults();
    orderFaults();
    times();
    needs();
    bodilyOnes();
    canBe();
    troubles();
    sweats();
    fewestPlayers();
    allOrders();
    cutting();
    readyAndLent();
    gaps();
    swapsAndWho();
    sightings();
    acting();
    undoing();
    imaging();
    telling();
    sizes();
    troubleNumbers();
    crossing();
    longRun();
    System.out.println(checks + " checks of promises, " + wrong + " wrong");
    if (wrong != 0) {
      System.exit(1);
    }
  }

  private static void due(String what, long got, long want) {
    checks++;
    if (got != want) {
      wrong++;
      System.out.println("promise " + promise + ": " + what + " answered " + got + ", due is " + want);
    }
  }

  private static void due(String what, boolean got, boolean want) {
    due(what, got ? 1 : 0, want ? 1 : 0);
  }

  /** An answer, and the trouble behind it. */
  private static void due(OnePlays x, String what, long got, long want, int trouble) {
    due(what, got, want);
    due("trouble() behind " + what, x.trouble(), trouble);
  }

  private static void due(OnePlays x, String what, boolean got, boolean want, int trouble) {
    due(x, what, got ? 1 : 0, want ? 1 : 0, trouble);
  }

  private static OnePlays told(String text) {
    OnePlays x = new OnePlays();
    Texts.feed(x, text);
    if (x.piece(text.length()) == OnePlays.NONE) {
      wrong++;
      System.out.println("a text is refused at " + x.where() + " by " + x.fault() + ": " + text);
    }
    return x;
  }

  private static void fault(String text, int fault, int place) {
    OnePlays x = new OnePlays();
    Texts.feed(x, text);
    due(x, "piece of '" + text + "'", x.piece(text.length()), OnePlays.NONE, 4);
    due("fault() of '" + text + "'", x.fault(), fault);
    due("where() of '" + text + "'", x.where(), place);
    due("size(0) behind it", x.size(0), 0);
  }

  /** The fault at what stands behind the bar. */
  private static void faultAt(String text, int fault) {
    fault(text.replace("|", ""), fault, text.indexOf('|'));
  }

  private static void goes(String text) {
    OnePlays x = told(text);
    due("trouble() of '" + text + "'", x.trouble(), 0);
    due("fault() of '" + text + "'", x.fault(), 0);
  }

  private static boolean leads(OnePlays x, int player, int i) {
    try {
      x.led(player, i);
      return true;
    } catch (NoSuchElementException e) {
      return false;
    }
  }

  // ------------------------------------------------------------- 1: a new object

  private static void newObject() {
    promise = 1;
    due("NONE", OnePlays.NONE, -1);
    OnePlays x = new OnePlays();
    due("trouble()", x.trouble(), 0);
    for (int what = 0; what <= 9; what++) {
      due("size(" + what + ")", x.size(what), 0);
    }
    due(x, "orders()", x.orders(), -1, 1);
    due(x, "scene(0)", x.scene(0), -1, 1);
    due(x, "begins(0, false)", x.begins(0, false), -1, 1);
    due(x, "seen(0, true)", x.seen(0, true), -1, 1);
    due(x, "change(0, 0)", x.change(0, 0), -1, 1);
    due(x, "need(0, 0)", x.need(0, 0), -1, 1);
    due(x, "meet(0, 0)", x.meet(0, 0), -1, 1);
    due(x, "bodily(0)", x.bodily(0), -1, 1);
    due(x, "can(0)", x.can(0), -1, 1);
    due(x, "could(0)", x.could(0), -1, 1);
    due(x, "could(-1)", x.could(-1), -1, 1);
    due(x, "troubled()", x.troubled(), -1, 1);
    due(x, "slack(0)", x.slack(0), -1000, 1);
    due(x, "sweat(0, 0)", x.sweat(0, 0), -1, 1);
    due(x, "fewest()", x.fewest(), -1, 1);
    due(x, "player(0)", x.player(0), -1, 1);
    due(x, "fewestOfAll()", x.fewestOfAll(), -1, 1);
    due(x, "sceneOfAll(0)", x.sceneOfAll(0), -1, 1);
    due(x, "enough()", x.enough(), -1, 1);
    due(x, "cuts()", x.cuts(), -1, 1);
    due(x, "cutsBy()", x.cutsBy(), -1, 1);
    due(x, "ready(0)", x.ready(0), -1, 1);
    due(x, "lent(0)", x.lent(0), -1, 1);
    due(x, "lend()", x.lend(), -1, 1);
    due(x, "gap()", x.gap(), -1, 1);
    due(x, "swaps()", x.swaps(), -1, 1);
    due(x, "who(1)", x.who(1), -1, 1);
    due(x, "who(0)", x.who(0), -1, 1);
    due(x, "same(0, 1)", x.same(0, 1), -1, 1);
    due(x, "must()", x.must(), -1, 1);
    due(x, "betrayed()", x.betrayed(), -1, 1);
    due(x, "swap(0, 1)", x.swap(0, 1), false, 1);
    due(x, "cast(0, 0)", x.cast(0, 0), false, 1);
    due(x, "cut(0, true)", x.cut(0, true), false, 1);
    due(x, "undo()", x.undo(), false, 6);
    due(x, "redo()", x.redo(), false, 6);
    due(x, "image()", x.image(), -1, 1);
    due(x, "back(0)", x.back(0), false, 1);
    due(x, "part(0, 0)", x.part(0, 0), -1, 1);
    due(x, "on(0, 0)", x.on(0, 0), -1, 1);
    due("led(0, 0)", leads(x, 0, 0), false);
    due("fault()", x.fault(), 0);
    due("where()", x.where(), -1);
  }

  // ------------------------------------------------------------- 2 .. 5: the text

  private static void feeds() {
    promise = 2;
    OnePlays x = new OnePlays();
    for (int i = 1; i <= 45; i++) {
      due("feed " + i, x.feed(538976288, 538976288, 538976288, 538976288, 538976288), 20 * i);
    }
    due("feed 46", x.feed(0, 0, 0, 0, 0), -1);
    due("trouble() (feed tells no number)", x.trouble(), 0);
    due("size(9)", x.size(9), 900);
    due(x, "piece(901)", x.piece(901), -1, 2);
    due("size(9)", x.size(9), 900);
    due(x, "piece(900)", x.piece(900), -1, 4);
    due("where()", x.where(), 900);
    due("size(9)", x.size(9), 0);
    // The highest byte of a number comes first: "piec".
    due("feed", x.feed(0x70696563, 0x65202020, -1, 0, Integer.MIN_VALUE), 20);
    due("piece(8)", x.piece(8), -1);
    due("fault()", x.fault(), 1);
    due("where()", x.where(), 8);
    // A number below 0 begins with a byte above 127.
    x.feed(-1, 0, 0, 0, 0);
    due("piece(4)", x.piece(4), -1);
    due("where()", x.where(), 0);
  }

  private static void reads() {
    promise = 3;
    OnePlays x = new OnePlays();
    due(x, "piece(1)", x.piece(1), -1, 2);
    due("fault()", x.fault(), 0);
    due(x, "piece(-1)", x.piece(-1), -1, 2);
    due(x, "piece(0)", x.piece(0), -1, 4);
    due("fault()", x.fault(), 1);
    due("where()", x.where(), 0);
    Texts.feed(x, COURT);
    due(x, "piece(n)", x.piece(COURT.length()), 7, 0);
    due("fault()", x.fault(), 0);
    due("size(9)", x.size(9), 0);
    due("cast(1, 3)", x.cast(1, 3), true);
    due("image()", x.image(), 0);
    // By a FAULT the PIECE stays, THE EVENING, acts and images too.
    Texts.feed(x, "piece walk 100");
    promise = 4;
    due(x, "piece(14)", x.piece(14), -1, 4);
    due("fault()", x.fault(), 4);
    due("where()", x.where(), 11);
    due("size(0)", x.size(0), 5);
    due("size(6)", x.size(6), 1);
    due("size(8)", x.size(8), 1);
    due("part(1, 5)", x.part(1, 5), 3);
    due("fault() stays", x.fault(), 4);
    promise = 5;
    due("where() behind another call", x.where(), -1);
    promise = 4;
    x.feed(0, 0, 0, 0, 0);
    due(x, "piece(21)", x.piece(21), -1, 2);
    due("fault() of the one ahead", x.fault(), 4);
    due("where()", x.where(), -1);
    // Only the first n bytes count, and the others go, too.
    promise = 3;
    OnePlays y = new OnePlays();
    Texts.feed(y, PAIR + ";;;;;");
    due(y, "piece(n)", y.piece(PAIR.length()), 3, 0);
    due("size(9)", y.size(9), 0);
    // A new PIECE: THE EVENING is as at first, no ACTS, no IMAGES.
    due("swap(0, 1)", y.swap(0, 1), true);
    due("cut(0, true)", y.cut(0, true), true);
    due("image()", y.image(), 0);
    due("undo()", y.undo(), true);
    Texts.feed(y, PAIR);
    due(y, "piece(n)", y.piece(PAIR.length()), 3, 0);
    due("scene(0)", y.scene(0), 0);
    due("on(0, 5)", y.on(0, 5), 0);
    for (int what = 6; what <= 8; what++) {
      due("size(" + what + ")", y.size(what), 0);
    }
    promise = 5;
    Texts.feed(y, "?");
    y.piece(1);
    due("where()", y.where(), 0);
    due("size, fault, feed leave it", y.size(0) + y.fault() + y.feed(0, 0, 0, 0, 0), 2 + 1 + 20);
    due("where()", y.where(), 0);
    due("led", leads(y, 9, 0), false);
    due("where()", y.where(), 0);
    y.orders();
    due("where()", y.where(), -1);
  }

  private static void formFaults() {
    promise = 4;
    faultAt("|", 1);
    faultAt("   |", 1);
    faultAt("|;", 1);
    faultAt("|,", 1);
    faultAt("|king", 1);
    faultAt("|walk 5", 1);
    faultAt("|behind", 1);
    faultAt("|5", 1);
    faultAt("|Piece", 1);
    faultAt("p|Iece", 1, 0);
    faultAt("|piecepiece", 1);
    faultAt("piece|", 1);
    faultAt("piece  |", 1);
    faultAt("piece |5", 1);
    faultAt("piece walk |walk", 1);
    faultAt("piece walk |1000", 1);
    faultAt("piece walk 5|;", 1);
    faultAt("piece walk 5 gap 5 players 1 |1", 1);
    faultAt("piece walk 5 gap 5 players 1|,", 1);
    faultAt(SHORT + "|", 1);
    faultAt(SHORT + "|;", 1);
    faultAt("part |piece", 1);
    faultAt("part |behind", 1);
    faultAt("part |saw", 1);
    faultAt("part |after", 1);
    faultAt("part |scene", 1);
    faultAt("part |part", 1);
    faultAt("part |on", 1);
    faultAt("part |7", 1);
    faultAt("part |abcdefghi plain", 1);
    faultAt("part p |odd", 1);
    faultAt("part p plain |beard", 1);
    faultAt("part p beard |coat", 1);
    faultAt("part p plain coat 1 |doff", 1);
    faultAt("part p plain coat 1 don 1 |don", 1);
    faultAt("scene s |last 1", 1);
    faultAt("scene s lasts 1 |left", 1);
    faultAt(SHORT + "on p s 1 |till 2", 1);
    faultAt(SHORT + "on p s 1 to 2 |up", 1);
    faultAt(SHORT + "on p s 1 to 2 left |behind", 1);
    faultAt(SHORT + "on p s 1 to 2 left left |left", 1);
    faultAt(SHORT + "on p s 1 to 2 left left behind |behind", 1);
    faultAt(SHORT + "saw p 1 |behind", 1);
    faultAt(SHORT + "saw p |1000 left", 1);
    faultAt(SHORT + "saw p 1 left |behind", 1);
    faultAt("piece walk 5\t|", 1, 12);
    faultAt("piece walk |-5", 1);
    // Blanks part tokens and mean nothing else; letters and digits are apart by themselves.
    goes("  piece walk5gap0players3;part a dead coat0don0doff0  ;scene b lasts1 ");
    goes("scene abcdefgh lasts 500;part b beard 099 coat 009 don 099 doff 000;"
        + "piece walk 99 gap 099 players 01");
    // Words of the lines are names, too, but for seven.
    goes("piece walk 0 gap 0 players 1;part walk dead coat 0 don 0 doff 0;"
        + "part left beard 9 coat 0 don 0 doff 0;scene lasts lasts 5;scene to lasts 5;"
        + "after to lasts;on left to 0 to 5 left right;saw walk 999 right");
  }

  private static void faultAt(String text, int fault, int place) {
    fault(text.replace("|", ""), fault, place);
  }

  private static void nameFaults() {
    promise = 4;
    faultAt("after |s", 2);
    faultAt("on |p", 2);
    faultAt("saw |p", 2);
    faultAt(SHORT + "on |s", 2);
    faultAt(SHORT + "on p |p", 2);
    faultAt(SHORT + "on p |q", 2);
    faultAt(SHORT + "saw |s", 2);
    faultAt(SHORT + "after |p s", 2);
    faultAt(SHORT + "after s |p", 2);
    faultAt(SHORT + "after s |t", 2);
    faultAt(SHORT + "part |p", 3);
    faultAt(SHORT + "part |s", 3);
    faultAt(SHORT + "scene |s", 3);
    faultAt(SHORT + "scene |p", 3);
    faultAt(SHORT + "after s |s", 3);
    faultAt(SHORT + "|piece", 3);
    faultAt(SHORT + "|piece walk 1 gap 1 players 1", 3);
    // The first that is met from the left.
    faultAt(SHORT + "on |q s 99 to 1 up", 2);
    faultAt(SHORT + "on p s |99 to ?", 4);
  }

  private static void boundFaults() {
    promise = 4;
    faultAt("piece walk |100", 4);
    faultAt("piece walk 0 gap |100", 4);
    faultAt("piece walk 0 gap 0 players |0", 4);
    faultAt("piece walk 0 gap 0 players |4", 4);
    faultAt("part p beard |100", 4);
    faultAt("part p plain coat |10", 4);
    faultAt("part p plain coat 9 don |100", 4);
    faultAt("part p plain coat 9 don 99 doff |100", 4);
    faultAt("scene s lasts |0", 4);
    faultAt("scene s lasts |501", 4);
    faultAt(SHORT + "on p s |9", 4);
    faultAt(SHORT + "on p s 5 to |5", 4);
    faultAt(SHORT + "on p s 5 to |10", 4);
    goes(SHORT + "on p s 8 to 9 left left");
    goes(SHORT + "on p s 0 to 9 left left behind");
    goes(SHORT + "saw p 999 left;saw p 0 right");
  }

  private static void manyFaults() {
    promise = 4;
    StringBuilder parts = new StringBuilder();
    StringBuilder scenes = new StringBuilder();
    for (int i = 0; i < 7; i++) {
      parts.append("part p").append((char) ('a' + i)).append(" dead coat 0 don 0 doff 0;");
    }
    faultAt(parts + "|part", 5);
    faultAt(parts + "|part pa", 5);
    for (int i = 0; i < 5; i++) {
      scenes.append("scene s").append((char) ('a' + i)).append(" lasts 5;");
    }
    faultAt(scenes + "|scene", 5);
    StringBuilder afters = new StringBuilder(scenes);
    for (int i = 0; i < 6; i++) {
      afters.append("after sa sb;");
    }
    faultAt(afters + "|after", 5);
    goes(HEAD + "part p dead coat 0 don 0 doff 0;" + afters.substring(0, afters.length() - 1));
    StringBuilder ons = new StringBuilder(SHORT);
    for (int i = 0; i < 14; i++) {
      ons.append("on p s 1 to 2 left left;");
    }
    faultAt(ons + "|on", 5);
    goes(ons.substring(0, ons.length() - 1));
    StringBuilder saws = new StringBuilder(SHORT);
    for (int i = 0; i < 7; i++) {
      saws.append("saw p 1 left;");
    }
    faultAt(saws + "|saw", 5);
    goes(saws.substring(0, saws.length() - 1));
    // LACKS, at the end; of one place FORM comes ahead of it.
    faultAt("piece walk 1 gap 1 players 1|", 6);
    faultAt("piece walk 1 gap 1 players 1;part p dead coat 0 don 0 doff 0|", 6);
    faultAt("piece walk 1 gap 1 players 1;scene s lasts 5  |", 6);
    faultAt("part p dead coat 0 don 0 doff 0;scene s lasts 5|", 6);
    faultAt("piece walk 1 gap 1 players 1;|", 1);
  }

  private static void orderFaults() {
    promise = 4;
    String three = "scene s lasts 9;scene t lasts 9;scene u lasts 9;";
    faultAt(three + "after s t;after t |s", 7);
    faultAt(three + "after s t;after t u;after u |s;after ?", 7);
    goes(HEAD + "part p dead coat 0 don 0 doff 0;" + three + "after s t;after s t;after u t");
    promise = 6;
    due("orders()", told(HEAD + "part p dead coat 0 don 0 doff 0;" + three + "after u t").orders(), 3);
    due("orders()", told(HEAD + "part p dead coat 0 don 0 doff 0;"
        + three.substring(0, three.length() - 1)).orders(), 6);
    due("orders()", told(HEAD + "part p dead coat 0 don 0 doff 0;" + three
        + "scene v lasts 1;scene w lasts 1").orders(), 120);
    due("orders()", told(COURT).orders(), 1);
    promise = 7;
    // At first the first ORDER by numbers.
    OnePlays x = told(HEAD + "part p dead coat 0 don 0 doff 0;" + three + "after u s");
    due("scene(0)", x.scene(0), 1);
    due("scene(1)", x.scene(1), 2);
    due("scene(2)", x.scene(2), 0);
    due(x, "scene(3)", x.scene(3), -1, 1);
    due(x, "scene(-1)", x.scene(-1), -1, 1);
    due("orders()", x.orders(), 3);
  }

  // ------------------------------------------------------------- 8 .. 18: an evening

  private static void times() {
    promise = 8;
    OnePlays x = told(COURT);
    due("begins(0, false)", x.begins(0, false), 0);
    due("begins(0, true)", x.begins(0, true), 60);
    due("begins(1, false)", x.begins(1, false), 70);
    due("begins(1, true)", x.begins(1, true), 110);
    due(x, "begins(2, false)", x.begins(2, false), -1, 1);
    due(x, "begins(-1, false)", x.begins(-1, false), -1, 1);
    promise = 9;
    due("seen(5, false)", x.seen(5, false), 90);
    due("seen(5, true)", x.seen(5, true), 100);
    due(x, "seen(7, true)", x.seen(7, true), -1, 1);
    OnePlays y = told(PAIR);
    y.swap(0, 1);
    promise = 8;
    due("begins(1, false)", y.begins(1, false), 0);
    due("begins(0, false)", y.begins(0, false), 20);
    promise = 9;
    due("seen(2, false)", y.seen(2, false), 16);
    due("seen(0, true)", y.seen(0, true), 30);
    promise = 12;
    due("meet(0, 2)", x.meet(0, 2), 1);
    due("meet(2, 0)", x.meet(2, 0), 1);
    due("meet(0, 1)", x.meet(0, 1), 0);
    due("meet(4, 0)", x.meet(4, 0), 0);
    due("meet(3, 3)", x.meet(3, 3), 1);
    due(x, "meet(0, 7)", x.meet(0, 7), -1, 1);
    due(x, "meet(-1, 0)", x.meet(-1, 0), -1, 1);
    // One that begins at the other's end doesn't meet it; gap 0, scenes one behind the other.
    due("meet(0, 1)", y.meet(0, 1), 0);
    OnePlays z = told(SHORT + "on p s 0 to 4 left left;on p s 4 to 9 left left;on p s 3 to 5 left left");
    due("meet(0, 1)", z.meet(0, 1), 0);
    due("meet(0, 2)", z.meet(0, 2), 1);
    due("meet(1, 2)", z.meet(1, 2), 1);
  }

  private static void needs() {
    promise = 10;
    OnePlays x = told(COURT);
    due("alike: doff, don and beard", x.change(0, 1), 3 + 2 + 6);
    due("alike", x.change(1, 0), 1 + 4);
    due("higher: don", x.change(0, 2), 3);
    due("lower: doff", x.change(2, 0), 2);
    due("higher, with a beard", x.change(3, 1), 2 + 6);
    due("lower, from a beard", x.change(1, 3), 1);
    due("one and the same", x.change(1, 1), 0);
    due(x, "change(5, 0)", x.change(5, 0), -1, 1);
    due(x, "change(0, -1)", x.change(0, -1), -1, 1);
    due("change(4, 4)", x.change(4, 4), 0);
    promise = 11;
    due("with a walk", x.need(0, 1), 11 + 5);
    due("without", x.need(1, 4), 1);
    due("behind ones, too", x.need(2, 1), 2 + 5);
    due("of one to itself", x.need(0, 0), 5);
    due("of one to itself", x.need(1, 1), 0);
    due(x, "need(7, 0)", x.need(7, 0), -1, 1);
    due(x, "need(0, 7)", x.need(0, 7), -1, 1);
  }

  private static void bodilyOnes() {
    promise = 13;
    OnePlays x = told(COURT);
    int[] due = {1, 1, 0, 0, 1, 1, 0};
    for (int k = 0; k < 7; k++) {
      due("bodily(" + k + ")", x.bodily(k), due[k]);
    }
    due(x, "bodily(7)", x.bodily(7), -1, 1);
    // With the first of the dead CUT the next needs him.
    x.cut(4, true);
    due("bodily(4) cut", x.bodily(4), 0);
    due("bodily(6)", x.bodily(6), 1);
    x.cut(0, true);
    due("bodily(0) cut", x.bodily(0), 0);
    // The first in time, not by numbers; of one time by numbers; not one behind.
    OnePlays y = told(HEAD + "part d dead coat 0 don 0 doff 0;" + SCENES
        + "on d two 1 to 5 left left;on d one 3 to 5 left left;on d one 3 to 4 left left;"
        + "on d one 1 to 2 left left behind");
    due("bodily(0)", y.bodily(0), 0);
    due("bodily(1)", y.bodily(1), 1);
    due("bodily(2)", y.bodily(2), 0);
    due("bodily(3)", y.bodily(3), 0);
    y.swap(0, 1);
    due("bodily(0) swapped", y.bodily(0), 1);
    due("bodily(1) swapped", y.bodily(1), 0);
    // Each of two dead ones has a first.
    OnePlays v = told(HEAD + "part d dead coat 0 don 0 doff 0;part e dead coat 0 don 0 doff 0;" + SCENES
        + "on d one 1 to 2 left left;on d one 3 to 4 left left;on e one 5 to 6 left left;"
        + "on e one 7 to 8 left left");
    due("bodily(1)", v.bodily(1), 0);
    due("bodily(2)", v.bodily(2), 1);
    due("bodily(3)", v.bodily(3), 0);
    // A puppet that is behind is behind.
    OnePlays z = told(HEAD + "part d puppet coat 0 don 0 doff 0;part e plain coat 0 don 0 doff 0;"
        + SCENES + "on d one 1 to 5 left left;on d one 2 to 5 left left behind;"
        + "on d one 6 to 8 left left behind;on e one 7 to 9 left left");
    due("bodily(1)", z.bodily(1), 0);
    promise = 15;
    due("a puppet and one behind", z.could(1), 1);
    due("one behind and a bodily one", z.could(3), 0);
  }

  private static void canBe() {
    promise = 14;
    OnePlays x = told(COURT);
    due("can(0)", x.can(0), 0);
    due("can(6) of no parts", x.can(6), 1);
    due(x, "can(7)", x.can(7), -1, 1);
    due(x, "can(-1)", x.can(-1), -1, 1);
    x.cut(2, true);
    x.cast(1, 1);
    due("can(0) without cloak and fool", x.can(0), 1);
    due("can(1)", x.can(1), 1);
    promise = 15;
    OnePlays y = told(COURT);
    due("none", y.could(0), 1);
    due("king", y.could(1), 1);
    due("king, fool", y.could(3), 0);
    due("king, cloak behind", y.could(5), 0);
    due("fool, cloak", y.could(6), 1);
    due("king, doll", y.could(9), 1);
    due("cloak, doll", y.could(12), 1);
    due("king, corpse", y.could(17), 1);
    due(y, "could(32)", y.could(32), -1, 2);
    due(y, "could(-1)", y.could(-1), -1, 2);
    due(y, "could(31)", y.could(31), 0, 0);
    y.cut(2, true);
    due("king, cloak cut", y.could(5), 1);
    // Just NEED, and a second less.
    String two = "piece walk 3 gap 0 players 1;part a plain coat 1 don 4 doff 6;"
        + "part b beard 2 coat 2 don 5 doff 1;scene s lasts 99;on a s 0 to 10 left right;";
    due("10 seconds", told(two + "on b s 20 to 30 left left").could(3), 1);
    due("9 seconds", told(two + "on b s 19 to 30 left left").could(3), 0);
    due("no walk", told(two + "on b s 17 to 30 right left").could(3), 1);
    due("no walk, a second less", told(two + "on b s 16 to 30 right left").could(3), 0);
    // Two puppets, two behind, none may meet; a puppet's own neither.
    String dolls = "piece walk 0 gap 0 players 1;part a puppet coat 0 don 0 doff 0;"
        + "part b puppet coat 0 don 0 doff 0;scene s lasts 99;on a s 0 to 10 left left;";
    due("puppets meet", told(dolls + "on b s 9 to 20 left left").could(3), 0);
    due("puppets don't", told(dolls + "on b s 10 to 20 right left").could(3), 1);
    due("its own", told(dolls + "on a s 9 to 20 left left").could(1), 0);
    due("puppet behind", told(dolls + "on b s 9 to 20 left left behind").could(3), 1);
    String voices = "piece walk 9 gap 0 players 1;part a plain coat 0 don 9 doff 9;"
        + "part b dead coat 0 don 9 doff 9;scene s lasts 99;on a s 0 to 10 left left behind;";
    due("behind both", told(voices + "on b s 9 to 20 left left behind").could(3), 0);
    due("behind, no need", told(voices + "on b s 10 to 20 right left").could(3), 1);
    due("behind and bodily", told(voices + "on b s 9 to 20 left left").could(3), 0);
    // A dummy meets whom it may.
    due("dummy", told(voices + "on b s 12 to 13 left left;on a s 40 to 50 left left;"
        + "on b s 41 to 45 left left").could(3), 1);
  }

  private static void troubles() {
    promise = 16;
    OnePlays x = told(COURT);
    due("troubled()", x.troubled(), 2);
    x.cut(2, true);
    due("troubled()", x.troubled(), 1);
    x.cast(1, 1);
    due("troubled()", x.troubled(), -2);
    // By time, of one time by numbers.
    OnePlays y = told(SHORT + "on p s 4 to 6 left left;on p s 2 to 5 left left;on p s 2 to 3 left left");
    due("troubled()", y.troubled(), 2);
    y.cut(1, true);
    due("troubled()", y.troubled(), -2);
    y.cut(1, false);
    y.cut(2, true);
    due("troubled()", y.troubled(), 0);
    promise = 17;
    OnePlays z = told(COURT);
    due("slack(0)", z.slack(0), 34 - 20 - 16);
    due("slack(1)", z.slack(1), 999);
    due(z, "slack(7)", z.slack(7), -1000, 1);
    due(z, "slack(-1)", z.slack(-1), -1000, 1);
    z.cast(1, 1);
    due("slack(0)", z.slack(0), 90 - 80 - 9);
    due("slack(1) of one alone", z.slack(1), 999);
    due("slack() that meets", y.slack(0), 4 - 5);
    y.undo();
    due("slack() that meets most", y.slack(0), 2 - 5);
    // More than 999 is told as it is.
    OnePlays w = told("piece walk 0 gap 99 players 1;part p plain coat 0 don 0 doff 0;"
        + "scene s lasts 500;scene t lasts 500;scene u lasts 500;scene v lasts 500;"
        + "on p s 0 to 1 left left;on p v 499 to 500 left left");
    due("slack() of a long one", w.slack(0), 3 * 599 + 499 - 1);
  }

  private static void sweats() {
    promise = 18;
    OnePlays x = told(COURT);
    int[] due = {20 + 16 + 10 + 10, 2, 3, 11 + 1 + 4, 5, 13};
    for (int what = 0; what <= 5; what++) {
      due("sweat(0, " + what + ")", x.sweat(0, what), due[what]);
      due("sweat(1, " + what + ")", x.sweat(1, what), 0);
    }
    due(x, "sweat(0, 6)", x.sweat(0, 6), -1, 1);
    due(x, "sweat(0, -1)", x.sweat(0, -1), -1, 1);
    due(x, "sweat(7, 0)", x.sweat(7, 0), -1, 1);
    x.cut(1, true);
    x.cut(2, true);
    x.cut(3, true);
    int[] then = {20 + 10 + 10, 2, 2, 3 + 4, 0, 0};
    for (int what = 0; what <= 5; what++) {
      due("sweat(0, " + what + ") cut", x.sweat(0, what), then[what]);
    }
    x.cut(4, true);
    // Now the dummy needs him, from 95 on; from the king alike it is not.
    due("sweat(0, 0)", x.sweat(0, 0), 20 + 10 + 15);
    due("sweat(0, 3)", x.sweat(0, 3), 3);
    due("sweat(0, 1)", x.sweat(0, 1), 1);
  }

  // ------------------------------------------------------------- 19 .. 31: fewest

  private static void fewestPlayers() {
    promise = 19;
    OnePlays x = told(COURT);
    due("fewest()", x.fewest(), 2);
    promise = 20;
    int[] who = {0, 1, 1, 0, 0};
    for (int p = 0; p < 5; p++) {
      due("player(" + p + ")", x.player(p), who[p]);
    }
    due(x, "player(5)", x.player(5), -1, 1);
    due(x, "player(-1)", x.player(-1), -1, 1);
    promise = 19;
    x.cut(0, true);
    due("fewest() without the king's first", x.fewest(), 1);
    promise = 20;
    due("player(1)", x.player(1), 0);
    OnePlays never = told(SHORT + "on p s 0 to 5 left left;on p s 4 to 6 left left");
    promise = 19;
    due(never, "fewest()", never.fewest(), -2, 0);
    promise = 20;
    due(never, "player(0)", never.player(0), -2, 0);
    // All seven at once.
    StringBuilder all = new StringBuilder("piece walk 0 gap 0 players 3;scene s lasts 9");
    for (int p = 0; p < 7; p++) {
      all.append(";part p").append((char) ('a' + p)).append(" plain coat 0 don 0 doff 0");
      all.append(";on p").append((char) ('a' + p)).append(" s 0 to 9 left left");
    }
    OnePlays seven = told(all.toString());
    promise = 19;
    due("fewest() of seven", seven.fewest(), 7);
    promise = 20;
    due("player(6)", seven.player(6), 6);
    promise = 31;
    due("who(3)", seven.who(3), 0);
    // A part without appearances needs a player all the same.
    OnePlays none = told("piece walk 0 gap 0 players 1;part p plain coat 0 don 0 doff 0;scene s lasts 1");
    promise = 19;
    due("fewest() without any", none.fewest(), 1);
    promise = 20;
    due("player(0)", none.player(0), 0);
    // The first cast by parts: b could be with either.
    OnePlays y = told("piece walk 0 gap 0 players 3;part a plain coat 1 don 0 doff 0;"
        + "part b plain coat 1 don 0 doff 0;part c plain coat 1 don 0 doff 0;"
        + "part d plain coat 1 don 0 doff 0;scene s lasts 30;on a s 0 to 9 left left;"
        + "on d s 5 to 15 left left;on b s 20 to 25 left left;on c s 21 to 30 left left");
    due("player(0)", y.player(0), 0);
    due("player(1)", y.player(1), 0);
    due("player(2)", y.player(2), 1);
    due("player(3)", y.player(3), 1);
    promise = 31;
    due("who(2)", y.who(2), 4);
    // Of three players, a other than d, b other than c: 6 and 6.
    due("who(3)", y.who(3), 36);
  }

  private static void allOrders() {
    promise = 21;
    OnePlays x = told(PAIR);
    due("fewestOfAll()", x.fewestOfAll(), 1);
    promise = 22;
    due("sceneOfAll(0)", x.sceneOfAll(0), 1);
    due("sceneOfAll(1)", x.sceneOfAll(1), 0);
    due(x, "sceneOfAll(2)", x.sceneOfAll(2), -1, 1);
    due(x, "sceneOfAll(-1)", x.sceneOfAll(-1), -1, 1);
    promise = 23;
    due("enough()", x.enough(), 1);
    OnePlays court = told(COURT);
    due("enough()", court.enough(), 0);
    promise = 21;
    due("fewestOfAll()", court.fewestOfAll(), 2);
    court.cut(0, true);
    due("fewestOfAll() cut", court.fewestOfAll(), 1);
    promise = 23;
    due("enough() cut", court.enough(), 1);
    // Where only another order is enough.
    OnePlays one = told(PAIR.replace("players 2", "players 1"));
    due("enough()", one.enough(), 1);
    due("fewest()", one.fewest(), 2);
    OnePlays never = told(SHORT + "on p s 0 to 5 left left;on p s 4 to 6 left left");
    promise = 21;
    due(never, "fewestOfAll()", never.fewestOfAll(), -2, 0);
    promise = 22;
    due(never, "sceneOfAll(0)", never.sceneOfAll(0), -2, 0);
    due(never, "sceneOfAll(1)", never.sceneOfAll(1), -1, 1);
    promise = 23;
    due(never, "enough()", never.enough(), 0, 0);
    // Of like orders the first.
    OnePlays like = told(HEAD + "part p plain coat 0 don 0 doff 0;scene s lasts 1;scene t lasts 1;"
        + "scene u lasts 1;after u s");
    promise = 22;
    due("sceneOfAll(0)", like.sceneOfAll(0), 1);
    due("sceneOfAll(1)", like.sceneOfAll(1), 2);
    due("sceneOfAll(2)", like.sceneOfAll(2), 0);
    promise = 21;
    due("fewestOfAll()", like.fewestOfAll(), 1);
  }

  private static void cutting() {
    promise = 24;
    OnePlays x = told(COURT);
    due("cuts()", x.cuts(), 1);
    promise = 25;
    due("cutsBy()", x.cutsBy(), 1);
    x.cut(0, true);
    promise = 24;
    due("cuts() with it cut", x.cuts(), 0);
    promise = 25;
    due("cutsBy() with it cut", x.cutsBy(), 0);
    // Four that meet: for one player three must go, of like ones the least bits.
    String four = "on p s 0 to 5 left left;on p s 1 to 6 left left;on p s 2 to 7 left left;"
        + "on p s 3 to 8 left left";
    OnePlays y = told(SHORT + four);
    promise = 24;
    due("cuts()", y.cuts(), 3);
    promise = 25;
    due("cutsBy()", y.cutsBy(), 7);
    y.cut(1, true);
    promise = 24;
    due("cuts()", y.cuts(), 2);
    promise = 25;
    due("cutsBy()", y.cutsBy(), 1 | 4);
    OnePlays z = told(SHORT + four + ";on p s 4 to 9 left left");
    promise = 24;
    due(z, "cuts()", z.cuts(), -2, 0);
    promise = 25;
    due(z, "cutsBy()", z.cutsBy(), -2, 0);
    // {1, 2} has less bits than {0, 3}; 0 meets 1, 2 and 3 meets 1, 2: 0 and 3 stay or 1 and 2.
    OnePlays w = told(SHORT + "on p s 0 to 3 left left;on p s 2 to 6 left left;"
        + "on p s 2 to 7 left left;on p s 5 to 9 left left");
    promise = 24;
    due("cuts()", w.cuts(), 2);
    promise = 25;
    due("cutsBy()", w.cutsBy(), 2 | 4);
    // With two players a, b by one (b's first and a's first cut) has less bits than
    // a, c by one (c cut) and b's first: found though it needs two cuts of one player.
    OnePlays u = told("piece walk 0 gap 0 players 2;part a plain coat 0 don 0 doff 0;"
        + "part b plain coat 0 don 0 doff 0;part c plain coat 0 don 0 doff 0;scene s lasts 60;"
        + "on b s 10 to 20 left left;on a s 15 to 25 left left;on a s 40 to 45 left left;"
        + "on c s 14 to 42 left left;on b s 12 to 18 left left");
    promise = 24;
    due("cuts()", u.cuts(), 2);
    promise = 25;
    due("cutsBy()", u.cutsBy(), 1 | 2);
    // As many players as told: with two of them one of three goes.
    OnePlays v = told("piece walk 0 gap 0 players 2;part a plain coat 0 don 0 doff 0;"
        + "part b plain coat 0 don 0 doff 0;part c plain coat 0 don 0 doff 0;scene s lasts 9;"
        + "on c s 0 to 5 left left;on b s 0 to 5 left left;on a s 0 to 5 left left");
    promise = 24;
    due("cuts()", v.cuts(), 1);
    promise = 25;
    due("cutsBy()", v.cutsBy(), 1);
  }

  private static void readyAndLent() {
    promise = 26;
    OnePlays x = told(COURT);
    for (int p = 0; p < 5; p++) {
      due("ready(" + p + ")", x.ready(p), 0);
    }
    due(x, "ready(5)", x.ready(5), -1, 1);
    due(x, "ready(-1)", x.ready(-1), -1, 1);
    x.cut(2, true);
    due("ready(0)", x.ready(0), 1);
    due("ready(1): its don and beard", x.ready(1), 1);
    due("ready(4)", x.ready(4), 0);
    OnePlays never = told(SHORT + "on p s 0 to 5 left left;on p s 4 to 6 left left");
    due(never, "ready(0)", never.ready(0), -2, 0);
    promise = 27;
    OnePlays y = told(COURT);
    int[] lent = {1, 2, 2, 2, 2};
    for (int p = 0; p < 5; p++) {
      due("lent(" + p + ")", y.lent(p), lent[p]);
    }
    due(y, "lent(5)", y.lent(5), -1, 1);
    due(y, "lent(-1)", y.lent(-1), -1, 1);
    due("lent() of the one there is", never.lent(0), 0);
    promise = 28;
    due("lend()", y.lend(), 0);
    due(never, "lend()", never.lend(), 0, 0);
    // c meets a and b, which don't meet: without c one does. Of three at once each is as good.
    String meets = "part q plain coat 1 don 0 doff 0;part r plain coat 1 don 0 doff 0;";
    due("lend() of the last", told(SHORT.replace("don 4 doff 6", "don 0 doff 0") + meets
        + "on p s 0 to 2 left left;on q s 6 to 9 left left;on r s 1 to 8 left left").lend(), 2);
    due("lend() of like ones", told(SHORT + meets + "on p s 0 to 2 left left;on q s 0 to 9 left left;"
        + "on r s 1 to 8 left left").lend(), 0);
    // One that can't be: lent, the others do; with two such ones nothing helps.
    String bad = "on p s 0 to 5 left left;on p s 4 to 6 left left;";
    OnePlays one = told(SHORT + "part q plain coat 1 don 0 doff 0;" + bad + "on q s 0 to 1 left left");
    promise = 27;
    due(one, "lent(0)", one.lent(0), 1, 0);
    due(one, "lent(1)", one.lent(1), -2, 0);
    promise = 28;
    due("lend()", one.lend(), 0);
    OnePlays two = told(SHORT + "part q plain coat 1 don 0 doff 0;part r plain coat 1 don 0 doff 0;" + bad
        + "on q s 0 to 5 left left;on q s 4 to 6 left left");
    due(two, "lend()", two.lend(), -2, 0);
    promise = 27;
    due("lent(2)", two.lent(2), -2);
  }

  private static void gaps() {
    promise = 29;
    due("gap() that doesn't help", told(COURT).gap(), -2);
    due("gap()", told(PAIR).gap(), 0);
    // From the end of a to the begin of b: gap; both coats: 10 seconds.
    String apart = "piece walk 0 gap 50 players 1;part a plain coat 1 don 5 doff 5;"
        + "part b plain coat 1 don 5 doff 5;scene x lasts 10;scene y lasts 20;"
        + "on a x 0 to 10 left left;on b y 0 to 5 left left";
    due("gap()", told(apart).gap(), 10);
    due("gap() 99", told(apart.replace("don 5", "don 94")).gap(), 99);
    due("gap() 100", told(apart.replace("don 5", "don 95")).gap(), -2);
    due("gap() of none told", told(apart.replace("gap 50", "gap 0")).gap(), 10);
    due("gap() 1", told(apart.replace("don 5", "don 1").replace("doff 5", "doff 0")).gap(), 1);
    due("gap() of two players", told(apart.replace("players 1", "players 2")).gap(), 0);
    OnePlays x = told(apart);
    x.cut(0, true);
    due(x, "gap() cut", x.gap(), 0, 0);
    due("begins(1) by the gap told", x.begins(1, false), 60);
    due("slack(0)", told(apart).slack(0), 40);
  }

  private static void swapsAndWho() {
    promise = 30;
    OnePlays x = told(PAIR.replace("players 2", "players 1"));
    due("swaps()", x.swaps(), 1);
    x.swap(0, 1);
    due("swaps()", x.swaps(), 0);
    due("swaps() of none", told(COURT).swaps(), -2);
    String turn = "piece walk 0 gap 0 players 1;part a plain coat 1 don 1 doff 1;"
        + "part b plain coat 1 don 1 doff 1;part c plain coat 1 don 1 doff 1;"
        + "scene x lasts 4;scene y lasts 4;scene z lasts 4;"
        + "on a x 1 to 4 left left;on b y 0 to 2 left left;on c z 0 to 3 left left";
    // Two seconds lie only between b and c, c's end and a's begin: y, z, x alone does.
    due("swaps() y z x", told(turn).swaps(), 2);
    OnePlays bound = told(turn + ";after x z");
    due("swaps() with x ahead of z", bound.swaps(), -2);
    // The row of swaps goes by orders alone: from x y z over y x z to y z x.
    due("swaps() with y ahead of z", told(turn + ";after y z").swaps(), 2);
    promise = 31;
    OnePlays y = told(COURT);
    due("who(1)", y.who(1), 0);
    due("who(2)", y.who(2), 8);
    due("who(3)", y.who(3), 108);
    due(y, "who(4)", y.who(4), -1, 2);
    due(y, "who(0)", y.who(0), -1, 2);
    y.cut(0, true);
    due("who(1) cut", y.who(1), 1);
  }

  // ------------------------------------------------------------- 32 .. 34: what was seen

  private static void sightings() {
    promise = 32;
    OnePlays x = told(COURT);
    due("same(0, 1)", x.same(0, 1), 0);
    due("same(1, 0)", x.same(1, 0), 0);
    due("same(1, 2)", x.same(1, 2), 1);
    due("same(0, 2)", x.same(0, 2), 1);
    due(x, "same(1, 1)", x.same(1, 1), -1, 1);
    due(x, "same(3, 0)", x.same(3, 0), -1, 1);
    due(x, "same(0, -1)", x.same(0, -1), -1, 1);
    String just = "piece walk 5 gap 0 players 1;part a plain coat 1 don 4 doff 3;"
        + "part b plain coat 1 don 2 doff 1;scene s lasts 1;saw a 10 left;saw b ";
    due("just", told(just + "15 left").same(0, 1), 1);
    due("a second less", told(just + "14 left").same(0, 1), 0);
    due("just with a walk", told(just + "20 right").same(0, 1), 1);
    due("a second less", told(just + "19 right").same(0, 1), 0);
    due("ahead of it", told(just + "5 left").same(0, 1), 1);
    due("ahead of it, a second less", told(just + "6 left").same(0, 1), 0);
    OnePlays at = told(just + "10 left;saw a 10 left;saw a 10 right");
    due("of one second, unlike", at.same(0, 1), 0);
    due("of one second, alike", at.same(0, 2), 1);
    due("of one second, sides unlike", at.same(0, 3), 0);
    // Of one second by numbers: b over a in no time, b off again not.
    String once = "piece walk 5 gap 0 players 1;part a plain coat 1 don 4 doff 3;"
        + "part b plain coat 2 don 0 doff 1;scene s lasts 1;";
    due("a, then b", told(once + "saw a 10 left;saw b 10 left").same(0, 1), 1);
    due("b, then a", told(once + "saw b 10 left;saw a 10 left").same(0, 1), 0);
    promise = 33;
    due("must()", x.must(), 2);
    due("must()", at.must(), 3);
    due("must() without any", told(PAIR).must(), 0);
    // a, c are too near, but b between them is put on and off at once; all can be one.
    OnePlays via = told("piece walk 0 gap 0 players 1;part a plain coat 1 don 20 doff 20;"
        + "part b plain coat 2 don 1 doff 1;part c plain coat 1 don 20 doff 20;scene s lasts 1;"
        + "saw a 10 left;saw b 12 left;saw c 14 left");
    due("must() by the one between", via.must(), 1);
    promise = 32;
    due("same() without it", via.same(0, 2), 0);
    promise = 34;
    due("betrayed()", via.betrayed(), 2);
    due("betrayed()", x.betrayed(), 1);
    due("betrayed()", told(PAIR).betrayed(), -2);
    due("betrayed() 2, 3", told("piece walk 5 gap 0 players 1;part a plain coat 1 don 4 doff 3;"
        + "part b plain coat 1 don 2 doff 1;scene s lasts 1;saw a 0 left;saw a 10 left;"
        + "saw a 100 left;saw b 102 left").betrayed(), 8 * 2 + 3);
    promise = 33;
    due(x, "must()", x.must(), 2, 0);
  }

  // ------------------------------------------------------------- 35 .. 41: acts

  private static void acting() {
    promise = 35;
    OnePlays x = told(COURT);
    due(x, "swap() against after", x.swap(0, 1), false, 5);
    due(x, "swap(0, 0)", x.swap(0, 0), false, 1);
    due(x, "swap(0, 2)", x.swap(0, 2), false, 1);
    due(x, "swap(-1, 0)", x.swap(-1, 0), false, 1);
    due("size(6)", x.size(6), 0);
    OnePlays y = told(HEAD + "part p plain coat 0 don 0 doff 0;scene s lasts 1;scene t lasts 2;"
        + "scene u lasts 3;after s u");
    due(y, "swap(0, 1)", y.swap(0, 1), true, 0);
    due("scene(0)", y.scene(0), 1);
    due(y, "swap(2, 1)", y.swap(2, 1), false, 5);
    due("scene(2)", y.scene(2), 2);
    due("begins(2)", y.begins(2, false), 2 + 10 + 1 + 10);
    promise = 36;
    due(x, "cast(0, 6)", x.cast(0, 6), true, 0);
    due("part(0, 5)", x.part(0, 5), 6);
    due(x, "cast(0, 6)", x.cast(0, 6), false, 5);
    due(x, "cast(0, 7)", x.cast(0, 7), false, 2);
    due(x, "cast(0, -1)", x.cast(0, -1), false, 2);
    due(x, "cast(5, 7)", x.cast(5, 7), false, 1);
    due(x, "cast(-1, 0)", x.cast(-1, 0), false, 1);
    due("size(6)", x.size(6), 1);
    promise = 37;
    due(x, "cut(3, false)", x.cut(3, false), false, 5);
    due(x, "cut(3, true)", x.cut(3, true), true, 0);
    due(x, "cut(3, true)", x.cut(3, true), false, 5);
    due("on(3, 5)", x.on(3, 5), 1);
    due(x, "cut(3, false)", x.cut(3, false), true, 0);
    due("on(3, 5)", x.on(3, 5), 0);
    due(x, "cut(7, true)", x.cut(7, true), false, 1);
    due(x, "cut(-1, true)", x.cut(-1, true), false, 1);
    due("size(6)", x.size(6), 3);
  }

  private static void undoing() {
    promise = 38;
    OnePlays x = told(COURT);
    for (int i = 1; i <= 14; i++) {
      due("cast " + i, x.cast(0, i % 7), true);
    }
    due("size(6)", x.size(6), 12);
    for (int i = 13; i >= 2; i--) {
      due(x, "undo() to " + i, x.undo(), true, 0);
      due("part(0, 5)", x.part(0, 5), i % 7);
    }
    due(x, "undo() of a thirteenth", x.undo(), false, 6);
    due("part(0, 5)", x.part(0, 5), 2);
    promise = 39;
    due("size(7)", x.size(7), 12);
    for (int i = 3; i <= 14; i++) {
      due(x, "redo() to " + i, x.redo(), true, 0);
      due("part(0, 5)", x.part(0, 5), i % 7);
    }
    due(x, "redo()", x.redo(), false, 6);
    // An ACT that came since takes REDO away; one that is refused doesn't.
    x.undo();
    due("refused", x.cast(0, 7), false);
    due("size(7)", x.size(7), 1);
    due("cut(0, true)", x.cut(0, true), true);
    due("size(7)", x.size(7), 0);
    due(x, "redo()", x.redo(), false, 6);
    // All sorts of acts.
    OnePlays y = told(PAIR);
    y.swap(0, 1);
    y.cast(1, 4);
    y.cut(2, true);
    promise = 38;
    due("undo()", y.undo(), true);
    due("on(2, 5)", y.on(2, 5), 0);
    due("undo()", y.undo(), true);
    due("part(1, 5)", y.part(1, 5), 0);
    due("undo()", y.undo(), true);
    due("scene(0)", y.scene(0), 0);
    due("fewest()", y.fewest(), 2);
    promise = 39;
    due("redo()", y.redo(), true);
    due("scene(0)", y.scene(0), 1);
    due("fewest()", y.fewest(), 1);
    due("redo()", y.redo(), true);
    due("redo()", y.redo(), true);
    due("on(2, 5)", y.on(2, 5), 1);
    due("part(1, 5)", y.part(1, 5), 4);
  }

  private static void imaging() {
    promise = 40;
    OnePlays x = told(COURT);
    due(x, "image()", x.image(), 0, 0);
    x.cast(2, 5);
    due(x, "image()", x.image(), 1, 0);
    x.cut(6, true);
    due(x, "image()", x.image(), 2, 0);
    due(x, "image()", x.image(), -1, 3);
    due("size(8)", x.size(8), 3);
    due("size(6)", x.size(6), 2);
    x.undo();
    promise = 41;
    due(x, "back(3)", x.back(3), false, 1);
    due(x, "back(-1)", x.back(-1), false, 1);
    due("size(7)", x.size(7), 1);
    due(x, "back(2)", x.back(2), true, 0);
    due("on(6, 5)", x.on(6, 5), 1);
    due("part(2, 5)", x.part(2, 5), 5);
    due("size(6)", x.size(6), 0);
    due("size(7)", x.size(7), 0);
    due(x, "undo()", x.undo(), false, 6);
    due(x, "redo()", x.redo(), false, 6);
    due(x, "back(0)", x.back(0), true, 0);
    due("on(6, 5)", x.on(6, 5), 0);
    due("part(2, 5)", x.part(2, 5), 0);
    due("size(8)", x.size(8), 3);
    due(x, "back(1)", x.back(1), true, 0);
    due("part(2, 5)", x.part(2, 5), 5);
    OnePlays y = told(PAIR);
    due(y, "back(0)", y.back(0), false, 1);
    y.swap(0, 1);
    y.image();
    y.swap(0, 1);
    due("back(0)", y.back(0), true);
    due("scene(0)", y.scene(0), 1);
  }

  // ------------------------------------------------------------- 42 .. 46: what is told

  private static void telling() {
    promise = 42;
    OnePlays x = told(COURT);
    int[][] parts = {{0, 2, 4, 3, 0, 0}, {1, 2, 2, 1, 6, 0}, {0, 5, 3, 2, 0, 0}, {2, 0, 0, 0, 0, 0},
        {3, 1, 9, 7, 0, 0}};
    for (int p = 0; p < 5; p++) {
      for (int what = 0; what <= 5; what++) {
        due("part(" + p + ", " + what + ")", x.part(p, what), parts[p][what]);
      }
    }
    due(x, "part(0, 6)", x.part(0, 6), -1, 1);
    due(x, "part(0, -1)", x.part(0, -1), -1, 1);
    due(x, "part(5, 0)", x.part(5, 0), -1, 1);
    due(x, "part(-1, 0)", x.part(-1, 0), -1, 1);
    promise = 43;
    int[][] ons = {{0, 0, 0, 0, 1, 0}, {1, 0, 0, 0, 0, 0}, {2, 0, 1, 1, 1, 0}, {3, 0, 0, 0, 0, 0},
        {4, 1, 0, 0, 0, 0}, {0, 1, 0, 1, 1, 0}, {4, 1, 0, 0, 0, 0}};
    for (int k = 0; k < 7; k++) {
      for (int what = 0; what <= 5; what++) {
        due("on(" + k + ", " + what + ")", x.on(k, what), ons[k][what]);
      }
    }
    due(x, "on(0, 6)", x.on(0, 6), -1, 1);
    due(x, "on(0, -1)", x.on(0, -1), -1, 1);
    due(x, "on(7, 0)", x.on(7, 0), -1, 1);
    due(x, "on(-1, 0)", x.on(-1, 0), -1, 1);
    promise = 44;
    int[] row = {0, 3, 2, 1, 4, 5, 6};
    for (int i = 0; i < 7; i++) {
      due("led(0, " + i + ")", x.led(0, i), row[i]);
    }
    due("led(0, 7)", leads(x, 0, 7), false);
    due("led(0, -1)", leads(x, 0, -1), false);
    due("led(1, 0)", leads(x, 1, 0), false);
    due("led(7, 0)", leads(x, 7, 0), false);
    due("led(-1, 0)", leads(x, -1, 0), false);
    x.cut(3, true);
    x.cast(2, 6);
    due("led(0, 1)", x.led(0, 1), 1);
    due("led(6, 0)", x.led(6, 0), 2);
    due("led(6, 1)", leads(x, 6, 1), false);
    OnePlays y = told(SHORT + "on p s 4 to 6 left left;on p s 2 to 5 left left;on p s 2 to 3 left left");
    due("led(0, 0) by numbers", y.led(0, 0), 1);
    due("led(0, 1) by numbers", y.led(0, 1), 2);
    due("led(0, 2)", y.led(0, 2), 0);
  }

  private static void sizes() {
    promise = 45;
    OnePlays x = told(COURT);
    x.cut(0, true);
    x.cut(1, true);
    x.cut(2, true);
    x.undo();
    x.image();
    x.feed(0, 0, 0, 0, 0);
    int[] due = {5, 2, 7, 1, 3, 1, 2, 1, 1, 20};
    for (int what = 0; what <= 9; what++) {
      due("size(" + what + ")", x.size(what), due[what]);
    }
    x.orders();
    due(x, "size(10)", x.size(10), -1, 0);
    due(x, "size(-1)", x.size(-1), -1, 0);
  }

  private static void troubleNumbers() {
    promise = 46;
    OnePlays x = told(COURT);
    x.scene(9);
    due("trouble()", x.trouble(), 1);
    due("trouble() again", x.trouble(), 1);
    due("led throws", leads(x, 0, 99), false);
    due("trouble() is not led's", x.trouble(), 1);
    x.size(99);
    x.fault();
    x.where();
    due("trouble() is not size's, fault's, where's", x.trouble(), 1);
    x.undo();
    due("trouble()", x.trouble(), 6);
    x.must();
    due("trouble()", x.trouble(), 0);
    for (int i = 0; i < 46; i++) {
      x.feed(0, 0, 0, 0, 0);
    }
    due("trouble() is not feed's", x.trouble(), 0);
  }

  /** What a player does between two of his parts may let him be both. */
  private static void crossing() {
    String cross = "piece walk 9 gap 0 players 1;part p plain coat 1 don 9 doff 9;"
        + "part q plain coat 2 don 0 doff 0;scene s lasts 20;on p s 0 to 5 left left;"
        + "on p s 10 to 15 right right;on q s 6 to 9 left right";
    OnePlays x = told(cross);
    promise = 15;
    due("p alone", x.could(1), 0);
    due("q alone", x.could(2), 1);
    due("both", x.could(3), 1);
    promise = 19;
    due("fewest()", x.fewest(), 1);
    promise = 27;
    due("lent(1)", x.lent(1), -2);
    due("lent(0)", x.lent(0), 1);
    promise = 28;
    due("lend()", x.lend(), 0);
    promise = 31;
    due("who(2)", x.who(2), 2);
    promise = 24;
    x.cut(2, true);
    due("cuts() without q", x.cuts(), 1);
    promise = 16;
    due("troubled()", x.troubled(), 1);
    x.undo();
    due("troubled()", x.troubled(), -2);
    // Fewer may be ready, when FEWEST is -2 it stays so.
    OnePlays y = told(cross.replace("coat 2 don 0", "coat 2 don 5"));
    promise = 26;
    due("fewest()", y.fewest(), -2);
    due("ready(1)", y.ready(1), -2);
  }

  private static void longRun() {
    promise = 38;
    OnePlays x = told(COURT);
    for (int i = 0; i < 120; i++) {
      due("cut", x.cut(i % 7, true), true);
      due("fewest is one of", x.fewest() >= 1 ? 1 : 0, 1);
      due("cut", x.cut(i % 7, false), true);
      due("fewest()", x.fewest(), 2);
    }
    due("size(6)", x.size(6), 12);
  }
}

/** Terms I to IV of the document, word for word, each with its test. */
final class WalkTerms {
  private WalkTerms() {}

  static void all() {
    theText();
    theLines();
    theFaults();
    orderAndTimes();
    changeAndNeed();
    bodilyAndCan();
    theFewest();
    cutsToWho();
    theEvening();
    seenAndActs();
    troubles();
  }

  // ------------------------------------------------------------- I. the text

  private static final String PARTS = Due.part("p", "plain", 1, 2, 3);
  private static final String HEAD = Due.head(1, 2, 2);
  /** A text that reads; parts p, q, scenes s of 50, t of 60 seconds. */
  private static final String OK = HEAD + PARTS + Due.part("q", "beard 4", 5, 6, 7)
      + Due.scene("s", 50) + Due.scene("t", 60);

  private static void reads(String lines) {
    OnePlays x = Due.told(lines);
    Due.is("trouble() behind '" + lines + "'", x.trouble(), 0);
  }

  private static String line(String text) {
    return OK + text;
  }

  /** The FAULT of a line behind OK, at what stands behind its bar. */
  private static void fault(String text, int fault) {
    Due.faultAt(OK + text, fault);
  }

  private static void theText() {
    Walk.asksNothing("## Terms");
    Walk.says("I. THE TEXT of a PIECE (THE TAPE has 900 bytes;");
    OnePlays x = new OnePlays();
    String text = Due.whole(OK);
    Texts.feed(x, text + Due.times(900 - text.length(), " "));
    Due.is("size(9)", x.size(9), 900);
    Due.is("feed()", x.feed(0, 0, 0, 0, 0), -1);
    Due.is("piece(901)", x.piece(901), -1);
    Due.is("piece(900)", x.piece(900), 0);
    Walk.says("blanks, 32, part TOKENS and mean nothing else;");
    reads("  piece   walk 1 gap  2 players 2  ; part p plain coat 1 don 2 doff 3 ;scene s lasts 5 ");
    reads("piece walk1gap2players2;part p plain coat1don2doff3;scene s lasts5");
    Due.faultAt("piece |wa lk 1 gap 2 players 2", 1);
    Due.faultAt("scene s lasts 5 |0", 1);
    Due.faultAt("piece|\twalk 1", 1);
    Due.faultAt("piece walk 1|\n", 1);
    Due.faultAt("piece walk 1|\0gap", 1);
    Due.faultAt("piece|" + (char) 160 + "walk 1", 1);
    Walk.says("TOKENS: WORDS of 1 to 8 small letters that stand together,");
    reads(OK + Due.part("z", "plain", 0, 0, 0) + Due.part("zzzzzzzz", "plain", 0, 0, 0));
    fault("part |zzzzzzzzz plain coat 0 don 0 doff 0", 1);
    fault("part |Z plain coat 0 don 0 doff 0", 1);
    fault("part z|Z plain coat 0 don 0 doff 0", 1);
    fault("part z|_z plain coat 0 don 0 doff 0", 1);
    Walk.says("WHOLES of 1 to 3 digits that do,");
    reads(OK + "scene z lasts 7;scene y lasts 70;scene x lasts 007");
    fault("scene z lasts |0007", 1);
    fault("scene z lasts |-7", 1);
    fault("scene z lasts 7|.0", 1);
    Walk.says("single ones of ; ,):");
    reads(OK + "scene z lasts 7 ; scene y lasts 7");
    fault("scene z lasts 7;|;scene y lasts 7", 1);
    fault("scene z lasts 7|, scene y lasts 7", 1);
    fault("scene z lasts 7|:scene y lasts 7", 1);
    Walk.says("LINE {; LINE}.");
    Due.faultAt("scene z lasts 7|", 6);
    Due.faultAt("scene z lasts 7;|", 1);
    Due.faultAt("|;scene z lasts 7", 1);
    fault("scene z lasts 7 |scene y lasts 7", 1);
    Walk.says("LINE, one of:");
    Due.faultAt("|play walk 1", 1);
    Due.faultAt("|walk 1", 1);
    Due.faultAt("|left", 1);
    Due.faultAt("|7", 1);
    for (String sort : new String[] {"part", "scene", "after", "on", "saw"}) {
      Due.faultAt(sort + "|", 1);
    }
  }

  private static void theLines() {
    Walk.says("piece walk WHOLE gap WHOLE players WHOLE (0 .. 99 each; 1 .. 3)");
    String rest = ";" + PARTS + Due.scene("s", 9);
    reads("piece walk 0 gap 0 players 1" + rest);
    reads("piece walk 99 gap 99 players 3" + rest);
    Due.faultAt("piece walk |100 gap 0 players 1" + rest, 4);
    Due.faultAt("piece walk 0 gap |100 players 1" + rest, 4);
    Due.faultAt("piece walk 0 gap 0 players |0" + rest, 4);
    Due.faultAt("piece walk 0 gap 0 players |4" + rest, 4);
    Due.faultAt("piece |gap 0 walk 0 players 1" + rest, 1);
    Due.faultAt("piece walk 0 |players 1" + rest, 1);
    OnePlays x = Due.told("piece walk 31 gap 17 players 3" + rest + Due.scene("t", 4)
        + Due.on("p", "s", 0, 1, "left right"));
    Due.is("walk", x.need(0, 0), 31);
    Due.is("gap", x.begins(1, false), 9 + 17);
    Due.is("players", x.size(5), 3);
    Walk.says("part NAME KIND coat WHOLE don WHOLE doff WHOLE"
        + " (KIND: plain, beard WHOLE, puppet, or dead; 0 .. 9, 0 .. 99 each; up to 7)");
    partLines();
    Walk.says("scene NAME lasts WHOLE (1 .. 500; up to 5),");
    x = Due.told(line("scene z lasts 1;scene y lasts 500;scene x lasts 250"));
    Due.is("of 1 second", x.begins(2, true) - x.begins(2, false), 1);
    Due.is("of 500 seconds", x.begins(3, true) - x.begins(3, false), 500);
    Due.is("of 250 seconds", x.begins(4, true) - x.begins(4, false), 250);
    fault("scene z lasts |0", 4);
    fault("scene z lasts |501", 4);
    fault("scene z |lasting 5", 1);
    fault("scene z lasts |long", 1);
    fault("scene z lasts 1;scene y lasts 1;scene x lasts 1;|scene w lasts 1", 5);
    Walk.says("or after SCENE SCENE (unlike ones; the second comes after the first; up to 6)");
    x = Due.told(line("after t s"));
    Due.is("the first scene of t ahead of s", x.scene(0), 1);
    Due.is("the second", x.scene(1), 0);
    fault("after t |t", 3);
    fault("after t|", 1);
    fault("after t s |s", 1);
    reads(line(Due.times(6, "after t s;")));
    fault(Due.times(6, "after t s;") + "|after t s", 5);
    Walk.says("on PART SCENE WHOLE to WHOLE SIDE SIDE, behind it perhaps behind (SIDE: left or right;"
        + " 0 up to what the scene lasts less 1, above that up to what it lasts; up to 14)");
    onLines();
    Walk.says("saw PART WHOLE SIDE (0 .. 999; up to 7)");
    x = Due.told(line("saw p 0 left;saw q 999 right"));
    Due.is("size(4)", x.size(4), 2);
    fault("saw p |1000 left", 1);
    fault("saw p |left", 1);
    fault("saw p 999 |behind", 1);
    fault("saw p 9 left |right", 1);
    fault("saw p 9|", 1);
    reads(line(Due.times(7, "saw p 9 left;")));
    fault(Due.times(7, "saw p 9 left;") + "|saw p 9 left", 5);
    Walk.says("NAMES are WORDS but piece, part, scene, after, on, saw, behind;");
    for (String word : new String[] {"piece", "part", "scene", "after", "on", "saw", "behind"}) {
      fault("scene |" + word + " lasts 7", 1);
      fault("part |" + word + " plain coat 0 don 0 doff 0", 1);
      fault("saw |" + word + " 7 left", 1);
    }
    for (String word : new String[] {"lasts", "walk", "plain", "coat", "to", "left", "parts"}) {
      reads(line("scene " + word + " lasts 7"));
    }
    Walk.says("each told once, ahead of its use.");
    fault("scene |s lasts 50", 3);
    fault("on p |later 0 to 1 left left;scene later lasts 9", 2);
    reads(line("scene later lasts 9;on p later 0 to 1 left left"));
  }

  private static void partLines() {
    OnePlays x = Due.told(line("part a plain coat 0 don 0 doff 99;part b beard 99 coat 9 don 99 doff 0;"
        + "part c puppet coat 4 don 5 doff 6;part d dead coat 7 don 8 doff 9"));
    int[][] rows = {{0, 0, 0, 99, 0}, {1, 9, 99, 0, 99}, {2, 4, 5, 6, 0}, {3, 7, 8, 9, 0}};
    for (int p = 0; p < rows.length; p++) {
      for (int what = 0; what < rows[p].length; what++) {
        Due.is("part(" + (p + 2) + ", " + what + ")", x.part(p + 2, what), rows[p][what]);
      }
    }
    reads(line("part a beard 0 coat 0 don 0 doff 0"));
    fault("part a plain coat |10 don 0 doff 0", 4);
    fault("part a plain coat 0 don |100 doff 0", 4);
    fault("part a plain coat 0 don 0 doff |100", 4);
    fault("part a beard |100 coat 0 don 0 doff 0", 4);
    fault("part a beard |coat 0 don 0 doff 0", 1);
    fault("part a plain |5 coat 0 don 0 doff 0", 1);
    fault("part a |bald coat 0 don 0 doff 0", 1);
    fault("part a plain |don 0 coat 0 doff 0", 1);
    fault("part a plain coat 0 |doff 0 don 0", 1);
    String five = "";
    for (String name : new String[] {"a", "b", "c", "d", "e"}) {
      five += Due.part(name, "plain", 0, 0, 0);
    }
    reads(line(five));
    fault(five + "|part f plain coat 0 don 0 doff 0", 5);
  }

  private static void onLines() {
    OnePlays x = Due.told(line("on p s 0 to 50 left right;on q t 59 to 60 right left behind"));
    int[][] rows = {{0, 0, 0, 0, 1, 0}, {1, 1, 1, 1, 0, 0}};
    for (int k = 0; k < rows.length; k++) {
      for (int what = 0; what < rows[k].length; what++) {
        Due.is("on(" + k + ", " + what + ")", x.on(k, what), rows[k][what]);
      }
    }
    fault("on p s |50 to 51 left left", 4);
    fault("on p s 49 to |49 left left", 4);
    fault("on p s 49 to |51 left left", 4);
    fault("on p t |60 to 60 left left", 4);
    reads(line("on p t 59 to 60 left left"));
    fault("on p s 0 |1 left left", 1);
    fault("on p s 0 to 1 left|", 1);
    fault("on p s 0 to 1 |middle left", 1);
    fault("on p s 0 to 1 left |behind", 1);
    fault("on p s 0 to 1 left left |left", 1);
    fault("on p s 0 to 1 left left behind |behind", 1);
    reads(line(Due.times(14, "on p s 0 to 1 left left;")));
    fault(Due.times(14, "on p s 0 to 1 left left;") + "|on p s 0 to 1 left left", 5);
  }

  private static void theFaults() {
    Walk.says("FAULTS, the first that is met from the left,");
    fault("on |r s 0 to 99 left left", 2);
    fault("on p s 0 to |99 left up", 4);
    fault("scene |s lasts 0;;", 3);
    fault("saw p 7 |up;piece", 1);
    Walk.says("of one place the least number:");
    // With an after of one scene there is no ORDER either; at the end of an empty text all is lacking.
    fault("after s |s", 3);
    Due.faultAt("|", 1);
    Due.faultAt(Due.whole(HEAD + PARTS) + ";|", 1);
    Walk.says("1 FORM: the first byte that begins no TOKEN");
    fault("scene z lasts 7|!", 1);
    fault("scene z|-lasts 7", 1);
    fault("|{", 1);
    fault("|" + (char) 228, 1);
    Walk.says("(of more letters, digits that stand together: the first of them),");
    fault("scene |abcdefghi lasts 7", 1);
    fault("scene z |lastslasts 7", 1);
    fault("scene z lasts |1234", 1);
    fault("scene z lasts |0000000000000000000000000000000000000000001", 1);
    Walk.says("or TOKEN with which no PIECE goes on");
    fault("scene |7 lasts 7", 1);
    fault("scene z |s", 1);
    fault("scene z lasts |;", 1);
    fault("scene z lasts 7 |8", 1);
    fault("scene |;", 1);
    Walk.says("(the end: its place).");
    Due.faultAt("piece walk 1 gap|", 1);
    Due.faultAt("piece walk 1 gap   |", 1);
    fault("|", 1);
    Walk.says("2 a NAME that isn't told,");
    fault("on |r s 0 to 1 left left", 2);
    fault("on p |r 0 to 1 left left", 2);
    fault("after |r s", 2);
    fault("after s |r", 2);
    fault("saw |r 1 left", 2);
    Walk.says("or is of another sort than must stand there; at it.");
    fault("on |s s 0 to 1 left left", 2);
    fault("on p |p 0 to 1 left left", 2);
    fault("after |p s", 2);
    fault("after s |p", 2);
    fault("saw |s 1 left", 2);
    Walk.says("3 a NAME told again;");
    fault("part |p plain coat 1 don 2 doff 3", 3);
    fault("part |s plain coat 1 don 2 doff 3", 3);
    fault("scene |t lasts 60", 3);
    fault("scene |q lasts 60", 3);
    Walk.says("the second SCENE of after that is the first; at it;");
    fault("after t |t", 3);
    Walk.says("a second piece; at that WORD.");
    fault("|piece walk 1 gap 2 players 2", 3);
    fault("|piece", 3);
    Walk.says("4 a WHOLE out of bounds; at it.");
    fault("scene z lasts |501", 4);
    fault("scene z lasts |999", 4);
    Walk.says("5 MANY: a LINE more of its sort than there is room for, at its first WORD.");
    fault(Due.scene("a", 1) + Due.scene("b", 1) + Due.scene("c", 1) + "|scene s lasts 0", 5);
    fault(Due.times(7, "saw q 1 left;") + "|saw", 5);
    Walk.says("6 LACKS, at the end: no piece, no part, no scene.");
    Due.faultAt(Due.whole(PARTS + Due.scene("s", 1)) + "|", 6);
    Due.faultAt(Due.whole(HEAD + Due.scene("s", 1)) + "|", 6);
    Due.faultAt(Due.whole(HEAD + PARTS) + "|", 6);
    Walk.says("7 an after with which there is no ORDER; at its second SCENE.");
    fault("after s t;after t |s", 7);
    fault("scene u lasts 1;after s t;after t u;after u |s", 7);
    fault("scene u lasts 1;after s t;after u s;after t |u", 7);
    reads(line("scene u lasts 1;after s t;after t u;after s u"));
  }

  // ------------------------------------------------------------- II. orders and times

  private static void orderAndTimes() {
    Walk.says("II. An ORDER: all SCENES in a row, each after as told;");
    // a ahead of c: abc, acb, bac.
    String scenes = Due.scene("a", 10) + Due.scene("b", 20) + Due.scene("c", 30);
    OnePlays x = Due.told(Due.head(0, 4, 1) + PARTS + scenes + Due.after("a", "c"));
    Due.is("orders()", x.orders(), 3);
    Due.is("c ahead of a", x.swap(0, 2), false);
    Due.is("a c b", x.swap(1, 2), true);
    Due.is("b c a", x.swap(0, 2), false);
    Due.is("c a b", x.swap(0, 1), false);
    Due.is("a b c", x.swap(1, 2), true);
    Due.is("b a c", x.swap(0, 1), true);
    Walk.says("a scene begins gap behind the end of the one ahead, the first at 0.");
    int[] begins = {24, 0, 38};
    int[] ends = {34, 20, 68};
    for (int s = 0; s < 3; s++) {
      Due.is("begins(" + s + ")", x.begins(s, false), begins[s]);
      Due.is("its end", x.begins(s, true), ends[s]);
    }
    Walk.says("An APPEARANCE (on) is from its second to its last one, counted from its scene's begin;");
    x = Due.told(Due.head(0, 4, 1) + PARTS + scenes + Due.on("p", "c", 7, 29) + Due.on("p", "a", 0, 10));
    Due.is("its second", x.seen(0, false), 38 + 7);
    Due.is("its last one", x.seen(0, true), 38 + 29);
    Due.is("of the first scene", x.seen(1, false), 0);
    Due.is("its last one", x.seen(1, true), 10);
    Walk.says("two MEET if each begins ahead of the other's end.");
    x = Due.told(Due.head(0, 0, 1) + PARTS + scenes + Due.on("p", "c", 5, 10) + Due.on("p", "c", 10, 15)
        + Due.on("p", "c", 9, 11) + Due.on("p", "c", 6, 7) + Due.on("p", "b", 5, 10));
    int[][] meets = {{0, 0, 1, 1, 0}, {0, 0, 1, 0, 0}, {1, 1, 0, 0, 0}, {1, 0, 0, 0, 0}, {0, 0, 0, 0, 0}};
    for (int a = 0; a < 5; a++) {
      for (int b = 0; b < 5; b++) {
        if (a != b) {
          Due.is("meet(" + a + ", " + b + ")", x.meet(a, b), meets[a][b]);
        }
      }
    }
  }

  private static void changeAndNeed() {
    OnePlays x = Due.told(Due.head(50, 0, 1) + Due.part("low", "plain", 1, 11, 7)
        + Due.part("high", "plain", 4, 13, 9) + Due.part("beard", "beard 40", 4, 2, 3) + Due.scene("s", 99)
        + Due.on("low", "s", 0, 9, "left right") + Due.on("high", "s", 10, 19, "right left")
        + Due.on("low", "s", 20, 29, "right right"));
    Walk.says("CHANGE from a part to another one: 0 if they are one;");
    for (int p = 0; p < 3; p++) {
      Due.is("change to itself", x.change(p, p), 0);
    }
    Walk.says("if the other one's coat is higher: its don (with a beard: so much more);");
    Due.is("low to high", x.change(0, 1), 13);
    Due.is("low to beard", x.change(0, 2), 2 + 40);
    Walk.says("if lower: the first one's doff;");
    Due.is("high to low", x.change(1, 0), 9);
    Due.is("beard to low", x.change(2, 0), 3);
    Walk.says("if they are alike: both.");
    Due.is("high to beard", x.change(1, 2), 9 + 2 + 40);
    Due.is("beard to high", x.change(2, 1), 3 + 13);
    Walk.says("NEED from an APPEARANCE to one: CHANGE of their parts, and walk, if the first goes off (its"
        + " second SIDE) elsewhere than the other comes in (its first SIDE).");
    int[][] needs = {{50, 13, 0}, {9, 50, 9 + 50}, {50, 13, 0}};
    for (int a = 0; a < 3; a++) {
      for (int b = 0; b < 3; b++) {
        Due.is("need(" + a + ", " + b + ")", x.need(a, b), needs[a][b]);
      }
    }
  }

  /** A piece of a plain part p (coat 5), a plain one r (coat 1), a puppet and a dead one. */
  private static OnePlays stage(int walk, String... ons) {
    StringBuilder text = new StringBuilder(Due.head(walk, 0, 3) + Due.part("p", "plain", 5, 6, 6)
        + Due.part("r", "plain", 1, 2, 2) + Due.part("doll", "puppet", 3, 4, 4)
        + Due.part("body", "dead", 3, 4, 4) + Due.scene("s", 100));
    for (String on : ons) {
      text.append(on);
    }
    return Due.told(text.toString());
  }

  private static void bodilyAndCan() {
    Walk.says("Of the APPEARANCES of a player (of all parts he plays): those behind need no coat;");
    OnePlays x = stage(30, Due.on("p", "s", 0, 10, "left left"), Due.on("r", "s", 10, 20, "right right behind"),
        Due.on("p", "s", 20, 30, "left left"));
    Due.is("bodily(1)", x.bodily(1), 0);
    Due.is("can(0)", x.can(0), 1);
    Due.is("sweat(0, 2)", x.sweat(0, 2), 0);
    Walk.says("of a puppet they need none, nor him on the stage;");
    x = stage(30, Due.on("p", "s", 0, 10), Due.on("doll", "s", 5, 15, "right right"), Due.on("p", "s", 12, 20));
    Due.is("bodily(1)", x.bodily(1), 0);
    Due.is("can(0)", x.can(0), 1);
    Due.is("sweat(0, 1)", x.sweat(0, 1), 0);
    Walk.says("of a dead one only the first, in time (then by numbers), that is neither behind nor CUT, needs"
        + " him (the others: a dummy, nobody);");
    x = stage(0, Due.on("body", "s", 50, 60), Due.on("body", "s", 20, 30), Due.on("body", "s", 10, 15, "left left behind"),
        Due.on("body", "s", 20, 25), Due.on("r", "s", 50, 60));
    Due.is("the first", x.bodily(1), 1);
    Due.is("the later one", x.bodily(0), 0);
    Due.is("behind", x.bodily(2), 0);
    Due.is("of that second, of the higher number", x.bodily(3), 0);
    Due.is("a dummy MEETS r", x.can(0), 1);
    x.cut(1, true);
    Due.is("the next one", x.bodily(3), 1);
    Due.is("the CUT one", x.bodily(1), 0);
    x.cut(3, true);
    Due.is("the last one", x.bodily(0), 1);
    Due.is("it MEETS r", x.can(0), 0);
    Walk.says("all others need him: BODILY.");
    x = stage(0, Due.on("p", "s", 0, 10), Due.on("r", "s", 0, 10), Due.on("body", "s", 0, 10));
    for (int k = 0; k < 3; k++) {
      Due.is("bodily(" + k + ")", x.bodily(k), 1);
    }
    Walk.says("He CAN if no two that are behind MEET,");
    can(1, 0, Due.on("p", "s", 0, 10, "left left behind"), Due.on("r", "s", 10, 20, "left left behind"));
    can(0, 0, Due.on("p", "s", 0, 10, "left left behind"), Due.on("r", "s", 9, 20, "left left behind"));
    Walk.says("none behind MEETS one that is BODILY,");
    can(1, 0, Due.on("p", "s", 0, 10, "left left behind"), Due.on("r", "s", 10, 20));
    can(0, 0, Due.on("p", "s", 0, 10, "left left behind"), Due.on("r", "s", 9, 20));
    Walk.says("no two of puppets MEET (behind ones are behind, whatever the part),");
    can(1, 0, Due.on("doll", "s", 0, 10), Due.on("doll", "s", 10, 20));
    can(0, 0, Due.on("doll", "s", 0, 10), Due.on("doll", "s", 9, 20));
    can(1, 0, Due.on("doll", "s", 0, 10), Due.on("doll", "s", 9, 20, "left left behind"));
    can(0, 0, Due.on("p", "s", 0, 10), Due.on("doll", "s", 9, 20, "left left behind"));
    can(0, 0, Due.on("p", "s", 0, 10, "left left behind"), Due.on("doll", "s", 9, 20, "left left behind"));
    Walk.says("no two BODILY MEET,");
    can(1, 0, Due.on("p", "s", 0, 10), Due.on("p", "s", 10, 20));
    can(0, 0, Due.on("p", "s", 0, 10), Due.on("p", "s", 9, 20));
    can(0, 0, Due.on("p", "s", 0, 10), Due.on("p", "s", 3, 4));
    Walk.says("and each BODILY one begins no sooner than NEED behind the end of the BODILY one ahead of it, in"
        + " time.");
    can(1, 0, Due.on("p", "s", 0, 10), Due.on("r", "s", 16, 20));
    can(0, 0, Due.on("p", "s", 0, 10), Due.on("r", "s", 15, 20));
    can(1, 9, Due.on("p", "s", 0, 10, "left right"), Due.on("r", "s", 25, 30));
    can(0, 9, Due.on("p", "s", 0, 10, "left right"), Due.on("r", "s", 24, 30));
    can(1, 0, Due.on("r", "s", 16, 20), Due.on("p", "s", 0, 10));
    Walk.says("(CUT ones aren't there.)");
    x = stage(0, Due.on("p", "s", 0, 10), Due.on("r", "s", 5, 8), Due.on("p", "s", 10, 20));
    Due.is("can(0)", x.can(0), 0);
    x.cut(1, true);
    Due.is("can(0) without it", x.can(0), 1);
    Due.is("led(0, 1)", Due.led(x, 0, 1), 2);
    Walk.says("A CAST gives each part to a player, by numbers.");
    Due.is("at first all by player 0", x.part(0, 5) + x.part(1, 5) + x.part(2, 5) + x.part(3, 5), 0);
    x.cast(0, 6);
    x.cast(1, 3);
    Due.is("p is 6's", x.part(0, 5), 6);
    Due.is("r is 3's", x.part(1, 5), 3);
    Due.is("6's first", Due.led(x, 6, 0), 0);
    Due.is("0 has none", Due.led(x, 0, 0), -99);
    Walk.says("It GOES with an ORDER if each player CAN.");
    x = stage(0, Due.on("p", "s", 0, 10), Due.on("r", "s", 5, 8), Due.on("body", "s", 20, 30));
    // p and r need two players, the doll and the body are anybody's: of 3^4 CASTS those with p, r unlike.
    Due.is("who(3)", x.who(3), 3 * 2 * 9);
    Due.is("who(1)", x.who(1), 0);
  }

  /** Whether player 0 CAN, with all parts. */
  private static void can(int want, int walk, String... ons) {
    OnePlays x = stage(walk, ons);
    Due.is("can(0) of " + String.join(" ", ons), x.can(0), want);
    Due.is("could() of them", x.could(15), want);
  }

  // ------------------------------------------------------------- III. fewest

  /** Plain parts a, b, c ... of coats alike, and scenes s, t, u of 100 seconds; don and doff 10 each. */
  private static String company(int gap, int players, int parts) {
    StringBuilder text = new StringBuilder(Due.head(0, gap, players));
    for (int p = 0; p < parts; p++) {
      text.append(Due.part("" + (char) ('a' + p), "plain", 1, 10, 10));
    }
    return text + Due.scene("s", 100) + Due.scene("t", 100);
  }

  private static void theFewest() {
    Walk.says("III. FEWEST of an ORDER: the fewest players with which some CAST GOES (-2: more than 7 don't"
        + " help);");
    String three = company(0, 1, 3) + Due.on("a", "s", 0, 50) + Due.on("b", "s", 40, 60);
    Due.is("a and b MEET, c needs nobody more", Due.told(three).fewest(), 2);
    Due.is("c MEETS both", Due.told(three + Due.on("c", "s", 45, 46)).fewest(), 3);
    Due.is("c 20 behind b", Due.told(three + Due.on("c", "s", 80, 90)).fewest(), 2);
    Due.is("c MEETS itself", Due.told(three + Due.on("c", "t", 0, 9) + Due.on("c", "t", 8, 20)).fewest(), -2);
    Walk.says("the CAST: the first by parts (numbers of players, each new one the least not used yet).");
    OnePlays x = Due.told(company(0, 1, 4) + Due.on("a", "s", 0, 10) + Due.on("b", "s", 0, 10)
        + Due.on("c", "s", 29, 30) + Due.on("d", "s", 60, 70));
    // c 20 behind the end of a or b would begin at 30: it needs a third one; d is a's then.
    int[] players = {0, 1, 2, 0};
    Due.is("fewest()", x.fewest(), 3);
    for (int p = 0; p < players.length; p++) {
      Due.is("player(" + p + ")", x.player(p), players[p]);
    }
    Walk.says("FEWEST of all: over all ORDERS, the first such, by numbers of scenes.");
    // With s ahead of t a's end at 100 is the begin of b; with t ahead b ends at 10.
    x = Due.told(company(0, 1, 2) + Due.on("a", "s", 90, 100) + Due.on("b", "t", 0, 10));
    Due.is("fewest()", x.fewest(), 2);
    Due.is("fewestOfAll()", x.fewestOfAll(), 1);
    Due.is("sceneOfAll(0)", x.sceneOfAll(0), 1);
    Due.is("sceneOfAll(1)", x.sceneOfAll(1), 0);
    x = Due.told(company(20, 1, 2) + Due.on("a", "s", 90, 100) + Due.on("b", "t", 0, 10));
    Due.is("both ORDERS do: the first", x.sceneOfAll(0), 0);
    x = Due.told(company(0, 1, 2) + Due.on("a", "s", 0, 10) + Due.on("b", "s", 0, 10));
    Due.is("fewestOfAll()", x.fewestOfAll(), 2);
    x.cut(1, true);
    Due.is("fewestOfAll() of those that aren't CUT", x.fewestOfAll(), 1);
  }

  private static void cutsToWho() {
    Walk.says("CUTS: the fewest APPEARANCES (0 .. 3, of those that aren't CUT) without which, too, as many"
        + " players as told do, in the ORDER there is;");
    String four = company(0, 1, 4) + Due.on("a", "s", 0, 10) + Due.on("b", "s", 5, 15);
    OnePlays x = Due.told(four + Due.on("c", "s", 6, 16));
    Due.is("one of three that MEET stays", x.cuts(), 2);
    x.cut(0, true);
    Due.is("with one CUT already", x.cuts(), 1);
    x.cut(1, true);
    Due.is("with two CUT already", x.cuts(), 0);
    x = Due.told(four + Due.on("c", "s", 6, 16) + Due.on("d", "s", 7, 17));
    Due.is("one of four that MEET stays", x.cuts(), 3);
    x = Due.told(four + Due.on("c", "s", 6, 16) + Due.on("d", "s", 7, 17) + Due.on("d", "s", 8, 18));
    Due.is("four too many", x.cuts(), -2);
    Walk.says("of like ones the least bits.");
    x = Due.told(four + Due.on("c", "s", 6, 16));
    Due.is("0 and 1, not 0 and 2", x.cutsBy(), 1 | 2);
    x = Due.told(company(0, 1, 3) + Due.on("a", "s", 0, 100) + Due.on("b", "s", 5, 15) + Due.on("c", "s", 50, 60));
    Due.is("0 alone", x.cutsBy(), 1);
    Walk.says("READY: how many players less FEWEST of the ORDER there is, if a part's don, doff, beard were 0.");
    readies();
    Walk.says("LENT: FEWEST of the ORDER there is without a part, that a child has for once.");
    x = Due.told(company(0, 1, 3) + Due.on("a", "s", 0, 100) + Due.on("b", "s", 5, 15) + Due.on("c", "s", 50, 60));
    Due.is("lent(0)", x.lent(0), 1);
    Due.is("lent(1)", x.lent(1), 2);
    Walk.says("GAP: the least gap (0 .. 99) by which as many players as told do, in the ORDER there is.");
    String pair = Due.on("a", "s", 80, 90) + Due.on("b", "t", 0, 10);
    Due.is("10 of 20 by the scene", Due.told(company(0, 1, 2) + pair).gap(), 10);
    Due.is("whatever is told", Due.told(company(55, 1, 2) + pair).gap(), 10);
    Due.is("two do without", Due.told(company(0, 2, 2) + pair).gap(), 0);
    Walk.says("SWAPS: the fewest, each of two scenes, each to an ORDER, one behind the other, by which from the"
        + " ORDER there is one comes with which as many as told do.");
    swapCounts();
    Walk.says("WHO: for so many players, how many CASTS there are with which the ORDER there is GOES (players by"
        + " numbers, not all of them need play).");
    x = Due.told(company(0, 1, 3) + Due.on("a", "s", 0, 10) + Due.on("b", "s", 5, 15) + Due.on("c", "s", 50, 60));
    Due.is("who(1)", x.who(1), 0);
    Due.is("who(2)", x.who(2), 2 * 2);
    Due.is("who(3)", x.who(3), 3 * 2 * 3);
    Due.is("of nothing to play", Due.told(company(0, 1, 3)).who(3), 27);
  }

  private static void readies() {
    // From a to b it takes doff 10 and don 10, there are 10: either one ready is enough.
    OnePlays x = Due.told(company(0, 1, 3) + Due.on("a", "s", 0, 10) + Due.on("b", "s", 20, 30));
    Due.is("fewest()", x.fewest(), 2);
    Due.is("ready(0)", x.ready(0), 1);
    Due.is("ready(1)", x.ready(1), 1);
    Due.is("ready(2)", x.ready(2), 0);
    // Of a beard 40 and don 30 all must be 0.
    x = Due.told(Due.head(0, 0, 1) + Due.part("low", "plain", 1, 5, 5) + Due.part("old", "beard 40", 2, 30, 5)
        + Due.scene("s", 99) + Due.on("low", "s", 0, 10) + Due.on("old", "s", 10, 20));
    Due.is("ready(0)", x.ready(0), 0);
    Due.is("ready(1)", x.ready(1), 1);
    // Of the way nothing is spared.
    x = Due.told(Due.head(1, 0, 1) + Due.part("low", "plain", 1, 5, 5) + Due.part("old", "beard 40", 2, 30, 5)
        + Due.scene("s", 99) + Due.on("low", "s", 0, 10) + Due.on("old", "s", 10, 20, "right right"));
    Due.is("ready(1) with a walk", x.ready(1), 0);
    x = Due.told(company(0, 1, 2) + Due.on("a", "s", 90, 100) + Due.on("b", "t", 10, 20));
    Due.is("ready(0) with s ahead of t", x.ready(0), 1);
    x.swap(0, 1);
    Due.is("ready(0) in the ORDER there is", x.ready(0), 0);
    x = Due.told(company(0, 1, 2) + Due.on("a", "t", 90, 100) + Due.on("b", "s", 5, 10));
    x.swap(0, 1);
    Due.is("ready(0) with 5 seconds of 10", x.ready(0), 0);
  }

  private static void swapCounts() {
    // a ends with s, b begins with t: one ahead of the other can't be one's, with u between it can.
    String text = company(0, 1, 2) + Due.scene("u", 30) + Due.on("a", "s", 90, 100) + Due.on("b", "t", 0, 10);
    OnePlays x = Due.told(text);
    Due.is("swaps()", x.swaps(), 1);
    Due.is("s and t swapped", x.swap(0, 1), true);
    Due.is("swaps() then", x.swaps(), 0);
    // With s ahead of t and u behind s: s u t alone does.
    x = Due.told(text + Due.after("s", "t"));
    Due.is("swaps()", x.swaps(), 1);
    // Neither t nor u may be right behind s, nor u behind t: u t s alone, by the first and the last.
    x = Due.told(text + Due.on("a", "t", 90, 100) + Due.on("b", "u", 0, 10));
    Due.is("swaps() of two that are no neighbours", x.swaps(), 1);
    // u at the end alone: s must be next to t.
    x = Due.told(text + Due.after("s", "t") + Due.after("t", "u"));
    Due.is("swaps() by no ORDER", x.swaps(), -2);
  }

  private static void theEvening() {
    Walk.says("THE EVENING: an ORDER, a CAST, CUT ones:");
    OnePlays x = Due.told(Walk.court());
    int image = x.image();
    x.cast(3, 4);
    x.cut(6, true);
    Due.is("the CAST", x.part(3, 5), 4);
    Due.is("CUT ones", x.on(6, 5), 1);
    Due.is("back()", x.back(image), true);
    Due.is("the CAST", x.part(3, 5), 0);
    Due.is("CUT ones", x.on(6, 5), 0);
    x = Due.told(OK);
    x.image();
    x.swap(0, 1);
    Due.is("the ORDER", x.scene(0), 1);
    x.back(0);
    Due.is("the ORDER", x.scene(0), 0);
    Walk.says("at first the first ORDER, all parts by player 0, none CUT.");
    x = Due.told(Walk.court().replace("after one two", "after two one"));
    Due.is("scene(0)", x.scene(0), 1);
    Due.is("scene(1)", x.scene(1), 0);
    for (int p = 0; p < 5; p++) {
      Due.is("part(" + p + ", 5)", x.part(p, 5), 0);
    }
    for (int k = 0; k < 7; k++) {
      Due.is("on(" + k + ", 5)", x.on(k, 5), 0);
    }
    Walk.says("TROUBLED: the first APPEARANCE, in time (then by numbers), that isn't CUT and with those of its"
        + " player ahead of it, in this row, can't be so;");
    x = Due.told(company(0, 1, 3) + Due.on("a", "s", 50, 60) + Due.on("b", "s", 0, 10)
        + Due.on("c", "s", 29, 40) + Due.on("c", "s", 29, 35));
    Due.is("c's sooner than 20 behind b", x.troubled(), 2);
    x.cut(2, true);
    Due.is("of that second the next", x.troubled(), 3);
    x.cast(2, 1);
    Due.is("c is another one's", x.troubled(), -2);
    x.undo();
    x.cut(1, true);
    Due.is("a's sooner than 20 behind c", x.troubled(), 0);
    Walk.says("SLACK of a player: the least of how many seconds more than NEED there are between two BODILY ones,"
        + " one behind the other (999 without).");
    x = Due.told(company(0, 1, 3) + Due.on("a", "s", 0, 10) + Due.on("b", "s", 37, 40)
        + Due.on("b", "s", 45, 50) + Due.on("c", "s", 73, 90) + Due.on("a", "s", 11, 12, "left left behind"));
    Due.is("27 less 20, 5, 23 less 20", x.slack(0), 3);
    x.cut(3, true);
    Due.is("27 less 20, 5", x.slack(0), 5);
    x.cut(2, true);
    Due.is("27 less 20", x.slack(0), 7);
    x.cut(1, true);
    Due.is("one alone", x.slack(0), 999);
    x = Due.told(Due.head(0, 99, 1) + PARTS + Due.scene("s", 500) + Due.scene("t", 500) + Due.scene("u", 500)
        + Due.on("p", "s", 0, 10) + Due.on("p", "u", 0, 10));
    Due.is("of 1,198 less 10 as many", x.slack(0), 1188);
  }

  private static void seenAndActs() {
    Walk.says("SEEN: of what was saw, in seconds of an evening, one player CAN have been some of them if, one"
        + " behind the other in time (of one second by numbers), each is no sooner than CHANGE and walk, if"
        + " SIDES are unlike, behind the one ahead.");
    String two = Due.head(8, 0, 1) + Due.part("low", "plain", 1, 5, 3) + Due.part("high", "plain", 2, 6, 4)
        + Due.scene("s", 9);
    int[][] sames = {{5, 0}, {6, 1}};
    for (int[] row : sames) {
      Due.is("don 6", Due.told(two + Due.saw("low", 20) + Due.saw("high", 20 + row[0])).same(0, 1), row[1]);
      Due.is("don 6 and walk 8", Due.told(two + Due.saw("low", 20)
          + Due.saw("high", 28 + row[0], "right")).same(0, 1), row[1]);
      Due.is("told the other way round", Due.told(two + Due.saw("high", 20 + row[0])
          + Due.saw("low", 20)).same(0, 1), row[1]);
    }
    Due.is("doff 4", Due.told(two + Due.saw("high", 20) + Due.saw("low", 24)).same(0, 1), 1);
    Due.is("a second less", Due.told(two + Due.saw("high", 20) + Due.saw("low", 23)).same(0, 1), 0);
    String light = two.replace("don 6", "don 0");
    Due.is("of one second by numbers: don 0", Due.told(light + Due.saw("low", 20) + Due.saw("high", 20)).same(0, 1), 1);
    Due.is("the other way round: doff 4", Due.told(light + Due.saw("high", 20) + Due.saw("low", 20)).same(0, 1), 0);
    Due.is("one part, one second", Due.told(two + Due.saw("low", 20) + Due.saw("low", 20)).same(0, 1), 1);
    Walk.says("MUST: the fewest players that can have been all.");
    OnePlays x = Due.told(two + Due.saw("low", 20) + Due.saw("high", 21) + Due.saw("low", 30) + Due.saw("high", 31));
    Due.is("must()", x.must(), 2);
    x = Due.told(two + Due.saw("low", 20) + Due.saw("high", 20) + Due.saw("low", 20, "right")
        + Due.saw("low", 20));
    Due.is("must() of one second", x.must(), 3);
    Walk.says("ACTS: SWAP, CAST, CUT;");
    x = Due.told(OK + Due.on("p", "s", 0, 5));
    Due.is("swap", x.swap(0, 1), true);
    Due.is("cast", x.cast(1, 2), true);
    Due.is("cut", x.cut(0, true), true);
    Due.is("size(6)", x.size(6), 3);
    Walk.says("UNDO (12 are kept),");
    for (int i = 0; i < 10; i++) {
      x.cut(0, i % 2 == 1);
    }
    Due.is("size(6) of 13 ACTS", x.size(6), 12);
    int undone = 0;
    while (undone < 20 && x.undo()) {
      undone++;
    }
    Due.is("how many are undone", undone, 12);
    Due.is("the first ACT stays", x.scene(0), 1);
    Due.is("the second one is undone", x.part(1, 5), 0);
    Walk.says("REDO the latest undone, if no ACT came since.");
    Due.is("redo()", x.redo(), true);
    Due.is("the second ACT", x.part(1, 5), 2);
    Due.is("not the third", x.on(0, 5), 0);
    Due.is("an ACT", x.cast(0, 3), true);
    Due.is("redo()", x.redo(), false);
    Walk.says("IMAGES: up to 3;");
    Due.is("image()", x.image(), 0);
    Due.is("image()", x.image(), 1);
    Due.is("image()", x.image(), 2);
    Due.is(x, "image()", x.image(), -1, 3);
    Walk.says("gone back to one, nothing can be undone or redone.");
    x.cast(0, 4);
    x.undo();
    Due.is("an ACT can be redone", x.size(7), 1);
    Due.is("and some undone", x.size(6) > 0, true);
    Due.is("back()", x.back(1), true);
    Due.is("undo()", x.undo(), false);
    Due.is("redo()", x.redo(), false);
  }

  private static void troubles() {
    Walk.says("IV. TROUBLE of the latest call that may be refused (those of which a number is told here):");
    OnePlays x = Due.told(OK);
    x.scene(2);
    x.size(99);
    x.feed(0, 0, 0, 0, 0);
    x.where();
    Due.is("trouble() is scene()'s", x.trouble(), 1);
    x.scene(1);
    Due.is("trouble() of the latest", x.trouble(), 0);
    x.size(99);
    Due.led(x, 9, 0);
    for (int i = 0; i < 46; i++) {
      x.feed(0, 0, 0, 0, 0);
    }
    Due.is("trouble() behind calls of no number", x.trouble(), 0);
    Walk.says("0 it wasn't;");
    Due.is("trouble() behind one that isn't refused", x.trouble(), 0);
    Due.is("nor one that answers -2", x.troubled(), -2);
    Due.is("trouble()", x.trouble(), 0);
    Walk.says("1 there is none such;");
    Due.is(x, "change(0, 2)", x.change(0, 2), -1, 1);
    Walk.says("2 a number;");
    Due.is(x, "could(4)", x.could(4), -1, 2);
    Walk.says("3 no room;");
    for (int i = 0; i < 3; i++) {
      x.image();
    }
    Due.is(x, "image()", x.image(), -1, 3);
    Walk.says("4 a FAULT;");
    Due.is(x, "piece(1)", x.piece(1), -1, 4);
    Walk.says("5 not so;");
    Due.is(x, "cast(0, 0)", x.cast(0, 0), false, 5);
    Walk.says("6 there is none.");
    Due.is(x, "undo()", x.undo(), false, 6);
  }
}

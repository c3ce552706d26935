/** The promises 1 to 46 of the document, word for word, each with its test. */
final class WalkPromises {
  private WalkPromises() {}

  static void all() {
    newObject();
    thePiece();
    scenes();
    changesAndNeeds();
    whoCan();
    troubledToSweat();
    fewestAndPlayer();
    ofAll();
    cutting();
    readyAndLent();
    gapToWho();
    seen();
    acting();
    stepping();
    imaging();
    partAndOn();
    ledToTrouble();
  }

  private static OnePlays court() {
    return Due.told(Walk.court());
  }

  /** Plain parts a, b, c ... of coats alike, don and doff 10 each, and scenes s, t, u of 100 seconds. */
  private static OnePlays company(int gap, int players, int parts, String... more) {
    StringBuilder text = new StringBuilder(Due.head(0, gap, players));
    for (int p = 0; p < parts; p++) {
      text.append(Due.part("" + (char) ('a' + p), "plain", 1, 10, 10));
    }
    text.append(Due.scene("s", 100)).append(Due.scene("t", 100)).append(Due.scene("u", 100));
    for (String line : more) {
      text.append(line);
    }
    return Due.told(text.toString());
  }

  private static void newObject() {
    Walk.asksNothing("## Promise 1: A new object");
    Walk.says("`OnePlays()`: No PIECE.");
    OnePlays x = new OnePlays();
    for (int what = 0; what <= 9; what++) {
      Due.is("size(" + what + ")", x.size(what), 0);
    }
    Due.is("trouble()", x.trouble(), 0);
    Due.is("fault()", x.fault(), 0);
    Due.is("where()", x.where(), -1);
    Due.is(x, "orders()", x.orders(), -1, 1);
  }

  // ------------------------------------------------------------- 2 to 5: the piece

  private static void thePiece() {
    Walk.asksNothing("## Promise 2: feed");
    Walk.says("`int feed(int a, int b, int c, int d, int e)`: Twenty bytes come behind THE TAPE, of each"
        + " number the highest first: how many it has;");
    // "scen", "e s ", "last", "s 7;", "piec"
    OnePlays x = new OnePlays();
    Due.is("feed()", x.feed(0x7363656e, 0x65207320, 0x6c617374, 0x7320373b, 0x70696563), 20);
    Due.is("feed()", x.feed(0x65207761, 0x6c6b2031, 0x20202020, 0x20202020, 0x2020207b), 40);
    Due.is(x, "piece(40)", x.piece(40), -1, 4);
    Due.is("where() of the last byte", x.where(), 39);
    x.feed(0x7363656e, 0x65207320, 0x6c617374, 0x7320373b, 0xff202020);
    Due.is(x, "piece(17)", x.piece(17), -1, 4);
    Due.is("where() of a byte of 255", x.where(), 16);
    Walk.says("NONE, and none comes, if there would be more than 900.");
    for (int i = 1; i <= 45; i++) {
      Due.is("feed()", x.feed(0x20202020, 0x20202020, 0x20202020, 0x20202020, 0x20202020), 20 * i);
    }
    Due.is("feed()", x.feed(0, 0, 0, 0, 0), -1);
    Due.is("size(9)", x.size(9), 900);
    x.piece(900);
    Due.is("where() of 900 blanks", x.where(), 900);

    Walk.asksNothing("## Promise 3: piece");
    Walk.says("`int piece(int n)`: The first n bytes");
    String text = Due.whole(Walk.court());
    x = new OnePlays();
    Texts.feed(x, text + "!");
    Due.is(x, "piece()", x.piece(text.length()), 7, 0);
    Walk.says("(of 0: FAULT 1)");
    Texts.feed(x, text);
    Due.is(x, "piece(0)", x.piece(0), -1, 4);
    Due.is("fault()", x.fault(), 1);
    Due.is("where()", x.where(), 0);
    Walk.says("of THE TAPE (it is empty then)");
    Due.is("size(9)", x.size(9), 0);
    Due.is("feed()", x.feed(0, 0, 0, 0, 0), 20);
    Walk.says("are the PIECE from now on");
    x = Due.told(Walk.court());
    String other = "scene z lasts 9;part y dead coat 1 don 2 doff 3;piece walk 1 gap 2 players 3";
    Texts.feed(x, other);
    Due.is("piece()", x.piece(other.length()), 0);
    int[] sizes = {1, 1, 0, 0, 0, 3};
    for (int what = 0; what < sizes.length; what++) {
      Due.is("size(" + what + ")", x.size(what), sizes[what]);
    }
    Due.is("part(0, 0)", x.part(0, 0), 3);
    Due.is("begins(0, true)", x.begins(0, true), 9);
    nothingIsLeft();
    Walk.says("(THE EVENING as at first, no IMAGES):");
    x = Due.told(Walk.court().replace("after one two;", ""));
    x.image();
    x.cast(0, 1);
    x.cut(0, true);
    x.swap(0, 1);
    x.cast(1, 1);
    x.undo();
    Texts.feed(x, text);
    x.piece(text.length());
    Due.is("scene(0)", x.scene(0), 0);
    Due.is("part(0, 5)", x.part(0, 5), 0);
    Due.is("on(0, 5)", x.on(0, 5), 0);
    for (int what = 6; what <= 8; what++) {
      Due.is("size(" + what + ")", x.size(what), 0);
    }
    Walk.says("how many APPEARANCES.");
    Due.is("size(2)", x.size(2), 7);
    Texts.feed(x, text + ";on king one 0 to 1 left left");
    Due.is("piece()", x.piece(text.length() + 29), 8);
    Walk.says("NONE: 2 (THE TAPE stays);");
    Texts.feed(x, text);
    int fed = x.size(9);
    Due.is(x, "piece(-1)", x.piece(-1), -1, 2);
    Due.is(x, "piece() of one byte too many", x.piece(fed + 1), -1, 2);
    Due.is("size(9)", x.size(9), fed);
    Due.is("piece()", x.piece(text.length()), 7);
    Walk.says("4 (the PIECE stays).");
    x.cast(1, 3);
    x.image();
    Texts.feed(x, other + ";;");
    Due.is(x, "piece()", x.piece(other.length() + 2), -1, 4);
    Due.is("size(0)", x.size(0), 5);
    Due.is("part(1, 5)", x.part(1, 5), 3);
    Due.is("size(6)", x.size(6), 1);
    Due.is("size(8)", x.size(8), 1);
    Due.is("need(0, 1)", x.need(0, 1), 16);

    Walk.asksNothing("## Promise 4: fault");
    Walk.says("`int fault()`: The FAULT of the latest piece() not refused by 2;");
    Texts.feed(x, "scene");
    x.piece(4);
    Due.is("fault()", x.fault(), 1);
    x.piece(99);
    Due.is("fault() behind one refused by 2", x.fault(), 1);
    Texts.feed(x, "after a b");
    x.piece(9);
    Due.is("fault() of the latest", x.fault(), 2);
    x.orders();
    Due.is("fault() behind another call", x.fault(), 2);
    Walk.says("0 without one.");
    Texts.feed(x, text);
    x.piece(text.length());
    Due.is("fault() of a PIECE", x.fault(), 0);
    Due.is("fault() of a new object", new OnePlays().fault(), 0);

    Walk.asksNothing("## Promise 5: where");
    Walk.says("`int where()`: Its place, if the latest call that may be refused was by 4;");
    Texts.feed(x, "after a b");
    x.piece(9);
    Due.is("where()", x.where(), 6);
    x.feed(0, 0, 0, 0, 0);
    x.size(0);
    x.trouble();
    Due.is("where() behind calls of no number", x.where(), 6);
    Walk.says("NONE else.");
    x.orders();
    Due.is("where() behind orders()", x.where(), -1);
    x.scene(-1);
    Due.is("where() behind one refused by 1", x.where(), -1);
    Due.is("fault()", x.fault(), 2);
    Due.is("where() of a new object", new OnePlays().where(), -1);
  }

  /** What is asked of a PIECE is answered of it, whatever was asked of those ahead of it. */
  private static void nothingIsLeft() {
    OnePlays x = court();
    String one = Due.whole(Due.head(0, 0, 1) + Due.part("a", "plain", 1, 10, 10)
        + Due.part("b", "plain", 1, 10, 10) + Due.scene("s", 100) + Due.scene("t", 100)
        + Due.on("a", "s", 0, 10) + Due.on("b", "s", 20, 30) + Due.on("a", "t", 0, 10)
        + Due.on("a", "t", 10, 20) + Due.on("a", "t", 20, 30) + Due.on("a", "t", 30, 40)
        + Due.on("a", "t", 40, 50) + Due.saw("a", 10) + Due.saw("b", 10));
    String[] texts = {one, Due.whole(Walk.court()), one.replace("b s 20 to 30", "b s 30 to 40")};
    // FEWEST, of all, who plays the second part, CUTS, READY, MUST, GAP, ORDERS, afters, SLACK
    int[][] due = {{2, 2, 1, 1, 1, 2, -2, 2, 0, -10}, {2, 2, 1, 1, 0, 2, -2, 1, 1, -2},
        {1, 1, 0, 0, 0, 2, 0, 2, 0, 0}};
    for (int i = 0; i < 3; i++) {
      Texts.feed(x, texts[i]);
      Due.is("piece()", x.piece(texts[i].length()), 7);
      int[] got = {x.fewest(), x.fewestOfAll(), x.player(1), x.cuts(), x.ready(1), x.must(), x.gap(),
          x.orders(), x.size(3), x.slack(0)};
      for (int j = 0; j < got.length; j++) {
        Due.is("answer " + j + " of text " + i, got[j], due[i][j]);
      }
      for (int k = 0; k < 7 && i != 1; k++) {
        Due.is("bodily(" + k + ")", x.bodily(k), 1);
      }
    }
  }

  // ------------------------------------------------------------- 6 to 18: an evening

  private static void scenes() {
    Walk.asksNothing("## Promise 6: orders");
    Walk.says("`int orders()`: How many ORDERS there are.");
    Due.is("orders()", company(0, 1, 1).orders(), 6);
    Due.is("orders()", company(0, 1, 1, Due.after("u", "s")).orders(), 3);
    Due.is("orders()", company(0, 1, 1, Due.after("u", "s"), Due.after("t", "s")).orders(), 2);
    Due.is("orders()", company(0, 1, 1, Due.after("u", "t"), Due.after("t", "s")).orders(), 1);
    Walk.says("NONE: 1 (no PIECE).");
    OnePlays none = new OnePlays();
    Due.is(none, "orders()", none.orders(), -1, 1);

    Walk.asksNothing("## Promise 7: scene");
    Walk.says("`int scene(int i)`: The i-th scene of THE EVENING.");
    OnePlays x = company(7, 1, 1, Due.after("u", "s"), Due.on("a", "s", 1, 5), Due.on("a", "u", 2, 9));
    // The first ORDER by numbers: t, u, s.
    int[] row = {1, 2, 0};
    for (int i = 0; i < 3; i++) {
      Due.is("scene(" + i + ")", x.scene(i), row[i]);
    }
    x.swap(0, 1);
    Due.is("scene(0)", x.scene(0), 2);
    Due.is("scene(1)", x.scene(1), 1);
    Walk.says("NONE: 1.");
    for (int i : new int[] {-1, 3}) {
      Due.is(x, "scene(" + i + ")", x.scene(i), -1, 1);
    }

    Walk.asksNothing("## Promise 8: begins");
    Walk.says("`int begins(int scene, boolean ends)`: When a scene begins, or ends.");
    // The ORDER is u, t, s.
    int[] begins = {214, 107, 0};
    for (int s = 0; s < 3; s++) {
      Due.is("begins(" + s + ")", x.begins(s, false), begins[s]);
      Due.is("its end", x.begins(s, true), begins[s] + 100);
    }
    Walk.says("NONE: 1.");
    for (int i : new int[] {-1, 3}) {
      Due.is(x, "begins(" + i + ")", x.begins(i, i < 0), -1, 1);
    }

    Walk.asksNothing("## Promise 9: seen");
    Walk.says("`int seen(int on, boolean ends)`: When an APPEARANCE begins, or ends, THE EVENING.");
    Due.is("seen(0)", x.seen(0, false), 215);
    Due.is("its end", x.seen(0, true), 219);
    Due.is("seen(1)", x.seen(1, false), 2);
    Due.is("its end", x.seen(1, true), 9);
    x.undo();
    Due.is("seen(1) with t ahead", x.seen(1, false), 109);
    Walk.says("NONE: 1.");
    for (int i : new int[] {-1, 2}) {
      Due.is(x, "seen(" + i + ")", x.seen(i, i < 0), -1, 1);
    }
  }

  private static void changesAndNeeds() {
    OnePlays x = court();
    Walk.asksNothing("## Promise 10: change");
    Walk.says("`int change(int part, int other)`: CHANGE.");
    // king coat 2 (4, 3), fool 2 (2 + 6, 1), cloak 5 (3, 2), doll 0 (0, 0), corpse 1 (9, 7)
    int[][] changes = {{0, 11, 3, 3, 3}, {5, 0, 3, 1, 1}, {2, 2, 0, 2, 2}, {4, 8, 3, 0, 9}, {4, 8, 3, 7, 0}};
    for (int p = 0; p < 5; p++) {
      for (int q = 0; q < 5; q++) {
        Due.is("change(" + p + ", " + q + ")", x.change(p, q), changes[p][q]);
      }
    }
    Walk.says("NONE: 1.");
    Due.is(x, "change(5, 0)", x.change(5, 0), -1, 1);
    Due.is(x, "change(0, -1)", x.change(0, -1), -1, 1);

    Walk.asksNothing("## Promise 11: need");
    Walk.says("`int need(int on, int other)`: NEED.");
    Due.is("king right, fool left", x.need(0, 1), 11 + 5);
    Due.is("fool left, corpse left", x.need(1, 4), 1);
    Due.is("corpse left, king right", x.need(4, 5), 4 + 5);
    Due.is("king right, cloak right", x.need(5, 2), 3);
    Walk.says("NONE: 1.");
    Due.is(x, "need(7, 0)", x.need(7, 0), -1, 1);
    Due.is(x, "need(0, -1)", x.need(0, -1), -1, 1);

    Walk.asksNothing("## Promise 12: meet");
    Walk.says("`int meet(int on, int other)`: Whether two APPEARANCES MEET THE EVENING: 1, 0.");
    Due.is("cloak in the king's time", x.meet(2, 0), 1);
    Due.is("king ahead of the fool", x.meet(0, 1), 0);
    Due.is("king 90 .. 100, corpse 95 .. 110", x.meet(5, 6), 1);
    Due.is("of two scenes", x.meet(0, 5), 0);
    Walk.says("NONE: 1.");
    Due.is(x, "meet(7, 0)", x.meet(7, 0), -1, 1);
    Due.is(x, "meet(0, -1)", x.meet(0, -1), -1, 1);

    Walk.asksNothing("## Promise 13: bodily");
    Walk.says("`int bodily(int on)`: Whether an APPEARANCE is BODILY THE EVENING,");
    int[] bodily = {1, 1, 0, 0, 1, 1, 0};
    for (int k = 0; k < 7; k++) {
      Due.is("bodily(" + k + ")", x.bodily(k), bodily[k]);
    }
    Walk.says("CUT ones aside (they are not): 1, 0.");
    x.cut(0, true);
    x.cut(4, true);
    Due.is("of one that is CUT", x.bodily(0), 0);
    Due.is("of the corpse's first that is CUT", x.bodily(4), 0);
    Due.is("of the corpse's second then", x.bodily(6), 1);
    Walk.says("NONE: 1.");
    Due.is(x, "bodily(7)", x.bodily(7), -1, 1);
    Due.is(x, "bodily(-1)", x.bodily(-1), -1, 1);
  }

  private static void whoCan() {
    OnePlays x = company(0, 1, 2, Due.on("a", "s", 0, 10), Due.on("b", "s", 29, 40));
    Walk.asksNothing("## Promise 14: can");
    Walk.says("`int can(int player)`: Whether a player (0 .. 6) CAN THE EVENING: 1, 0.");
    Due.is("19 seconds of 20", x.can(0), 0);
    Due.is("without a part", x.can(6), 1);
    x.cast(1, 6);
    Due.is("a alone", x.can(0), 1);
    Due.is("b alone", x.can(6), 1);
    x.cast(0, 6);
    Due.is("both", x.can(6), 0);
    Walk.says("NONE: 1.");
    Due.is(x, "can(7)", x.can(7), -1, 1);
    Due.is(x, "can(-1)", x.can(-1), -1, 1);

    Walk.asksNothing("## Promise 15: could");
    Walk.says("`int could(int parts)`: Whether a player could play some parts (bits) in the ORDER there is,");
    int[] could = {1, 1, 1, 0};
    for (int bits = 0; bits < 4; bits++) {
      Due.is("could(" + bits + ")", x.could(bits), could[bits]);
    }
    OnePlays y = company(0, 1, 2, Due.on("a", "s", 90, 100), Due.on("b", "t", 0, 10));
    Due.is("b behind a", y.could(3), 0);
    y.swap(0, 1);
    Due.is("b ahead of a", y.could(3), 1);
    Walk.says("CUT ones aside: 1, 0.");
    x.cut(1, true);
    Due.is("without b's", x.could(3), 1);
    Walk.says("NONE: 1 (no PIECE);");
    OnePlays none = new OnePlays();
    Due.is(none, "could(1)", none.could(1), -1, 1);
    Due.is(none, "could(-1)", none.could(-1), -1, 1);
    Walk.says("2 (bits of none such).");
    Due.is(x, "could(4)", x.could(4), -1, 2);
    Due.is(x, "could(-1)", x.could(-1), -1, 2);
  }

  private static void troubledToSweat() {
    OnePlays x = court();
    Walk.asksNothing("## Promise 16: troubled");
    Walk.says("`int troubled()`: TROUBLED;");
    Due.is("the cloak behind, in the king's time", x.troubled(), 2);
    x.cast(2, 1);
    Due.is("the fool 14 behind the king, of 16", x.troubled(), 1);
    Walk.says("-2 if there is none.");
    x.cast(1, 1);
    Due.is("none", x.troubled(), -2);
    Walk.says("NONE: 1 (no PIECE).");
    OnePlays none = new OnePlays();
    Due.is(none, "troubled()", none.troubled(), -1, 1);

    Walk.asksNothing("## Promise 17: slack");
    Walk.says("`int slack(int player)`: SLACK;");
    // king 0 .. 20, corpse 70 .. 80 (3 + 5 behind, 50 are there), king 90 .. 100 (4 + 5, 10 are)
    Due.is("slack(0)", x.slack(0), 1);
    Due.is("slack(1)", x.slack(1), 999);
    Walk.says("below 0 if it can't be (MEET: less than NEED, too).");
    OnePlays y = company(0, 1, 2, Due.on("a", "s", 0, 10), Due.on("b", "s", 29, 40));
    Due.is("19 of 20", y.slack(0), -1);
    y = company(0, 1, 2, Due.on("a", "s", 0, 10), Due.on("b", "s", 4, 40));
    Due.is("6 too soon, of 20 behind", y.slack(0), -26);
    Walk.says("-1,000: 1 (player 0 .. 6).");
    Due.is("slack(6)", y.slack(6), 999);
    Due.is(y, "slack(7)", y.slack(7), -1000, 1);
    Due.is(y, "slack(-1)", y.slack(-1), -1000, 1);
    Due.is(none, "slack(0)", none.slack(0), -1000, 1);

    Walk.asksNothing("## Promise 18: sweat");
    x = court();
    Walk.says("`int sweat(int player, int what)`: Of a player THE EVENING 0 seconds of BODILY ones,");
    Due.is("king 20, fool 16, corpse 10, king 10", x.sweat(0, 0), 20 + 16 + 10 + 10);
    Due.is("of another player", x.sweat(1, 0), 0);
    Walk.says("1 how often he walks (two BODILY ones, one behind the other, SIDES unlike),");
    Due.is("king to fool, corpse to king", x.sweat(0, 1), 2);
    Walk.says("2 how often he CHANGES (parts unlike),");
    Due.is("king, fool, corpse, king", x.sweat(0, 2), 3);
    Walk.says("3 seconds of CHANGES,");
    Due.is("11, 1, 4", x.sweat(0, 3), 16);
    OnePlays light = Due.told(Walk.court().replace("coat 2 don 2 doff 1", "coat 3 don 0 doff 0")
        .replace("beard 6", "beard 0"));
    Due.is("CHANGES of 0 seconds, too", light.sweat(0, 2), 3);
    Due.is("0, 0, 4", light.sweat(0, 3), 4);
    Walk.says("4 seconds said from behind,");
    Due.is("the cloak's 5", x.sweat(0, 4), 5);
    Walk.says("5 seconds of puppets that are not behind.");
    Due.is("the doll's 13", x.sweat(0, 5), 13);
    x.cut(3, true);
    Due.is("CUT", x.sweat(0, 5), 0);
    OnePlays hidden = Due.told(Walk.court() + Due.on("doll", "two", 0, 7, "left left behind"));
    Due.is("behind ones aside", hidden.sweat(0, 5), 13);
    Due.is("they are behind", hidden.sweat(0, 4), 5 + 7);
    Walk.says("NONE: 1.");
    Due.is(x, "sweat(0, 6)", x.sweat(0, 6), -1, 1);
    Due.is(x, "sweat(0, -1)", x.sweat(0, -1), -1, 1);
    Due.is(x, "sweat(7, 0)", x.sweat(7, 0), -1, 1);
    Due.is(x, "sweat(-1, 0)", x.sweat(-1, 0), -1, 1);
  }

  // ------------------------------------------------------------- 19 to 31: fewest

  private static void fewestAndPlayer() {
    OnePlays none = new OnePlays();
    Walk.asksNothing("## Promise 19: fewest");
    Walk.says("`int fewest()`: FEWEST of the ORDER there is.");
    OnePlays x = company(0, 1, 3, Due.on("a", "s", 90, 100), Due.on("b", "t", 0, 10), Due.on("c", "t", 5, 6));
    Due.is("a, b, c too near", x.fewest(), 3);
    x.swap(0, 1);
    Due.is("a far behind b, c", x.fewest(), 2);
    x.cut(2, true);
    Due.is("c CUT", x.fewest(), 1);
    Walk.says("NONE: 1 (no PIECE).");
    Due.is(none, "fewest()", none.fewest(), -1, 1);

    Walk.asksNothing("## Promise 20: player");
    Walk.says("`int player(int part)`: Who plays a part by it;");
    x.undo();
    int[] players = {0, 0, 1};
    for (int p = 0; p < 3; p++) {
      Due.is("player(" + p + ")", x.player(p), players[p]);
    }
    Walk.says("-2.");
    OnePlays y = company(0, 1, 2, Due.on("a", "s", 0, 9), Due.on("a", "s", 8, 10));
    Due.is("fewest()", y.fewest(), -2);
    Due.is(y, "player(0)", y.player(0), -2, 0);
    Due.is(y, "player(1)", y.player(1), -2, 0);
    Walk.says("NONE: 1.");
    Due.is(y, "player(2)", y.player(2), -1, 1);
    Due.is(y, "player(-1)", y.player(-1), -1, 1);
  }

  private static void ofAll() {
    OnePlays none = new OnePlays();
    OnePlays never = company(0, 1, 1, Due.on("a", "s", 0, 9), Due.on("a", "s", 8, 10));
    // a at the end of s, b at the begin of t: t must not be right behind s.
    OnePlays x = company(0, 1, 2, Due.on("a", "s", 90, 100), Due.on("b", "t", 0, 10));
    Walk.asksNothing("## Promise 21: fewestOfAll");
    Walk.says("`int fewestOfAll()`: FEWEST of all.");
    Due.is("fewest()", x.fewest(), 2);
    Due.is("fewestOfAll()", x.fewestOfAll(), 1);
    Due.is("in no ORDER", never.fewestOfAll(), -2);
    Walk.says("NONE: 1 (no PIECE).");
    Due.is(none, "fewestOfAll()", none.fewestOfAll(), -1, 1);

    Walk.asksNothing("## Promise 22: sceneOfAll");
    Walk.says("`int sceneOfAll(int i)`: The i-th scene of its ORDER;");
    int[] row = {0, 2, 1};
    for (int i = 0; i < 3; i++) {
      Due.is("sceneOfAll(" + i + ")", x.sceneOfAll(i), row[i]);
    }
    Walk.says("-2 if there is none.");
    Due.is(never, "sceneOfAll(0)", never.sceneOfAll(0), -2, 0);
    Walk.says("NONE: 1.");
    Due.is(x, "sceneOfAll(3)", x.sceneOfAll(3), -1, 1);
    Due.is(x, "sceneOfAll(-1)", x.sceneOfAll(-1), -1, 1);
    Due.is(never, "sceneOfAll(3)", never.sceneOfAll(3), -1, 1);

    Walk.asksNothing("## Promise 23: enough");
    Walk.says("`int enough()`: Whether as many players as told do, in some ORDER: 1, 0.");
    Due.is("one in another ORDER", x.enough(), 1);
    Due.is("in no ORDER", never.enough(), 0);
    String both = Due.on("a", "s", 0, 10) + Due.on("b", "s", 0, 10);
    Due.is("one for two", company(0, 1, 2, both).enough(), 0);
    Due.is("two for two", company(0, 2, 2, both).enough(), 1);
    Walk.says("NONE: 1 (no PIECE).");
    Due.is(none, "enough()", none.enough(), -1, 1);
  }

  private static void cutting() {
    OnePlays none = new OnePlays();
    String all = Due.on("a", "s", 0, 10) + Due.on("b", "s", 0, 10) + Due.on("c", "s", 0, 10)
        + Due.on("d", "s", 0, 10);
    OnePlays x = company(0, 2, 4, all);
    OnePlays y = company(0, 1, 5, all, Due.on("e", "s", 0, 10));
    Walk.asksNothing("## Promise 24: cuts");
    Walk.says("`int cuts()`: CUTS: how many;");
    Due.is("four at once by two", x.cuts(), 2);
    Due.is("four at once by one", company(0, 1, 4, all).cuts(), 3);
    Due.is("none", company(0, 1, 4).cuts(), 0);
    Walk.says("-2 if 3 don't do.");
    Due.is(y, "cuts()", y.cuts(), -2, 0);
    Walk.says("NONE: 1 (no PIECE).");
    Due.is(none, "cuts()", none.cuts(), -1, 1);

    Walk.asksNothing("## Promise 25: cutsBy");
    Walk.says("`int cutsBy()`: They, as bits;");
    Due.is("the first two", x.cutsBy(), 1 | 2);
    x.cut(0, true);
    Due.is("the second, the first is CUT", x.cutsBy(), 2);
    Due.is("none", company(0, 1, 4).cutsBy(), 0);
    Walk.says("-2.");
    Due.is(y, "cutsBy()", y.cutsBy(), -2, 0);
    Walk.says("NONE: 1 (no PIECE).");
    Due.is(none, "cutsBy()", none.cutsBy(), -1, 1);
  }

  private static void readyAndLent() {
    OnePlays none = new OnePlays();
    // b 10 behind a, of 20: with a's doff or b's don 0 it is one player's; c is behind b by 20.
    OnePlays x = company(0, 1, 3, Due.on("a", "s", 0, 10), Due.on("b", "s", 20, 30), Due.on("c", "s", 50, 60));
    OnePlays never = company(0, 1, 2, Due.on("a", "s", 0, 9), Due.on("a", "s", 8, 10), Due.on("b", "t", 0, 9));
    Walk.asksNothing("## Promise 26: ready");
    Walk.says("`int ready(int part)`: READY");
    int[] ready = {1, 1, 0};
    for (int p = 0; p < 3; p++) {
      Due.is("ready(" + p + ")", x.ready(p), ready[p]);
    }
    Walk.says("(-2 if FEWEST is so).");
    Due.is(never, "ready(1)", never.ready(1), -2, 0);
    Walk.says("NONE: 1.");
    Due.is(x, "ready(3)", x.ready(3), -1, 1);
    Due.is(x, "ready(-1)", x.ready(-1), -1, 1);

    Walk.asksNothing("## Promise 27: lent");
    Walk.says("`int lent(int part)`: LENT");
    int[] lent = {1, 1, 2};
    for (int p = 0; p < 3; p++) {
      Due.is("lent(" + p + ")", x.lent(p), lent[p]);
    }
    Walk.says("(-2 likewise).");
    Due.is(never, "lent(1)", never.lent(1), -2, 0);
    Due.is("without the part that can't be", never.lent(0), 1);
    Walk.says("NONE: 1.");
    Due.is(x, "lent(3)", x.lent(3), -1, 1);
    Due.is(x, "lent(-1)", x.lent(-1), -1, 1);

    Walk.asksNothing("## Promise 28: lend");
    Walk.says("`int lend()`: The part by which LENT is least, the first such;");
    Due.is("a and b alike", x.lend(), 0);
    Due.is("c alone", company(0, 1, 3, Due.on("c", "s", 20, 30), Due.on("a", "s", 0, 10),
        Due.on("b", "s", 30, 40)).lend(), 2);
    Walk.says("-2 if LENT always is -2.");
    OnePlays y = company(0, 1, 2, Due.on("a", "s", 0, 9), Due.on("a", "s", 8, 10), Due.on("b", "t", 0, 9),
        Due.on("b", "t", 0, 1));
    Due.is(y, "lend()", y.lend(), -2, 0);
    Walk.says("NONE: 1 (no PIECE).");
    Due.is(none, "lend()", none.lend(), -1, 1);
  }

  private static void gapToWho() {
    OnePlays none = new OnePlays();
    String near = Due.on("a", "s", 90, 100) + Due.on("b", "t", 0, 10);
    Walk.asksNothing("## Promise 29: gap");
    Walk.says("`int gap()`: GAP;");
    Due.is("20 by the gap alone", company(0, 1, 2, near).gap(), 20);
    Due.is("two players", company(0, 2, 2, near).gap(), 0);
    OnePlays x = company(0, 1, 2, near);
    x.swap(0, 1);
    Due.is("in another ORDER", x.gap(), 0);
    Walk.says("-2 if 99 doesn't do.");
    OnePlays never = company(0, 1, 2, near, Due.on("b", "s", 0, 91));
    Due.is(never, "gap()", never.gap(), -2, 0);
    Walk.says("NONE: 1 (no PIECE).");
    Due.is(none, "gap()", none.gap(), -1, 1);

    Walk.asksNothing("## Promise 30: swaps");
    Walk.says("`int swaps()`: SWAPS;");
    x = company(0, 1, 2, near);
    Due.is("t behind u", x.swaps(), 1);
    x.swap(1, 2);
    Due.is("it is", x.swaps(), 0);
    // Neither u nor t may be right behind s: of s u t, u s t and u t s the last one alone does.
    x = company(0, 1, 3, near, Due.on("c", "u", 0, 10), Due.after("u", "t"));
    Due.is("scene(0)", x.scene(0), 0);
    Due.is("u t s", x.swaps(), 2);
    Walk.says("-2 if there is no such ORDER (that can be come to).");
    Due.is(never, "swaps()", never.swaps(), -2, 0);
    Walk.says("NONE: 1 (no PIECE).");
    Due.is(none, "swaps()", none.swaps(), -1, 1);

    Walk.asksNothing("## Promise 31: who");
    Walk.says("`int who(int players)`: WHO.");
    x = company(0, 1, 2, near);
    int[] who = {0, 2, 6};
    for (int n = 1; n <= 3; n++) {
      Due.is("who(" + n + ")", x.who(n), who[n - 1]);
    }
    x.swap(0, 1);
    Due.is("who(1) in another ORDER", x.who(1), 1);
    Due.is("who(3)", x.who(3), 9);
    Walk.says("NONE: 1 (no PIECE);");
    Due.is(none, "who(1)", none.who(1), -1, 1);
    Walk.says("2 (1 .. 3).");
    Due.is(x, "who(0)", x.who(0), -1, 2);
    Due.is(x, "who(4)", x.who(4), -1, 2);
  }

  // ------------------------------------------------------------- 32 to 34: what was seen

  private static void seen() {
    OnePlays none = new OnePlays();
    OnePlays x = court();
    Walk.asksNothing("## Promise 32: same");
    Walk.says("`int same(int saw, int other)`: Whether one can have been two of those seen: 1, 0.");
    // king 10 left, fool 15 right (11 + 5 of 5), king 40 right (from the king 5 of 30, the fool 5 of 25)
    Due.is("same(0, 1)", x.same(0, 1), 0);
    Due.is("same(1, 0)", x.same(1, 0), 0);
    Due.is("same(0, 2)", x.same(0, 2), 1);
    Due.is("same(1, 2)", x.same(1, 2), 1);
    Walk.says("NONE: 1 (unlike).");
    Due.is(x, "same(1, 1)", x.same(1, 1), -1, 1);
    Due.is(x, "same(0, 3)", x.same(0, 3), -1, 1);
    Due.is(x, "same(-1, 0)", x.same(-1, 0), -1, 1);

    Walk.asksNothing("## Promise 33: must");
    Walk.says("`int must()`: MUST");
    Due.is("must()", x.must(), 2);
    Walk.says("(0 without any).");
    OnePlays y = company(0, 1, 1);
    Due.is(y, "must()", y.must(), 0, 0);
    Walk.says("NONE: 1 (no PIECE).");
    Due.is(none, "must()", none.must(), -1, 1);

    Walk.asksNothing("## Promise 34: betrayed");
    Walk.says("`int betrayed()`: The first two of those seen, by numbers, that one can't have been: 8 times"
        + " the first and the second;");
    Due.is("0 and 1", x.betrayed(), 1);
    OnePlays z = company(0, 1, 2, Due.saw("a", 10), Due.saw("b", 80), Due.saw("a", 30), Due.saw("b", 29),
        Due.saw("b", 31));
    // a 10 and b 29 are 19 apart: 0 and 3.
    Due.is("0 and 3", z.betrayed(), 3);
    z = company(0, 1, 2, Due.saw("a", 100), Due.saw("b", 80), Due.saw("a", 30), Due.saw("b", 29), Due.saw("b", 31));
    Due.is("2 and 3", z.betrayed(), 8 * 2 + 3);
    Walk.says("-2 if there are none.");
    Due.is(y, "betrayed()", y.betrayed(), -2, 0);
    z = company(0, 1, 2, Due.saw("a", 100), Due.saw("b", 80), Due.saw("a", 60));
    Due.is("20 apart", z.betrayed(), -2);
    Walk.says("NONE: 1 (no PIECE).");
    Due.is(none, "betrayed()", none.betrayed(), -1, 1);
  }

  // ------------------------------------------------------------- 35 to 41: acts

  private static void acting() {
    OnePlays x = company(0, 1, 2, Due.after("s", "u"), Due.on("a", "s", 0, 9), Due.on("b", "s", 0, 9));
    Walk.asksNothing("## Promise 35: swap");
    Walk.says("`boolean swap(int i, int j)`: SWAP the i-th and the j-th scene of THE EVENING: true;");
    Due.is(x, "swap(2, 1)", x.swap(2, 1), true, 0);
    Due.is("the second is u", x.scene(1), 2);
    Due.is("the third is t", x.scene(2), 1);
    Due.is(x, "swap(0, 2)", x.swap(0, 2), false, 5);
    Due.is("t and u again, by their places", x.swap(1, 2), true);
    Due.is("t and s", x.swap(0, 1), true);
    Due.is("the first is t", x.scene(0), 1);
    Walk.says("false: 1 (unlike);");
    Due.is(x, "swap(1, 1)", x.swap(1, 1), false, 1);
    Due.is(x, "swap(0, 3)", x.swap(0, 3), false, 1);
    Due.is(x, "swap(-1, 0)", x.swap(-1, 0), false, 1);
    Walk.says("5 (no ORDER then).");
    Due.is(x, "swap(1, 2)", x.swap(1, 2), false, 5);
    Due.is("the second stays s", x.scene(1), 0);

    Walk.asksNothing("## Promise 36: cast");
    Walk.says("`boolean cast(int part, int player)`: A part is a player's (0 .. 6): true;");
    Due.is(x, "cast(1, 6)", x.cast(1, 6), true, 0);
    Due.is("part(1, 5)", x.part(1, 5), 6);
    Due.is("part(0, 5)", x.part(0, 5), 0);
    Walk.says("false: 1;");
    Due.is(x, "cast(2, 1)", x.cast(2, 1), false, 1);
    Due.is(x, "cast(-1, 1)", x.cast(-1, 1), false, 1);
    Walk.says("2;");
    Due.is(x, "cast(0, 7)", x.cast(0, 7), false, 2);
    Due.is(x, "cast(0, -1)", x.cast(0, -1), false, 2);
    Walk.says("5 (it is already).");
    Due.is(x, "cast(1, 6)", x.cast(1, 6), false, 5);
    Due.is(x, "cast(0, 0)", x.cast(0, 0), false, 5);

    Walk.asksNothing("## Promise 37: cut");
    Walk.says("`boolean cut(int on, boolean is)`: CUT an APPEARANCE, or not any more: true;");
    Due.is(x, "cut(1, true)", x.cut(1, true), true, 0);
    Due.is("on(1, 5)", x.on(1, 5), 1);
    Due.is("on(0, 5)", x.on(0, 5), 0);
    Due.is(x, "cut(1, false)", x.cut(1, false), true, 0);
    Due.is("on(1, 5)", x.on(1, 5), 0);
    Walk.says("false: 1;");
    Due.is(x, "cut(2, true)", x.cut(2, true), false, 1);
    Due.is(x, "cut(-1, false)", x.cut(-1, false), false, 1);
    Walk.says("5 (it is so already).");
    Due.is(x, "cut(1, false)", x.cut(1, false), false, 5);
    x.cut(0, true);
    Due.is(x, "cut(0, true)", x.cut(0, true), false, 5);
  }

  private static void stepping() {
    OnePlays x = company(0, 1, 2, Due.on("a", "s", 0, 9));
    x.swap(0, 1);
    x.cast(1, 4);
    x.cut(0, true);
    Walk.asksNothing("## Promise 38: undo");
    Walk.says("`boolean undo()`: UNDO: true;");
    Due.is(x, "undo()", x.undo(), true, 0);
    Due.is("not CUT", x.on(0, 5), 0);
    Due.is("b is 4's", x.part(1, 5), 4);
    Due.is(x, "undo()", x.undo(), true, 0);
    Due.is("b is 0's", x.part(1, 5), 0);
    Due.is(x, "undo()", x.undo(), true, 0);
    Due.is("s is the first", x.scene(0), 0);
    Walk.says("false: 6.");
    Due.is(x, "undo()", x.undo(), false, 6);

    Walk.asksNothing("## Promise 39: redo");
    Walk.says("`boolean redo()`: REDO: true;");
    Due.is(x, "redo()", x.redo(), true, 0);
    Due.is("t is the first", x.scene(0), 1);
    Due.is("b is 0's", x.part(1, 5), 0);
    Due.is(x, "redo()", x.redo(), true, 0);
    Due.is("b is 4's", x.part(1, 5), 4);
    Due.is(x, "redo()", x.redo(), true, 0);
    Due.is("CUT", x.on(0, 5), 1);
    Due.is("what is done again can be undone again", x.undo(), true);
    Due.is("not CUT", x.on(0, 5), 0);
    Due.is("b is 4's", x.part(1, 5), 4);
    Due.is("and done again", x.redo(), true);
    Due.is("CUT", x.on(0, 5), 1);
    Walk.says("false: 6.");
    Due.is(x, "redo()", x.redo(), false, 6);
  }

  private static void imaging() {
    OnePlays none = new OnePlays();
    OnePlays x = company(0, 1, 2, Due.on("a", "s", 0, 9));
    Walk.asksNothing("## Promise 40: image");
    Walk.says("`int image()`: An IMAGE of THE EVENING: its number.");
    Due.is(x, "image()", x.image(), 0, 0);
    x.swap(0, 2);
    x.cast(0, 5);
    x.cut(0, true);
    Due.is(x, "image()", x.image(), 1, 0);
    Due.is("size(8)", x.size(8), 2);
    Walk.says("NONE: 1 (no PIECE);");
    Due.is(none, "image()", none.image(), -1, 1);
    Walk.says("3.");
    x.image();
    Due.is(x, "image()", x.image(), -1, 3);
    Due.is("size(8)", x.size(8), 3);

    Walk.asksNothing("## Promise 41: back");
    Walk.says("`boolean back(int image)`: THE EVENING is as by an IMAGE");
    Due.is(x, "back(0)", x.back(0), true, 0);
    Due.is("scene(0)", x.scene(0), 0);
    Due.is("part(0, 5)", x.part(0, 5), 0);
    Due.is("on(0, 5)", x.on(0, 5), 0);
    Due.is(x, "back(1)", x.back(1), true, 0);
    Due.is("scene(0)", x.scene(0), 2);
    Due.is("part(0, 5)", x.part(0, 5), 5);
    Due.is("on(0, 5)", x.on(0, 5), 1);
    Walk.says("(all IMAGES stay): true;");
    Due.is("size(8)", x.size(8), 3);
    Due.is("back(0)", x.back(0), true);
    Due.is("scene(0)", x.scene(0), 0);
    Walk.says("false: 1.");
    Due.is(x, "back(3)", x.back(3), false, 1);
    Due.is(x, "back(-1)", x.back(-1), false, 1);
    Due.is(none, "back(0)", none.back(0), false, 1);
  }

  // ------------------------------------------------------------- 42 to 46: what is told

  private static void partAndOn() {
    OnePlays x = court();
    x.cast(4, 3);
    x.cut(6, true);
    Walk.asksNothing("## Promise 42: part");
    Walk.says("`int part(int p, int what)`: Of a part 0 its KIND (0 plain, 1 beard, 2 puppet, 3 dead), 1 coat,"
        + " 2 don, 3 doff, 4 beard (0 without), 5 whose it is THE EVENING.");
    int[][] parts = {{0, 2, 4, 3, 0, 0}, {1, 2, 2, 1, 6, 0}, {0, 5, 3, 2, 0, 0}, {2, 0, 0, 0, 0, 0},
        {3, 1, 9, 7, 0, 3}};
    for (int p = 0; p < 5; p++) {
      for (int what = 0; what < 6; what++) {
        Due.is(x, "part(" + p + ", " + what + ")", x.part(p, what), parts[p][what], 0);
      }
    }
    Walk.says("NONE: 1.");
    Due.is(x, "part(5, 0)", x.part(5, 0), -1, 1);
    Due.is(x, "part(-1, 0)", x.part(-1, 0), -1, 1);
    Due.is(x, "part(0, 6)", x.part(0, 6), -1, 1);
    Due.is(x, "part(0, -1)", x.part(0, -1), -1, 1);

    Walk.asksNothing("## Promise 43: on");
    Walk.says("`int on(int k, int what)`: Of an APPEARANCE 0 its part, 1 its scene, 2 whether it is behind, 3"
        + " where it comes in (0 left, 1 right), 4 where it goes off, 5 whether it is CUT.");
    int[][] ons = {{0, 0, 0, 0, 1, 0}, {1, 0, 0, 0, 0, 0}, {2, 0, 1, 1, 1, 0}, {3, 0, 0, 0, 0, 0},
        {4, 1, 0, 0, 0, 0}, {0, 1, 0, 1, 1, 0}, {4, 1, 0, 0, 0, 1}};
    for (int k = 0; k < 7; k++) {
      for (int what = 0; what < 6; what++) {
        Due.is(x, "on(" + k + ", " + what + ")", x.on(k, what), ons[k][what], 0);
      }
    }
    Walk.says("NONE: 1.");
    Due.is(x, "on(7, 0)", x.on(7, 0), -1, 1);
    Due.is(x, "on(-1, 0)", x.on(-1, 0), -1, 1);
    Due.is(x, "on(0, 6)", x.on(0, 6), -1, 1);
    Due.is(x, "on(0, -1)", x.on(0, -1), -1, 1);
  }

  private static void ledToTrouble() {
    OnePlays x = court();
    Walk.asksNothing("## Promise 44: led");
    Walk.says("`int led(int player, int i) throws NoSuchElementException`: The i-th APPEARANCE of a player, by"
        + " time, then numbers, CUT ones aside.");
    int[] row = {0, 3, 2, 1, 4, 5, 6};
    for (int i = 0; i < 7; i++) {
      Due.is("led(0, " + i + ")", Due.led(x, 0, i), row[i]);
    }
    x.cut(3, true);
    x.cast(2, 6);
    Due.is("the doll's CUT, the cloak is another one's", Due.led(x, 0, 1), 1);
    Due.is("led(6, 0)", Due.led(x, 6, 0), 2);
    OnePlays y = company(0, 1, 2, Due.on("b", "s", 5, 9), Due.on("a", "s", 5, 7));
    Due.is("of one second by numbers", Due.led(y, 0, 0), 0);
    Walk.says("NoSuchElementException if there is none such (player 0 .. 6, i).");
    Due.is("one behind the last", Due.led(x, 0, 5), -99);
    Due.is("below 0", Due.led(x, 0, -1), -99);
    Due.is("of no part", Due.led(x, 5, 0), -99);
    Due.is("player 7", Due.led(x, 7, 0), -99);
    Due.is("player -1", Due.led(x, -1, 0), -99);
    Due.is("no PIECE", Due.led(new OnePlays(), 0, 0), -99);

    Walk.asksNothing("## Promise 45: size");
    Walk.says("`int size(int what)`: 0 parts, 1 scenes, 2 APPEARANCES, 3 afters, 4 those seen, 5 players told, 6"
        + " ACTS that can be undone, 7 redone, 8 IMAGES, 9 bytes of THE TAPE.");
    x = company(0, 3, 2, Due.after("s", "t"), Due.after("s", "t"), Due.after("t", "u"), Due.after("s", "u"),
        Due.saw("a", 1), Due.saw("a", 2), Due.saw("a", 3), Due.saw("a", 4), Due.saw("a", 5),
        Due.on("a", "s", 0, 1));
    x.cast(0, 1);
    x.cast(0, 2);
    x.cast(0, 3);
    x.undo();
    x.image();
    x.feed(0, 0, 0, 0, 0);
    int[] sizes = {2, 3, 1, 4, 5, 3, 2, 1, 1, 20};
    for (int what = 0; what < sizes.length; what++) {
      Due.is("size(" + what + ")", x.size(what), sizes[what]);
    }
    Walk.says("NONE for others;");
    Due.is("size(10)", x.size(10), -1);
    Due.is("size(-1)", x.size(-1), -1);
    Walk.says("0 for what there isn't.");
    Due.is("no after", company(0, 1, 1).size(3), 0);
    Due.is("no PIECE", new OnePlays().size(5), 0);

    Walk.asksNothing("## Promise 46: trouble");
    Walk.says("`int trouble()`: TROUBLE.");
    Due.is("of a new object", new OnePlays().trouble(), 0);
    x.redo();
    x.redo();
    Due.is("trouble()", x.trouble(), 6);
    Due.is("trouble() again", x.trouble(), 6);
  }
}

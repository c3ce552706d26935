/** The boundaries that Terms I and promises 1 to 5 name: THE TAPE, the TOKENS, the LINES, the FAULTS. */
public final class TextBoundaryTest {
  private static final int BLANKS = 0x20202020;
  /** A whole piece of one part and one scene; lines more may come behind it. */
  private static final String LEAST = Due.head(1, 1, 1) + Due.part("p", "plain", 1, 1, 1)
      + Due.scene("s", 9);

  public static void main(String[] args) {
    emptyObject();
    fullTape();
    bytesInTheirRow();
    firstBytes();
    blanks();
    words();
    wholes();
    signs();
    lines();
    wholesOfLines();
    names();
    namesTold();
    leftmost();
    many();
    lacks();
    noOrder();
    fullText();
    numbersOfPiece();
    nextText();
    faultAndWhere();
    Due.end("boundaries of texts");
  }

  /** A text that must be read; what answers of it is given back. */
  private static OnePlays goes(String text) {
    return Due.told(text);
  }

  // ------------------------------------------------------------- THE TAPE

  private static void emptyObject() {
    Due.says("OnePlays(): No PIECE");
    OnePlays x = new OnePlays();
    for (int what = 0; what <= 9; what++) {
      Due.is("size(" + what + ")", x.size(what), 0);
    }
    Due.is("trouble()", x.trouble(), 0);
    Due.is("fault()", x.fault(), 0);
    Due.is("where()", x.where(), -1);
    Due.is(x, "orders()", x.orders(), -1, 1);
  }

  private static OnePlays withBlanks(int feeds) {
    OnePlays x = new OnePlays();
    for (int i = 1; i <= feeds; i++) {
      Due.is("feed " + i, x.feed(BLANKS, BLANKS, BLANKS, BLANKS, BLANKS), 20 * i);
    }
    return x;
  }

  private static void fullTape() {
    Due.says("THE TAPE has 900 bytes");
    OnePlays x = withBlanks(45);
    Due.is("size(9)", x.size(9), 900);
    Due.is("feed 46", x.feed(BLANKS, BLANKS, BLANKS, BLANKS, BLANKS), -1);
    Due.is("size(9)", x.size(9), 900);
    Due.says("feed: NONE, and none comes, if there would be more than 900");
    // The tape is one of 900 bytes that ends in a behind; a feed more is refused and leaves it.
    String text = LEAST + "on p s 0 to 9 left left";
    text = text + Due.times(900 - 6 - text.length(), " ") + "behind";
    Due.is("the text's length", text.length(), 900);
    OnePlays y = new OnePlays();
    Due.is("45 feeds", Texts.feed(y, text), true);
    Due.is("feed 46", y.feed(0, 0, 0, 0, 0), -1);
    Due.is("feed 47", y.feed(-1, -1, -1, -1, -1), -1);
    Due.is("feed tells no number", y.trouble(), 0);
    Due.is("size(9)", y.size(9), 900);
    Due.is(y, "piece(900)", y.piece(900), 1, 0);
    Due.is("on(0, 2)", y.on(0, 2), 1);
    Due.is("size(9) behind it", y.size(9), 0);
    Due.says("feed: how many it has, again from 20 on behind a piece()");
    Due.is("feed", y.feed(BLANKS, BLANKS, BLANKS, BLANKS, BLANKS), 20);
    Due.says("the first n bytes: of a full tape all but the last");
    OnePlays z = new OnePlays();
    Texts.feed(z, text);
    Due.is(z, "piece(899)", z.piece(899), -1, 4);
    Due.is("where()", z.where(), 894);
    Due.is("fault()", z.fault(), 1);
    Due.says("a FAULT at the last byte of a full tape, and behind it");
    Due.faultAt(Due.times(899, " ") + "?", 1, 899);
    Due.faultAt(Due.times(900, " "), 1, 900);
    Due.faultAt(Due.times(873, " ") + "piece walk 0gap 0players 1;", 1, 900);
    Due.faultAt(Due.times(874, " ") + "piece walk 0gap 0players 1", 6, 900);
  }

  private static void bytesInTheirRow() {
    Due.says("feed: Twenty bytes come, of each number the highest first");
    for (int at = 0; at < 20; at++) {
      int[] n = {BLANKS, BLANKS, BLANKS, BLANKS, BLANKS};
      int shift = 24 - 8 * (at % 4);
      n[at / 4] = n[at / 4] & ~(255 << shift) | '?' << shift;
      OnePlays x = new OnePlays();
      Due.is("feed", x.feed(n[0], n[1], n[2], n[3], n[4]), 20);
      Due.is("piece(20)", x.piece(20), -1);
      Due.is("where() of a sign at " + at, x.where(), at);
    }
    Due.says("feed: a number below 0 has a first byte of 128 and more, the least and the greatest int");
    int[] odd = {-1, Integer.MIN_VALUE, Integer.MAX_VALUE, 0x80202020, 0x7f202020, 0};
    for (int number : odd) {
      OnePlays x = new OnePlays();
      Due.is("feed", x.feed(BLANKS, number, number, number, number), 20);
      Due.is(x, "piece(20)", x.piece(20), -1, 4);
      Due.is("where() of " + number, x.where(), 4);
    }
    // The other bytes of a number below 0 are its own: blanks behind the first.
    OnePlays y = new OnePlays();
    y.feed(0x20202020, 0x202020ff, BLANKS, BLANKS, BLANKS);
    y.piece(20);
    Due.is("where() of a lowest byte 255", y.where(), 7);
  }

  private static void firstBytes() {
    Due.says("piece: of 0: FAULT 1");
    OnePlays x = new OnePlays();
    Due.is(x, "piece(0) of an empty tape", x.piece(0), -1, 4);
    Due.is("fault()", x.fault(), 1);
    Due.is("where()", x.where(), 0);
    OnePlays y = withBlanks(3);
    Due.is(y, "piece(0)", y.piece(0), -1, 4);
    Due.is("where()", y.where(), 0);
    Due.is("size(9)", y.size(9), 0);
    Due.says("piece: The first n bytes: a TOKEN may be cut in two");
    String text = LEAST + "on p s 0 to 99 left left";
    OnePlays z = new OnePlays();
    Texts.feed(z, text);
    Due.is(z, "piece(n)", z.piece(text.length()), -1, 4);
    Due.is("fault()", z.fault(), 4);
    text = Due.part("p", "plain", 1, 1, 1) + Due.scene("s", 9) + "piece walk 0 gap 0 players 12";
    Texts.feed(z, text);
    Due.is(z, "piece(n less 1)", z.piece(text.length() - 1), 0, 0);
    Due.is("size(5)", z.size(5), 1);
    Due.says("piece: THE TAPE is empty then, the bytes behind the n-th too");
    Due.is("size(9)", z.size(9), 0);
    Due.is(z, "piece(1)", z.piece(1), -1, 2);
    Due.says("piece: 2 (THE TAPE stays): n one too small, one too large");
    OnePlays w = withBlanks(2);
    int[] wrong = {-1, 41, 60, 900, 901, Integer.MIN_VALUE, Integer.MAX_VALUE, 40 - 256 * 256};
    for (int n : wrong) {
      Due.is(w, "piece(" + n + ")", w.piece(n), -1, 2);
      Due.is("size(9)", w.size(9), 40);
      Due.is("where()", w.where(), -1);
      Due.is("fault() of none", w.fault(), 0);
    }
    Due.is(w, "piece(40)", w.piece(40), -1, 4);
    Due.is("where()", w.where(), 40);
  }

  // ------------------------------------------------------------- TOKENS

  private static void blanks() {
    Due.says("blanks, 32, part TOKENS and mean nothing else");
    OnePlays x = goes("   " + LEAST.replace(" ", "    ") + "  on  p  s   0  to  9  left  left   ");
    Due.is("size(2)", x.size(2), 1);
    goes("piece walk1gap1players1;part p plain coat1don1doff1;scene s lasts9;on p s0to9left left");
    Due.faultAt(LEAST + "on p s 0 to 9 |leftleft", 1);
    Due.faultAt("|pie ce walk 1", 1);
    Due.faultAt("piece walk 1 |0 gap 1", 1);
    Due.says("a text of blanks alone has no LINE");
    Due.faultAt("    ", 1, 4);
  }

  /** Each byte behind the letters of a name, and behind the digits of a whole. */
  private static void words() {
    Due.says("WORDS of small letters that stand together: which bytes are letters");
    for (int b = 0; b < 256; b++) {
      String text = "part q" + (char) b + " plain coat 1 don 1 doff 1;" + LEAST;
      if (b >= 'a' && b <= 'z' || b == ' ') {
        goes(text);
      } else {
        Due.faultAt(text, 1, 6);
      }
    }
    Due.says("WHOLES of digits that stand together: which bytes are digits");
    for (int b = 0; b < 256; b++) {
      String text = "part q plain coat 1 don 1" + (char) b + " doff 1;" + LEAST;
      if (b >= '0' && b <= '9') {
        Due.is("don " + (char) b, goes(text).part(0, 2), 10 + b - '0');
      } else if (b == ' ') {
        goes(text);
      } else {
        Due.faultAt(text, 1, 25);
      }
    }
    Due.says("WORDS of 1 to 8 letters");
    goes(LEAST + "part a dead coat 0 don 0 doff 0;part abcdefgh dead coat 0 don 0 doff 0");
    Due.faultAt(LEAST + "part |abcdefghi dead coat 0 don 0 doff 0", 1);
    Due.faultAt(LEAST + "scene |zzzzzzzzz lasts 1", 1);
    Due.faultAt("|" + Due.times(900, "p"), 1);
    goes(LEAST + "scene abcdefg lasts 1;scene abcdefgh lasts 2;after abcdefg abcdefgh");
    Due.says("of more letters that stand together: the first of them (and no shorter WORD in them)");
    String eight = LEAST + "part abcdefgh dead coat 0 don 0 doff 0;scene stuvwxyz lasts 9;";
    Due.faultAt(eight + "on |xabcdefgh stuvwxyz 0 to 1 left left", 1);
    Due.faultAt(eight + "on abcdefgh |xstuvwxyz 0 to 1 left left", 1);
    Due.faultAt(eight + "saw |abcdefghabcdefgh 1 left", 1);
    Due.faultAt(eight + "after s |abcdefghstuvwxyz", 1);
    Due.faultAt(eight + "part |abcdefghabcdefgh dead coat 0 don 0 doff 0", 1);
    Due.faultAt(LEAST + "|ppppppppart q", 1);
    Due.faultAt("|aaapiece walk 1", 1);
    Due.faultAt("|pieces walk 1", 1);
    Due.faultAt("|piec walk 1", 1);
    Due.faultAt("|iece walk 1", 1);
  }

  private static void wholes() {
    Due.says("WHOLES of 1 to 3 digits");
    Due.is("don 0", goes("part q plain coat 1 don 0 doff 1;" + LEAST).part(0, 2), 0);
    Due.is("don 00", goes("part q plain coat 1 don 00 doff 1;" + LEAST).part(0, 2), 0);
    Due.is("don 007", goes("part q plain coat 1 don 007 doff 1;" + LEAST).part(0, 2), 7);
    Due.is("don 099", goes("part q plain coat 1 don 099 doff 1;" + LEAST).part(0, 2), 99);
    Due.faultAt("part q plain coat 1 don |0000 doff 1", 1);
    Due.faultAt("part q plain coat 1 don |0007 doff 1", 1);
    Due.faultAt("part q plain coat 1 don |999 doff 1", 4);
    Due.faultAt("part q plain coat 1 don |1000 doff 1", 1);
    Due.says("of more digits that stand together: the first of them (a wrap-around of an int too)");
    Due.faultAt("part q plain coat 1 don |4294967296 doff 1", 1);
    Due.faultAt("part q plain coat 1 don |4294967297 doff 1", 1);
    Due.faultAt("part q plain coat 1 don |18446744073709551617 doff 1", 1);
    Due.faultAt("part q plain coat 1 don |" + Due.times(300, "0") + "1 doff 1", 1);
    Due.faultAt(LEAST + "saw p |2147483648 left", 1);
    Due.faultAt("|1 piece", 1);
    Due.says("there is no WHOLE below 0");
    Due.faultAt("piece walk |-1 gap 0 players 1", 1);
  }

  private static void signs() {
    Due.says("single ones of ; ,: no LINE has a ,");
    Due.faultAt("|,", 1);
    Due.faultAt("piece walk 1|, gap 1", 1);
    Due.faultAt(LEAST + "on p s 0 to 9 left left|,", 1);
    Due.faultAt(LEAST + "|,", 1);
    Due.says("LINE {; LINE}: no LINE is empty");
    Due.faultAt("|;" + LEAST, 1);
    Due.faultAt("|;", 1);
    Due.faultAt(LEAST + "|;", 1);
    Due.faultAt(LEAST + "  |", 1);
    Due.faultAt(LEAST + "|", 1);
    Due.faultAt(LEAST + " |;scene t lasts 1", 1);
    Due.faultAt(LEAST + "scene t lasts 1 |scene u lasts 1", 1);
  }

  /** Each LINE, ended behind each of its TOKENS, and with one more. */
  private static void lines() {
    Due.says("FORM: TOKEN with which no PIECE goes on (the end: its place)");
    String[] lines = {"piece walk 1 gap 1 players 1", "part q plain coat 1 don 1 doff 1",
        "part q beard 1 coat 1 don 1 doff 1", "part q puppet coat 1 don 1 doff 1",
        "part q dead coat 1 don 1 doff 1", "scene t lasts 9", "after s u",
        "on p s 1 to 2 left right", "on p s 1 to 2 right left behind", "saw p 1 left"};
    for (String line : lines) {
      String ahead = line.startsWith("piece") ? "" : LEAST + "scene u lasts 1;";
      String[] tokens = line.split(" ");
      String text = ahead;
      for (int i = 0; i < tokens.length; i++) {
        boolean mayEnd = i == tokens.length - 1 || i == 7 && line.endsWith("behind");
        text += tokens[i];
        if (!mayEnd) {
          Due.faultAt(text, 1, text.length());
          Due.faultAt(text + "   ", 1, text.length() + 3);
          Due.faultAt(text + "|;", 1);
          Due.faultAt(text + " |,", 1);
        }
        text += " ";
        boolean isWhole = tokens[i].charAt(0) <= '9';
        boolean isName = i > 0 && tokens[i].length() == 1 && !isWhole;
        String head = text.substring(0, text.length() - 1 - tokens[i].length());
        if (i > 0 && !isWhole) {
          Due.faultAt(head + "|1", 1);
        }
        if (isWhole) {
          Due.faultAt(head + "|p", 1);
        } else if (!isName && !(line.endsWith("behind") && i == 8)) {
          Due.faultAt(head + "|zebra", 1);
        }
      }
      Due.faultAt(text + "|zebra", 1);
      Due.faultAt(text + "|1", 1);
      if (!line.startsWith("piece")) {
        goes(whole(ahead + line));
      }
    }
  }

  private static String whole(String text) {
    return Due.whole(text);
  }

  // ------------------------------------------------------------- LINES

  /** A WHOLE at #: the least and the most it may be, one less, one more, and of more digits. */
  private static void bounds(String text, int least, int most) {
    goes(text.replace("#", "" + least));
    goes(text.replace("#", "" + most));
    goes(text.replace("#", most < 10 ? "00" + most : most < 100 ? "0" + most : "" + most));
    if (least > 0) {
      Due.faultAt(text.replace("#", "" + (least - 1)), 4, text.indexOf('#'));
    }
    Due.faultAt(text.replace("#", "" + (most + 1)), most < 999 ? 4 : 1, text.indexOf('#'));
    Due.faultAt(text.replace("#", most < 999 ? "999" : "9999"), most < 999 ? 4 : 1,
        text.indexOf('#'));
    Due.faultAt(text.replace("#", "0000"), 1, text.indexOf('#'));
    Due.faultAt(text.replace("#", "" + (4294967296L + most)), 1, text.indexOf('#'));
  }

  private static void wholesOfLines() {
    String rest = "part p plain coat 1 don 1 doff 1;scene s lasts 9";
    Due.says("piece walk WHOLE: 0 .. 99");
    bounds("piece walk # gap 1 players 1;" + rest, 0, 99);
    Due.says("piece gap WHOLE: 0 .. 99");
    bounds("piece walk 1 gap # players 1;" + rest, 0, 99);
    Due.says("piece players WHOLE: 1 .. 3");
    bounds("piece walk 1 gap 1 players #;" + rest, 1, 3);
    Due.says("part beard WHOLE: 0 .. 99");
    bounds(LEAST + "part q beard # coat 1 don 1 doff 1", 0, 99);
    Due.says("part coat WHOLE: 0 .. 9");
    bounds(LEAST + "part q plain coat # don 1 doff 1", 0, 9);
    bounds(LEAST + "part q beard 1 coat # don 1 doff 1", 0, 9);
    Due.says("part don WHOLE: 0 .. 99");
    bounds(LEAST + "part q puppet coat 1 don # doff 1", 0, 99);
    Due.says("part doff WHOLE: 0 .. 99");
    bounds(LEAST + "part q dead coat 1 don 1 doff #", 0, 99);
    Due.says("scene lasts WHOLE: 1 .. 500");
    bounds(LEAST + "scene t lasts #", 1, 500);
    Due.says("on WHOLE to: 0 up to what the scene lasts less 1");
    bounds(LEAST + "on p s # to 9 left left", 0, 8);
    bounds(LEAST + "scene t lasts 1;on p t # to 1 left left", 0, 0);
    bounds(LEAST + "scene t lasts 500;on p t # to 500 left left", 0, 499);
    Due.says("on to WHOLE: above that up to what it lasts");
    bounds(LEAST + "on p s 0 to # left left", 1, 9);
    bounds(LEAST + "on p s 8 to # left left", 9, 9);
    bounds(LEAST + "on p s 4 to # left left behind", 5, 9);
    bounds(LEAST + "scene t lasts 500;on p t 100 to # left left", 101, 500);
    Due.says("saw WHOLE: 0 .. 999");
    bounds(LEAST + "saw p # right", 0, 999);
    Due.says("KIND: plain, beard WHOLE, puppet, or dead: only a beard has a WHOLE");
    Due.faultAt(LEAST + "part q plain |0 coat 1 don 1 doff 1", 1);
    Due.faultAt(LEAST + "part q puppet |0 coat 1 don 1 doff 1", 1);
    Due.faultAt(LEAST + "part q dead |0 coat 1 don 1 doff 1", 1);
    Due.faultAt(LEAST + "part q beard |coat 1 don 1 doff 1", 1);
    Due.says("what the WHOLES tell, at their least and their most");
    OnePlays x = goes("part a beard 0 coat 0 don 0 doff 0;part b beard 99 coat 9 don 99 doff 99;"
        + "scene s lasts 1;scene t lasts 500;piece walk 99 gap 99 players 3;"
        + "on a s 0 to 1 left right;on b t 499 to 500 right left;on b t 0 to 500 left left behind");
    int[][] parts = {{1, 0, 0, 0, 0}, {1, 9, 99, 99, 99}};
    for (int p = 0; p < 2; p++) {
      for (int what = 0; what < 5; what++) {
        Due.is("part(" + p + ", " + what + ")", x.part(p, what), parts[p][what]);
      }
    }
    Due.is("size(5)", x.size(5), 3);
    Due.is("begins(0, true)", x.begins(0, true), 1);
    Due.is("begins(1, true)", x.begins(1, true), 1 + 99 + 500);
    Due.is("seen(1, false)", x.seen(1, false), 1 + 99 + 499);
    Due.is("need(0, 1)", x.need(0, 1), 99 + 99);
    Due.is("need(1, 0)", x.need(1, 0), 99);
  }

  // ------------------------------------------------------------- NAMES

  private static void names() {
    Due.says("NAMES are WORDS but piece, part, scene, after, on, saw, behind");
    String[] never = {"piece", "part", "scene", "after", "on", "saw", "behind"};
    for (String word : never) {
      Due.faultAt(LEAST + "part |" + word + " plain coat 1 don 1 doff 1", 1);
      Due.faultAt(LEAST + "scene |" + word + " lasts 1", 1);
      Due.faultAt(LEAST + "after |" + word + " s", 1);
      Due.faultAt(LEAST + "after s |" + word, 1);
      Due.faultAt(LEAST + "on |" + word + " s 0 to 1 left left", 1);
      Due.faultAt(LEAST + "on p |" + word + " 0 to 1 left left", 1);
      Due.faultAt(LEAST + "saw |" + word + " 0 left", 1);
      goes(LEAST + "scene " + word.substring(1) + word.charAt(0) + " lasts 1");
      goes(LEAST + "scene " + word.substring(0, word.length() - 1) + " lasts 1");
      if (word.length() < 8) {
        goes(LEAST + "scene x" + word + " lasts 1;scene " + word + "x lasts 1");
      }
    }
    String[] other = {"walk", "gap", "players", "plain", "beard", "puppet", "dead", "coat", "don",
        "doff", "lasts", "to", "left", "right"};
    for (String word : other) {
      goes(LEAST + "part " + word + " plain coat 1 don 1 doff 1;saw " + word + " 1 left;on " + word
          + " s 0 to 1 left left");
      goes(LEAST + "scene " + word + " lasts 1;after s " + word + ";on p " + word
          + " 0 to 1 left left");
    }
  }

  private static void namesTold() {
    Due.says("NAMES: each told ahead of its use");
    Due.faultAt("on |p s 0 to 1 left left;" + LEAST, 2);
    Due.faultAt("part p plain coat 1 don 1 doff 1;on p |s 0 to 1 left left;" + LEAST, 2);
    Due.faultAt("saw |p 1 left;" + LEAST, 2);
    Due.faultAt("scene s lasts 9;after s |t;scene t lasts 9", 2);
    Due.faultAt("scene t lasts 9;after |s t;scene s lasts 9", 2);
    goes("scene s lasts 9;part p plain coat 1 don 1 doff 1;saw p 1 left;on p s 0 to 1 left left;"
        + "piece walk 1 gap 1 players 1");
    Due.says("FAULT 2: a NAME that isn't told, or is of another sort than must stand there");
    Due.faultAt(LEAST + "on |q s 0 to 1 left left", 2);
    Due.faultAt(LEAST + "on |s s 0 to 1 left left", 2);
    Due.faultAt(LEAST + "on p |q 0 to 1 left left", 2);
    Due.faultAt(LEAST + "on p |p 0 to 1 left left", 2);
    Due.faultAt(LEAST + "saw |q 0 left", 2);
    Due.faultAt(LEAST + "saw |s 0 left", 2);
    Due.faultAt(LEAST + "after |q s", 2);
    Due.faultAt(LEAST + "after |p s", 2);
    Due.faultAt(LEAST + "after s |q", 2);
    Due.faultAt(LEAST + "after s |p", 2);
    Due.faultAt(LEAST + "on |pp s 0 to 1 left left", 2);
    // A LINE with a FAULT tells nothing, also not of a piece that was read before.
    OnePlays x = goes(LEAST + "part q plain coat 1 don 1 doff 1");
    String text = Due.head(1, 1, 1) + "saw |q 1 left";
    Texts.feed(x, text.replace("|", ""));
    Due.is(x, "piece()", x.piece(text.length() - 1), -1, 4);
    Due.is("fault()", x.fault(), 2);
    Due.is("where()", x.where(), text.indexOf('|'));
    Due.says("FAULT 3: a NAME told again");
    Due.faultAt(LEAST + "part |p plain coat 1 don 1 doff 1", 3);
    Due.faultAt(LEAST + "part |s plain coat 1 don 1 doff 1", 3);
    Due.faultAt(LEAST + "scene |s lasts 1", 3);
    Due.faultAt(LEAST + "scene |p lasts 1", 3);
    Due.says("FAULT 3: the second SCENE of after that is the first");
    Due.faultAt(LEAST + "after s |s", 3);
    Due.faultAt(LEAST + "scene t lasts 1;after t |t;after s t", 3);
    Due.says("FAULT 3: a second piece; at that WORD");
    Due.faultAt(LEAST + "|piece walk 1 gap 1 players 1", 3);
    Due.faultAt("piece walk 1 gap 1 players 1;|piece", 3);
    Due.faultAt("piece walk 1 gap 1 players 1;|piece piece", 3);
    // A new text may tell them all again.
    OnePlays y = goes(LEAST);
    Texts.feed(y, whole(LEAST));
    Due.is(y, "the same text again", y.piece(whole(LEAST).length()), 0, 0);
  }

  private static void leftmost() {
    Due.says("FAULTS, the first that is met from the left");
    Due.faultAt("piece walk |100 gap 100 players 9;part piece", 4);
    Due.faultAt("piece walk 1 |walk 100", 1);
    Due.faultAt(LEAST + "on |q q 99 to 0 up", 2);
    Due.faultAt(LEAST + "on p |q 99 to 0 up", 2);
    Due.faultAt(LEAST + "on p s |99 to 0 up", 4);
    Due.faultAt(LEAST + "on p s 5 to |0 up", 4);
    Due.faultAt(LEAST + "on p s 5 to 6 |up ?", 1);
    Due.faultAt(LEAST + "part |p odd ?", 3);
    Due.faultAt("part p plain coat |10 don 1000 ?", 4);
    Due.faultAt("|? piece", 1);
    Due.faultAt("scene s lasts |0;scene s lasts 1", 4);
    Due.says("of one place the least number");
    // At the end: FORM, as a LINE must come, and LACKS.
    Due.faultAt("piece walk 1 gap 1 players 1;|", 1);
    Due.faultAt("piece walk 1 gap 1 players|", 1);
    // At the second SCENE: untold ahead of the same, the same ahead of no ORDER.
    Due.faultAt("scene s lasts 1;after s |s", 3);
    // At the NAME: no NAME at all ahead of one that isn't told.
    Due.faultAt("on |on", 1);
  }

  // ------------------------------------------------------------- MANY, LACKS, no ORDER

  private static String numbered(int n, String ahead, String behind) {
    StringBuilder all = new StringBuilder();
    for (int i = 0; i < n; i++) {
      all.append(ahead).append((char) ('a' + i)).append(behind).append(';');
    }
    return all.toString();
  }

  /** So many LINES do, and one more doesn't, whatever stands behind its first WORD. */
  private static void most(String text, String more, int size, int n) {
    OnePlays x = goes(whole(text));
    Due.is("size(" + size + ")", x.size(size), n);
    Due.faultAt(text + "|" + more, 5);
    Due.faultAt(text + "|" + more.substring(0, more.indexOf(' ')), 5);
    Due.faultAt(text + "|" + more.substring(0, more.indexOf(' ')) + " 1000 ?", 5);
    Due.faultAt(text + "|" + more.substring(0, more.indexOf(' ')) + ";", 5);
  }

  private static void many() {
    String head = Due.head(1, 1, 1);
    Due.says("part: up to 7; FAULT 5 at its first WORD");
    String parts = numbered(7, "part p", " dead coat 0 don 0 doff 0");
    most(head + "scene s lasts 1;" + parts, "part q dead coat 0 don 0 doff 0", 0, 7);
    Due.says("scene: up to 5");
    String scenes = numbered(5, "scene s", " lasts 1");
    most(head + "part p dead coat 0 don 0 doff 0;" + scenes, "scene t lasts 1", 1, 5);
    Due.says("after: up to 6");
    String afters = Due.times(6, "after sa sb;");
    most(head + "part p dead coat 0 don 0 doff 0;" + scenes + afters, "after sa sb", 3, 6);
    Due.says("on: up to 14");
    most(LEAST + Due.times(14, "on p s 0 to 1 left left;"), "on p s 0 to 1 left left", 2, 14);
    Due.says("saw: up to 7");
    most(LEAST + Due.times(7, "saw p 1 left;"), "saw p 1 left", 4, 7);
    Due.says("MANY counts the LINES of one sort alone");
    goes(head + parts + scenes + afters + Due.times(7, "saw pa 1 left;"));
    Due.says("there may be no after, no on, no saw");
    OnePlays x = goes(whole(LEAST));
    for (int size = 2; size <= 4; size++) {
      Due.is("size(" + size + ")", x.size(size), 0);
    }
  }

  private static void lacks() {
    String part = "part p dead coat 0 don 0 doff 0";
    String scene = "scene s lasts 1";
    String head = "piece walk 1 gap 1 players 1";
    Due.says("FAULT 6 LACKS, at the end: no piece");
    Due.faultAt(part + ";" + scene + "|", 6);
    Due.says("LACKS: no part");
    Due.faultAt(head + ";" + scene + "|", 6);
    Due.says("LACKS: no scene");
    Due.faultAt(head + ";" + part + "|", 6);
    Due.says("LACKS: more than one of them");
    Due.faultAt(head + "|", 6);
    Due.faultAt(part + "|", 6);
    Due.faultAt(scene + "|", 6);
    Due.says("the end: its place, behind blanks too");
    Due.faultAt(head + "     |", 6);
    Due.says("one of each is enough");
    goes(scene + ";" + part + ";" + head);
    // What an earlier PIECE told doesn't count.
    OnePlays x = goes(whole(LEAST));
    Texts.feed(x, head);
    Due.is(x, "piece()", x.piece(head.length()), -1, 4);
    Due.is("fault()", x.fault(), 6);
  }

  private static void noOrder() {
    String two = LEAST + "scene t lasts 1;";
    String five = LEAST + "scene t lasts 1;scene u lasts 1;scene v lasts 1;scene w lasts 1;";
    Due.says("FAULT 7: an after with which there is no ORDER; at its second SCENE");
    Due.faultAt(two + "after s t;after t |s", 7);
    Due.faultAt(two + "after t s;after s |t", 7);
    Due.faultAt(two + "after s t;after s t;after t |s;after", 7);
    Due.faultAt(five + "after s t;after t u;after u v;after v w;after w |s", 7);
    Due.faultAt(five + "after w v;after v u;after u t;after t s;after s |w", 7);
    Due.faultAt(five + "after u v;after v w;after w |u", 7);
    Due.says("an after told again is no FAULT, and a row of all scenes neither");
    goes(two + "after s t;after s t");
    OnePlays x = goes(five + "after s t;after t u;after u v;after v w;after s w");
    Due.is("orders()", x.orders(), 1);
    OnePlays y = goes(five + "after w v;after v u;after u t;after t s;after w s;after w t");
    Due.is("orders()", y.orders(), 1);
    Due.is("scene(0)", y.scene(0), 4);
    Due.is("scene(4)", y.scene(4), 0);
  }

  /** All that a text may tell at most, in one. */
  private static void fullText() {
    Due.says("what a text may tell at most: 7 parts, 5 scenes, 6 afters, 14 on, 7 saw");
    String text = "piece walk99gap99players3;" + numbered(7, "part ", " beard99coat9don99doff99")
        + numbered(5, "scene s", " lasts500") + "after sa sb;after sa sc;after sa sd;after sa se;"
        + "after sb sc;after sd se;";
    for (int k = 0; k < 14; k++) {
      text += "on " + (char) ('a' + k % 7) + " s" + (char) ('a' + k % 5) + " 0to500left left;";
    }
    text = text + numbered(7, "saw ", " 999left");
    OnePlays x = goes(whole(text));
    int[] sizes = {7, 5, 14, 6, 7, 3, 0, 0, 0, 0};
    for (int what = 0; what <= 9; what++) {
      Due.is("size(" + what + ")", x.size(what), sizes[what]);
    }
    Due.is("begins(4, true)", x.begins(4, true), 5 * 500 + 4 * 99);
    Due.is("change(0, 6)", x.change(0, 6), 3 * 99);
    Due.is("need(0, 13)", x.need(0, 13), 3 * 99);
    Due.is("orders()", x.orders(), 6);
    Due.is("on(13, 0)", x.on(13, 0), 6);
    Due.is("on(13, 1)", x.on(13, 1), 3);
    Due.is("must()", x.must(), 7);
  }

  // ------------------------------------------------------------- piece, fault, where

  private static void numbersOfPiece() {
    Due.says("piece: how many APPEARANCES");
    Due.is("none", told(whole(LEAST)), 0);
    Due.is("one", told(LEAST + "on p s 0 to 1 left left"), 1);
    Due.is("14", told(whole(LEAST + Due.times(14, "on p s 0 to 1 left left;"))), 14);
    Due.says("piece: 4 (the PIECE stays), THE EVENING, its ACTS and IMAGES too");
    OnePlays x = goes(LEAST + "part q plain coat 1 don 1 doff 1;scene t lasts 1;"
        + "on p s 0 to 1 left left");
    x.cast(1, 6);
    x.swap(0, 1);
    x.cut(0, true);
    x.image();
    x.undo();
    String before = Due.state(x);
    Texts.feed(x, LEAST);
    Due.is(x, "piece()", x.piece(LEAST.length()), -1, 4);
    Due.is("fault()", x.fault(), 1);
    String behind = Due.state(x);
    Due.is("the state", behind.substring(0, behind.length() - 1)
        .equals(before.substring(0, before.length() - 1)), true);
    Due.is("redo()", x.redo(), true);
    Due.is("on(0, 5)", x.on(0, 5), 1);
    Due.is("must() is of it still", x.must(), 0);
    Due.is("fewest()", x.fewest(), 1);
    Due.says("piece: the PIECE from now on (THE EVENING as at first, no IMAGES)");
    Texts.feed(x, whole(LEAST) + ";on p s 0 to 5 left left;on p s 4 to 9 left left");
    Due.is(x, "piece()", x.piece(whole(LEAST).length() + 48), 2, 0);
    int[] sizes = {1, 1, 2, 0, 0, 1, 0, 0, 0, 0};
    for (int what = 0; what <= 9; what++) {
      Due.is("size(" + what + ")", x.size(what), sizes[what]);
    }
    Due.is("on(0, 5)", x.on(0, 5), 0);
    Due.is("part(0, 5)", x.part(0, 5), 0);
    Due.is(x, "undo()", x.undo(), false, 6);
    Due.is(x, "redo()", x.redo(), false, 6);
    Due.is(x, "back(0)", x.back(0), false, 1);
    Due.is("scene(0)", x.scene(0), 0);
    Due.is(x, "scene(1)", x.scene(1), -1, 1);
    Due.is("fewest()", x.fewest(), -2);
    Due.is(x, "image()", x.image(), 0, 0);
  }

  /** All that a text can tell, and then a FAULT or none. */
  private static final String MUCH = Due.head(9, 9, 3) + Due.part("a", "puppet", 1, 1, 1)
      + Due.part("b", "dead", 1, 1, 1) + Due.scene("s", 50) + Due.scene("t", 9) + Due.scene("u", 9)
      + "after u t;after t s;" + Due.on("a", "s", 1, 9) + Due.on("b", "t", 1, 9)
      + Due.on("b", "s", 40, 50, "left left behind")
      + Due.on("b", "s", 41, 50, "left left behind")
      + Due.saw("b", 90) + Due.saw("a", 99) + Due.saw("b", 5);

  /** The same object reads one text behind the other. */
  private static void nextText() {
    Due.says("the PIECE from now on: nothing of an earlier one, nor of a text with a FAULT, is left");
    String little = Due.head(0, 0, 1) + Due.part("a", "plain", 0, 0, 0)
        + Due.part("b", "plain", 0, 7, 7) + Due.scene("s", 50) + Due.scene("t", 9)
        + Due.on("a", "s", 0, 10, "left left behind") + Due.on("b", "s", 10, 20, "left left behind")
        + Due.on("a", "s", 20, 30) + Due.on("b", "s", 44, 50) + Due.saw("a", 10) + Due.saw("b", 16) + Due.saw("b", 30);
    OnePlays x = new OnePlays();
    for (int round = 0; round < 4; round++) {
      Texts.feed(x, MUCH);
      Due.is(x, "piece() with a FAULT", x.piece(MUCH.length()), -1, 4);
      if (round == 3) {
        Texts.feed(x, whole(MUCH));
        Due.is(x, "piece()", x.piece(whole(MUCH).length()), 4, 0);
        much(x);
      }
      Texts.feed(x, whole(little));
      Due.is(x, "piece()", x.piece(whole(little).length()), 4, 0);
      little(x);
      Texts.feed(x, whole(LEAST));
      Due.is(x, "piece()", x.piece(whole(LEAST).length()), 0, 0);
      int[] sizes = {1, 1, 0, 0, 0, 1, 0, 0, 0, 0};
      for (int what = 0; what <= 9; what++) {
        Due.is("size(" + what + ")", x.size(what), sizes[what]);
      }
      Due.is("orders()", x.orders(), 1);
      Due.is("must()", x.must(), 0);
      Due.is("troubled()", x.troubled(), -2);
    }
  }

  private static void much(OnePlays x) {
    int[] sizes = {2, 3, 4, 2, 3, 3};
    for (int what = 0; what <= 5; what++) {
      Due.is("size(" + what + ")", x.size(what), sizes[what]);
    }
    Due.is("orders()", x.orders(), 1);
    Due.is("scene(0)", x.scene(0), 2);
    Due.is("can(0)", x.can(0), 0);
    Due.is("fewestOfAll()", x.fewestOfAll(), -2);
    Due.is("sceneOfAll(0)", x.sceneOfAll(0), -2);
    Due.is("bodily(1)", x.bodily(1), 1);
    Due.is("must()", x.must(), 1);
    Due.is("same(0, 1)", x.same(0, 1), 1);
    Due.is("betrayed()", x.betrayed(), -2);
  }

  private static void little(OnePlays x) {
    int[] sizes = {2, 2, 4, 0, 3, 1, 0, 0, 0, 0};
    for (int what = 0; what <= 9; what++) {
      Due.is("size(" + what + ")", x.size(what), sizes[what]);
    }
    Due.is("orders()", x.orders(), 2);
    Due.is("scene(0)", x.scene(0), 0);
    int[] bodily = {0, 0, 1, 1};
    for (int k = 0; k < 4; k++) {
      Due.is("bodily(" + k + ")", x.bodily(k), bodily[k]);
    }
    Due.is("can(0)", x.can(0), 1);
    Due.is("slack(0)", x.slack(0), 14 - 7);
    Due.is("could(2)", x.could(2), 1);
    Due.is("fewest()", x.fewest(), 1);
    Due.is("fewestOfAll()", x.fewestOfAll(), 1);
    Due.is("sceneOfAll(0)", x.sceneOfAll(0), 0);
    Due.is("must()", x.must(), 2);
    Due.is("same(0, 1)", x.same(0, 1), 0);
    Due.is("same(0, 2)", x.same(0, 2), 1);
    Due.is("betrayed()", x.betrayed(), 1);
    Due.is("sweat(0, 4)", x.sweat(0, 4), 20);
    Due.is("sweat(0, 5)", x.sweat(0, 5), 0);
    // What is done here must be gone with the next text.
    Due.is("part(1, 5)", x.part(1, 5), 0);
    Due.is("on(3, 5)", x.on(3, 5), 0);
    Due.is("cast(1, 1)", x.cast(1, 1), true);
    int[] led = {1, 3, -99};
    for (int i = 0; i < 3; i++) {
      Due.is("led(1, " + i + ")", Due.led(x, 1, i), led[i]);
    }
    Due.is("cut(3, true)", x.cut(3, true), true);
    Due.is("swap(0, 1)", x.swap(0, 1), true);
    Due.is("image()", x.image(), 0);
    Due.is("undo()", x.undo(), true);
  }

  private static int told(String text) {
    OnePlays x = new OnePlays();
    Texts.feed(x, text);
    return x.piece(text.length());
  }

  private static void faultAndWhere() {
    Due.says("fault: of the latest piece() not refused by 2; 0 without one");
    OnePlays x = new OnePlays();
    Due.is("without one", x.fault(), 0);
    Due.is(x, "piece(1)", x.piece(1), -1, 2);
    Due.is("still without one", x.fault(), 0);
    x.piece(0);
    Due.is("of piece(0)", x.fault(), 1);
    Due.is(x, "piece(-1)", x.piece(-1), -1, 2);
    Due.is("one refused by 2 doesn't count", x.fault(), 1);
    Texts.feed(x, whole(LEAST));
    Due.is("piece()", x.piece(whole(LEAST).length()), 0);
    Due.is("of one without a FAULT", x.fault(), 0);
    Due.is(x, "piece(1)", x.piece(1), -1, 2);
    Due.is("one refused by 2 doesn't count", x.fault(), 0);
    Due.says("where: Its place, if the latest call that may be refused was by 4; NONE else");
    Due.is("behind one refused by 2", x.where(), -1);
    x.piece(0);
    Due.is("behind one refused by 4", x.where(), 0);
    x.piece(1);
    Due.is("behind one refused by 2 then", x.where(), -1);
    x.piece(0);
    x.orders();
    Due.is("behind one that wasn't", x.where(), -1);
    x.piece(0);
    x.undo();
    Due.is("behind one refused by 6", x.where(), -1);
    x.piece(0);
    x.feed(0, 0, 0, 0, 0);
    x.size(77);
    Due.led(x, 0, 0);
    x.fault();
    x.trouble();
    Due.is("behind those that tell no number", x.where(), 0);
    Due.is("asked again", x.where(), 0);
  }
}

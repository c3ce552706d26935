import java.util.ArrayList;
import java.util.List;
import java.util.function.ToIntFunction;

/**
 * Terms IV and promise 46: each call with each number by which it may be refused, what TROUBLE
 * says behind it, and that nothing else becomes another by it; then what else TROUBLE is of.
 */
public final class RefusalTest {
  private static final int LEAST = Integer.MIN_VALUE;
  private static final int MOST = Integer.MAX_VALUE;
  /** None of the counts of PLAY: too small, too large, and such as wrap around by a shift or a sum. */
  private static final int[] NO_SUCH = {-1, -2, 14, 32, 33, 64, 255, 256, 65536, 1 << 30, -32, -128,
      LEAST, LEAST + 1, MOST - 1, MOST};
  /** Three parts, two scenes in their row, four appearances, three seen. */
  private static final String PLAY = Due.head(2, 1, 2) + Due.part("a", "plain", 1, 2, 3)
      + Due.part("b", "beard 4", 2, 5, 6) + Due.part("c", "puppet", 0, 0, 0) + Due.scene("s", 10)
      + Due.scene("t", 20) + Due.after("s", "t") + Due.on("a", "s", 0, 5) + Due.on("b", "t", 0, 9)
      + Due.on("c", "t", 1, 8) + Due.on("a", "t", 19, 20) + Due.saw("a", 1) + Due.saw("b", 9)
      + Due.saw("c", 99);

  /** A call, and what it answers; a boolean counts 1 or 0. */
  private static final class Call {
    final String name;
    final ToIntFunction<OnePlays> does;

    Call(String name, ToIntFunction<OnePlays> does) {
      this.name = name;
      this.does = does;
    }
  }

  public static void main(String[] args) {
    withoutPiece();
    indices();
    whats();
    numbers();
    room();
    faults();
    notSo();
    nothingThere();
    wasNot();
    tellNoNumber();
    many();
    Due.end("refusals");
  }

  private static int bool(boolean is) {
    return is ? 1 : 0;
  }

  // ------------------------------------------------------------- the calls, by what they take

  /** The calls that take a number of those there are: refused by 1 if there is none such. */
  private static List<Call> withIndex(int n) {
    List<Call> all = new ArrayList<>();
    all.add(new Call("scene", x -> x.scene(n)));
    all.add(new Call("begins false", x -> x.begins(n, false)));
    all.add(new Call("begins true", x -> x.begins(n, true)));
    all.add(new Call("seen false", x -> x.seen(n, false)));
    all.add(new Call("seen true", x -> x.seen(n, true)));
    all.add(new Call("change first", x -> x.change(n, 0)));
    all.add(new Call("change other", x -> x.change(0, n)));
    all.add(new Call("need first", x -> x.need(n, 0)));
    all.add(new Call("need other", x -> x.need(0, n)));
    all.add(new Call("meet first", x -> x.meet(n, 0)));
    all.add(new Call("meet other", x -> x.meet(0, n)));
    all.add(new Call("bodily", x -> x.bodily(n)));
    all.add(new Call("can", x -> x.can(n)));
    all.add(new Call("sweat player", x -> x.sweat(n, 0)));
    all.add(new Call("player", x -> x.player(n)));
    all.add(new Call("sceneOfAll", x -> x.sceneOfAll(n)));
    all.add(new Call("ready", x -> x.ready(n)));
    all.add(new Call("lent", x -> x.lent(n)));
    all.add(new Call("same first", x -> x.same(n, 0)));
    all.add(new Call("same other", x -> x.same(0, n)));
    all.add(new Call("part", x -> x.part(n, 0)));
    all.add(new Call("part whose", x -> x.part(n, 5)));
    all.add(new Call("on", x -> x.on(n, 0)));
    all.add(new Call("on CUT", x -> x.on(n, 5)));
    return all;
  }

  private static List<Call> actsWithIndex(int n) {
    List<Call> all = new ArrayList<>();
    all.add(new Call("swap first", x -> bool(x.swap(n, 1))));
    all.add(new Call("swap other", x -> bool(x.swap(0, n))));
    all.add(new Call("cast part", x -> bool(x.cast(n, 1))));
    all.add(new Call("cast part and player", x -> bool(x.cast(n, n))));
    all.add(new Call("cut true", x -> bool(x.cut(n, true))));
    all.add(new Call("cut false", x -> bool(x.cut(n, false))));
    all.add(new Call("back", x -> bool(x.back(n))));
    return all;
  }

  /** The calls without an argument that are refused by 1 alone. */
  private static List<Call> plain() {
    List<Call> all = new ArrayList<>();
    all.add(new Call("orders", x -> x.orders()));
    all.add(new Call("troubled", x -> x.troubled()));
    all.add(new Call("fewest", x -> x.fewest()));
    all.add(new Call("fewestOfAll", x -> x.fewestOfAll()));
    all.add(new Call("enough", x -> x.enough()));
    all.add(new Call("cuts", x -> x.cuts()));
    all.add(new Call("cutsBy", x -> x.cutsBy()));
    all.add(new Call("lend", x -> x.lend()));
    all.add(new Call("gap", x -> x.gap()));
    all.add(new Call("swaps", x -> x.swaps()));
    all.add(new Call("must", x -> x.must()));
    all.add(new Call("betrayed", x -> x.betrayed()));
    return all;
  }

  // ------------------------------------------------------------- looking at one call

  /** An object in whose evening all is there that a refused call could take away. */
  private static OnePlays inUse() {
    OnePlays x = Due.told(PLAY);
    x.cut(3, true);
    x.cast(1, 2);
    x.cast(2, 3);
    x.image();
    x.undo();
    x.feed(0, 0, 0, 0, 0);
    return x;
  }

  /** The call is refused by a number, TROUBLE says so till the next call, and nothing changes. */
  private static void refused(OnePlays x, Call call, int answer, int trouble) {
    String before = Due.state(x);
    x.undo();
    x.redo();
    Due.is("TROUBLE ahead of " + call.name + " is another", x.trouble() != trouble, true);
    Due.is(x, call.name, call.does.applyAsInt(x), answer, trouble);
    Due.is("trouble() asked again behind " + call.name, x.trouble(), trouble);
    Due.is("where() behind " + call.name, x.where(), -1);
    Due.is(call.name + " leaves all as it was", Due.state(x).equals(before), true);
  }

  private static void withoutPiece() {
    Due.says("1 there is none such: no PIECE");
    for (int n = 0; n < 3; n++) {
      for (Call call : withIndex(n)) {
        refused(new OnePlays(), call, -1, 1);
      }
      for (Call call : actsWithIndex(n)) {
        refused(new OnePlays(), call, 0, 1);
      }
      int player = n;
      refused(new OnePlays(), new Call("slack", x -> x.slack(player)), -1000, 1);
      refused(new OnePlays(), new Call("could", x -> x.could(player)), -1, 1);
      refused(new OnePlays(), new Call("who", x -> x.who(player)), -1, 1);
    }
    for (Call call : plain()) {
      refused(new OnePlays(), call, -1, 1);
    }
    refused(new OnePlays(), new Call("image", x -> x.image()), -1, 1);
    Due.says("no PIECE behind a text with a FAULT either");
    for (Call call : plain()) {
      OnePlays x = new OnePlays();
      Texts.feed(x, PLAY);
      x.piece(PLAY.length());
      Due.is("fault()", x.fault(), 1);
      refused(x, call, -1, 1);
    }
  }

  private static void indices() {
    for (int n : NO_SUCH) {
      Due.says("1 there is none such: number " + n);
      for (Call call : withIndex(n)) {
        refused(inUse(), call, -1, 1);
      }
      for (Call call : actsWithIndex(n)) {
        refused(inUse(), call, 0, 1);
      }
      refused(inUse(), new Call("slack", x -> x.slack(n)), -1000, 1);
    }
    Due.says("1 there is none such: the number one too large");
    int[] counts = {2, 2, 2, 4, 4, 3, 3, 4, 4, 4, 4, 4, 7, 7, 3, 2, 3, 3, 3, 3, 3, 3, 4, 4};
    for (int i = 0; i < counts.length; i++) {
      refused(inUse(), withIndex(counts[i]).get(i), -1, 1);
      OnePlays x = inUse();
      x.redo();
      x.redo();
      Call last = withIndex(counts[i] - 1).get(i);
      last.does.applyAsInt(x);
      Due.is("trouble() behind " + last.name + " of the last", x.trouble(), 0);
    }
    int[] acts = {2, 2, 3, 3, 4, 4, 1};
    for (int i = 0; i < acts.length; i++) {
      refused(inUse(), actsWithIndex(acts[i]).get(i), 0, 1);
    }
    refused(inUse(), new Call("slack", x -> x.slack(7)), -1000, 1);
  }

  private static void whats() {
    Due.says("1 there is none such: what is asked of a part, an APPEARANCE, a player");
    for (int n : NO_SUCH) {
      refused(inUse(), new Call("part what " + n, x -> x.part(0, n)), -1, 1);
      refused(inUse(), new Call("on what " + n, x -> x.on(0, n)), -1, 1);
      refused(inUse(), new Call("sweat what " + n, x -> x.sweat(0, n)), -1, 1);
    }
    refused(inUse(), new Call("part what 6", x -> x.part(0, 6)), -1, 1);
    refused(inUse(), new Call("on what 6", x -> x.on(0, 6)), -1, 1);
    refused(inUse(), new Call("sweat what 6", x -> x.sweat(0, 6)), -1, 1);
    Due.says("1: (unlike)");
    for (int n = 0; n < 3; n++) {
      int one = n;
      refused(inUse(), new Call("same alike", x -> x.same(one, one)), -1, 1);
      refused(inUse(), new Call("swap alike", x -> bool(x.swap(one, one))), 0, 1);
    }
  }

  private static void numbers() {
    Due.says("2 a number");
    for (int n : NO_SUCH) {
      refused(inUse(), new Call("could " + n, x -> x.could(n)), -1, 2);
      refused(inUse(), new Call("who " + n, x -> x.who(n)), -1, 2);
      refused(inUse(), new Call("cast to " + n, x -> bool(x.cast(0, n))), 0, 2);
      if (n < 0 || n > 20) {
        refused(inUse(), new Call("piece " + n, x -> x.piece(n)), -1, 2);
      }
    }
    refused(inUse(), new Call("could 8", x -> x.could(8)), -1, 2);
    refused(inUse(), new Call("who 0", x -> x.who(0)), -1, 2);
    refused(inUse(), new Call("who 4", x -> x.who(4)), -1, 2);
    refused(inUse(), new Call("cast to 7", x -> bool(x.cast(0, 7))), 0, 2);
    refused(inUse(), new Call("piece 21", x -> x.piece(21)), -1, 2);
    refused(new OnePlays(), new Call("piece 1", x -> x.piece(1)), -1, 2);
    refused(new OnePlays(), new Call("piece -1", x -> x.piece(-1)), -1, 2);
  }

  private static void room() {
    Due.says("3 no room");
    OnePlays x = inUse();
    x.image();
    x.image();
    refused(x, new Call("image", y -> y.image()), -1, 3);
  }

  private static void faults() {
    Due.says("4 a FAULT: of each number");
    String[] texts = {"|", "on |p", "piece walk 1 gap 1 players 1;|piece", "piece walk |100",
        Due.times(5, "scene #a lasts 1;") + "|scene", "scene s lasts 1|",
        Due.scene("s", 1) + Due.scene("t", 1) + "after s t;after t |s"};
    for (int fault = 1; fault <= 7; fault++) {
      String text = texts[fault - 1];
      for (char c = 'p'; text.indexOf('#') >= 0; c++) {
        text = text.replaceFirst("#", "" + c);
      }
      OnePlays x = Due.told(PLAY);
      String before = Due.state(x);
      Texts.feed(x, text.replace("|", ""));
      Due.is(x, "piece()", x.piece(text.length() - 1), -1, 4);
      Due.is("fault()", x.fault(), fault);
      Due.is("where()", x.where(), text.indexOf('|'));
      Due.is("trouble() asked again", x.trouble(), 4);
      String behind = Due.state(x);
      Due.is("the PIECE stays", behind.equals(before.substring(0, before.length() - 1) + fault), true);
    }
  }

  private static void notSo() {
    Due.says("5 not so");
    refused(inUse(), new Call("swap", x -> bool(x.swap(0, 1))), 0, 5);
    refused(inUse(), new Call("swap back", x -> bool(x.swap(1, 0))), 0, 5);
    refused(inUse(), new Call("cast", x -> bool(x.cast(1, 2))), 0, 5);
    refused(inUse(), new Call("cast of player 0", x -> bool(x.cast(0, 0))), 0, 5);
    refused(inUse(), new Call("cut", x -> bool(x.cut(3, true))), 0, 5);
    refused(inUse(), new Call("cut not", x -> bool(x.cut(0, false))), 0, 5);
  }

  private static void nothingThere() {
    Due.says("6 there is none");
    OnePlays x = inUse();
    x.back(0);
    String before = Due.state(x);
    Due.is(x, "undo()", x.undo(), false, 6);
    x.orders();
    Due.is(x, "redo()", x.redo(), false, 6);
    Due.is("where()", x.where(), -1);
    Due.is("all is as it was", Due.state(x).equals(before), true);
  }

  // ------------------------------------------------------------- what TROUBLE is of

  private static void wasNot() {
    Due.says("TROUBLE: 0 it wasn't: of each call that is answered, whatever it answers");
    List<Call> all = new ArrayList<>(withIndex(1));
    all.addAll(plain());
    all.add(new Call("slack", x -> x.slack(0)));
    all.add(new Call("slack without", x -> x.slack(6)));
    all.add(new Call("could", x -> x.could(0)));
    all.add(new Call("who", x -> x.who(1)));
    all.add(new Call("image", x -> x.image()));
    all.add(new Call("back", x -> bool(x.back(0))));
    all.add(new Call("cast", x -> bool(x.cast(0, 6))));
    all.add(new Call("cut", x -> bool(x.cut(0, true))));
    all.add(new Call("undo", x -> bool(x.undo())));
    all.add(new Call("redo", x -> bool(x.redo())));
    // PLAY again without its after, so that scenes can be swapped, and with what never goes.
    String[] texts = {Due.whole(PLAY), Due.whole(PLAY.replace("after s t;", "")),
        Due.whole(PLAY + Due.on("a", "s", 4, 9))};
    for (String text : texts) {
      for (int trouble = 1; trouble <= 6; trouble++) {
        for (Call call : all) {
          if (trouble == 3 && call.name.equals("image")) {
            continue;
          }
          OnePlays x = Due.told(text);
          x.image();
          x.cast(1, 1);
          if (call.name.equals("redo")) {
            x.undo();
          }
          troubleIs(x, trouble);
          call.does.applyAsInt(x);
          Due.is("trouble() behind " + call.name + " at " + trouble, x.trouble(), 0);
        }
      }
    }
    OnePlays x = Due.told(texts[1]);
    troubleIs(x, 6);
    Due.is(x, "swap(0, 1)", x.swap(0, 1), true, 0);
    troubleIs(x, 6);
    Texts.feed(x, texts[0]);
    Due.is(x, "piece()", x.piece(texts[0].length()), 4, 0);
  }

  /** Brings an object's TROUBLE to a number; of 3 it has all IMAGES then. */
  private static void troubleIs(OnePlays x, int trouble) {
    switch (trouble) {
      case 0:
        x.orders();
        break;
      case 1:
        x.scene(-1);
        break;
      case 2:
        x.piece(-1);
        break;
      case 3:
        for (int i = x.size(8); i <= 3; i++) {
          x.image();
        }
        break;
      case 4:
        x.piece(0);
        break;
      case 5:
        x.cast(0, 0);
        break;
      default:
        if (x.size(7) == 0) {
          x.redo();
        } else {
          x.undo();
        }
    }
    Due.is("TROUBLE ahead", x.trouble(), trouble);
  }

  private static void tellNoNumber() {
    Due.says("TROUBLE: those of which a number is told alone: not of feed, fault, where, led, size, trouble");
    for (int trouble = 0; trouble <= 6; trouble++) {
      OnePlays x = Due.told(PLAY);
      troubleIs(x, trouble);
      for (int i = 0; i <= 45; i++) {
        int got = x.feed(0, 0, 0, 0, 0);
        Due.is("feed " + i, got, i < 45 ? 20 * i + 20 : -1);
        Due.is("trouble() behind feed " + i, x.trouble(), trouble);
      }
      for (int what = -1; what <= 10; what++) {
        x.size(what);
        Due.is("trouble() behind size(" + what + ")", x.trouble(), trouble);
      }
      Due.is("led(0, 0)", Due.led(x, 0, 0), 0);
      Due.is("trouble() behind led that answers", x.trouble(), trouble);
      Due.is("led(0, 99)", Due.led(x, 0, 99), -99);
      Due.is("led(7, 0)", Due.led(x, 7, 0), -99);
      Due.is("trouble() behind led that throws", x.trouble(), trouble);
      Due.is("fault()", x.fault(), trouble == 4 ? 1 : 0);
      Due.is("where()", x.where(), trouble == 4 ? 0 : -1);
      Due.is("trouble() behind fault, where", x.trouble(), trouble);
      Due.is("trouble() behind trouble", x.trouble(), trouble);
    }
  }

  private static void many() {
    Due.says("An object is used for at most 512 calls: the last is answered as the first");
    OnePlays x = new OnePlays();
    String text = Due.whole(PLAY);
    Texts.feed(x, text);
    int calls = (text.length() + 19) / 20;
    Due.is("piece()", x.piece(text.length()), 4);
    for (calls++; calls + 4 <= 512; calls += 4) {
      Due.is("cast(0, 1)", x.cast(0, 1), true);
      Due.is("fewest()", x.fewest(), 2);
      Due.is("cast(0, 0)", x.cast(0, 0), true);
      Due.is("size(6)", x.size(6) <= 12, true);
    }
    Due.is("size(6)", x.size(6), 12);
  }
}

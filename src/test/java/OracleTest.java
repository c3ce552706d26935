import java.util.List;
import java.util.NoSuchElementException;

/** Thrown runs of calls, each answered by the program as by the plain words of the Oracle. */
public final class OracleTest {
  private static int wrong = 0;
  private static int calls = 0;
  private static int[] faultsMet = new int[8];

  public static void main(String[] args) {
    int runs = Integer.getInteger("runs", 700);
    int seed = Integer.getInteger("seed", 1);
    for (int run = 0; run < runs && wrong < 10; run++) {
      oneRun(new Dice(seed * 1000003L + run), run);
    }
    int texts = Integer.getInteger("texts", 6000);
    for (int t = 0; t < texts && wrong < 10; t++) {
      oneText(new Dice(seed * 7000003L + t), t);
    }
    for (int f = 1; f <= 7; f++) {
      if (faultsMet[f] == 0) {
        wrong++;
        System.out.println("no text met fault " + f);
      }
    }
    System.out.println(calls + " calls against the oracle, " + wrong + " wrong");
    if (wrong != 0) {
      System.exit(1);
    }
  }

  private static void due(String what, long got, long want) {
    calls++;
    if (got != want) {
      wrong++;
      System.out.println(what + " answered " + got + ", due is " + want);
    }
  }

  private static void oneText(Dice dice, int t) {
    List<String> lines = Texts.lines(dice, Texts.taste(dice));
    String text = Texts.spoilt(dice, lines);
    OnePlays plays = new OnePlays();
    Oracle oracle = new Oracle();
    tell(plays, oracle, text, text.length(), "text " + t + " '" + text + "'");
    faultsMet[oracle.fault()]++;
  }

  /** Feeds and reads a text by both. */
  private static void tell(OnePlays plays, Oracle oracle, String text, int n, String name) {
    for (int[] f : Texts.numbers(text)) {
      due(name + " feed", plays.feed(f[0], f[1], f[2], f[3], f[4]), oracle.feed(f));
    }
    due(name + " piece(" + n + ")", plays.piece(n), oracle.piece(n));
    due(name + " trouble", plays.trouble(), oracle.trouble());
    due(name + " fault", plays.fault(), oracle.fault());
    due(name + " where", plays.where(), oracle.where());
    for (int i = -1; i <= 10; i++) {
      due(name + " size " + i, plays.size(i), oracle.size(i));
    }
  }

  private static void oneRun(Dice dice, int run) {
    OnePlays plays = new OnePlays();
    Oracle oracle = new Oracle();
    if (!dice.oneIn(20)) {
      String text = Texts.text(dice, Texts.lines(dice, Texts.taste(dice)));
      if (text.length() <= 900) {
        tell(plays, oracle, text, text.length(), "run " + run + " '" + text + "'");
      }
    }
    if (dice.oneIn(3)) {
      castSome(plays, oracle, dice);
    }
    for (int c = 0; c < 60 && wrong < 10; c++) {
      oneCall(plays, oracle, dice, "run " + run + " call " + c);
      due("run " + run + " call " + c + " trouble", plays.trouble(), oracle.trouble());
      due("run " + run + " call " + c + " where", plays.where(), oracle.where());
    }
  }

  private static void castSome(OnePlays plays, Oracle oracle, Dice dice) {
    int players = dice.from(2, 7);
    for (int p = 0; p < 7; p++) {
      int player = dice.below(players);
      due("cast", plays.cast(p, player) ? 1 : 0, oracle.cast(p, player) ? 1 : 0);
    }
  }

  /** Mostly one of n, at times one beside. */
  private static int index(Dice dice, int n) {
    if (dice.oneIn(40)) {
      return dice.oneIn(2) ? Integer.MIN_VALUE : Integer.MAX_VALUE;
    }
    return dice.oneIn(8) || n == 0 ? dice.from(-1, n) : dice.below(n);
  }

  private static int bool(boolean is) {
    return is ? 1 : 0;
  }

  private static void oneCall(OnePlays x, Oracle o, Dice dice, String name) {
    int p = index(dice, x.size(0));
    int q = index(dice, x.size(0));
    int s = index(dice, x.size(1));
    int t = index(dice, x.size(1));
    int k = index(dice, x.size(2));
    int l = index(dice, x.size(2));
    int w = index(dice, x.size(4));
    int v = index(dice, x.size(4));
    int player = dice.oneIn(3) ? index(dice, 7) : 0;
    int six = index(dice, 6);
    int bits = dice.oneIn(10) ? dice.from(-1, 200) : dice.below(1 << x.size(0));
    boolean is = dice.oneIn(2);
    int which = dice.below(50);
    String call = name + " #" + which + " p" + p + " q" + q + " s" + s + " t" + t + " k" + k + " l"
        + l + " w" + w + " v" + v + " pl" + player + " six" + six + " bits" + bits + " is" + is;
    switch (which) {
      case 0: due(call, x.orders(), o.orders()); break;
      case 1: due(call, x.scene(s), o.scene(s)); break;
      case 2: due(call, x.begins(s, is), o.begins(s, is)); break;
      case 3: due(call, x.seen(k, is), o.seen(k, is)); break;
      case 4: due(call, x.change(p, q), o.change(p, q)); break;
      case 5: due(call, x.need(k, l), o.need(k, l)); break;
      case 6: due(call, x.meet(k, l), o.meet(k, l)); break;
      case 7: due(call, x.bodily(k), o.bodily(k)); break;
      case 8: due(call, x.can(player), o.can(player)); break;
      case 9: due(call, x.could(bits), o.could(bits)); break;
      case 10: due(call, x.troubled(), o.troubled()); break;
      case 11: due(call, x.slack(player), o.slack(player)); break;
      case 12: due(call, x.sweat(player, six), o.sweat(player, six)); break;
      case 13: due(call, x.fewest(), o.fewest()); break;
      case 14: due(call, x.player(p), o.player(p)); break;
      case 15: due(call, x.fewestOfAll(), o.fewestOfAll()); break;
      case 16: due(call, x.sceneOfAll(s), o.sceneOfAll(s)); break;
      case 17: due(call, x.enough(), o.enough()); break;
      case 18: due(call, x.cuts(), o.cuts()); break;
      case 19: due(call, x.cutsBy(), o.cutsBy()); break;
      case 20: due(call, x.ready(p), o.ready(p)); break;
      case 21: due(call, x.lent(p), o.lent(p)); break;
      case 22: due(call, x.lend(), o.lend()); break;
      case 23: due(call, x.gap(), o.gap()); break;
      case 24: due(call, x.swaps(), o.swaps()); break;
      case 25: { int m = dice.from(0, 4); due(call, x.who(m), o.who(m)); break; }
      case 26: due(call, x.same(w, v), o.same(w, v)); break;
      case 27: due(call, x.must(), o.must()); break;
      case 28: due(call, x.betrayed(), o.betrayed()); break;
      case 29: case 30: case 31:
        due(call, bool(x.swap(s, t)), bool(o.swap(s, t))); break;
      case 32: case 33: case 34:
        due(call, bool(x.cast(p, player)), bool(o.cast(p, player))); break;
      case 35: case 36: case 37:
        due(call, bool(x.cut(k, is)), bool(o.cut(k, is))); break;
      case 38: case 39: due(call, bool(x.undo()), bool(o.undo())); break;
      case 40: due(call, bool(x.redo()), bool(o.redo())); break;
      case 41: due(call, x.image(), o.image()); break;
      case 42: { int i = index(dice, 3); due(call, bool(x.back(i)), bool(o.back(i))); break; }
      case 43: due(call, x.part(p, six), o.part(p, six)); break;
      case 44: due(call, x.on(k, six), o.on(k, six)); break;
      case 45: case 46: due(call, led(x, player, k), led(o, player, k)); break;
      case 47: { int i = dice.from(-1, 10); due(call, x.size(i), o.size(i)); break; }
      case 48: due(call, x.fault(), o.fault()); break;
      default:
        if (dice.oneIn(6)) {
          String text = Texts.spoilt(dice, Texts.lines(dice, Texts.taste(dice)));
          tell(x, o, text, dice.oneIn(3) ? dice.from(-1, text.length() + 30) : text.length(), call);
        }
    }
  }

  private static int led(OnePlays x, int player, int i) {
    try {
      return x.led(player, i);
    } catch (NoSuchElementException e) {
      return -99;
    }
  }

  private static int led(Oracle o, int player, int i) {
    try {
      return o.led(player, i);
    } catch (NoSuchElementException e) {
      return -99;
    }
  }
}

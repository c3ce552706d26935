import java.util.NoSuchElementException;

/**
 * What the tests of boundaries share: a sentence of the document is named by says(), and
 * what is looked at behind it is counted as its test.
 */
final class Due {
  private static String sentence = "";
  private static int sentences = 0;
  private static int checks = 0;
  private static int wrong = 0;

  private Due() {}

  /** The sentence of the document that the checks behind this one are of. */
  static void says(String words) {
    sentence = words;
    sentences++;
  }

  /** How many checks there were so far. */
  static int checks() {
    return checks;
  }

  static void is(String what, long got, long want) {
    checks++;
    if (got != want) {
      wrong++;
      System.out.println("'" + sentence + "': " + what + " answered " + got + ", due is " + want);
    }
  }

  static void is(String what, boolean got, boolean want) {
    is(what, got ? 1 : 0, want ? 1 : 0);
  }

  /** An answer, and what TROUBLE says behind it. */
  static void is(OnePlays x, String what, long got, long want, int trouble) {
    is(what, got, want);
    is("trouble() behind " + what, x.trouble(), trouble);
  }

  static void is(OnePlays x, String what, boolean got, boolean want, int trouble) {
    is(x, what, got ? 1 : 0, want ? 1 : 0, trouble);
  }

  /** Prints what was found, and ends with 1 if something was wrong. */
  static void end(String test) {
    System.out.println(test + ": " + sentences + " sentences, " + checks + " checks, "
        + wrong + " wrong");
    if (wrong != 0) {
      System.exit(1);
    }
  }

  // ------------------------------------------------------------- texts

  static String head(int walk, int gap, int players) {
    return "piece walk " + walk + " gap " + gap + " players " + players + ";";
  }

  /** A part; a kind "beard" brings its WHOLE. */
  static String part(String name, String kind, int coat, int don, int doff) {
    return "part " + name + " " + kind + " coat " + coat + " don " + don + " doff " + doff + ";";
  }

  static String scene(String name, int lasts) {
    return "scene " + name + " lasts " + lasts + ";";
  }

  static String after(String first, String second) {
    return "after " + first + " " + second + ";";
  }

  static String on(String part, String scene, int from, int to) {
    return on(part, scene, from, to, "left left");
  }

  static String on(String part, String scene, int from, int to, String sides) {
    return "on " + part + " " + scene + " " + from + " to " + to + " " + sides + ";";
  }

  static String saw(String part, int time) {
    return saw(part, time, "left");
  }

  static String saw(String part, int time, String side) {
    return "saw " + part + " " + time + " " + side + ";";
  }

  /** The same sign, so often. */
  static String times(int n, String sign) {
    StringBuilder all = new StringBuilder();
    for (int i = 0; i < n; i++) {
      all.append(sign);
    }
    return all.toString();
  }

  /** A text without the ; at its end. */
  static String whole(String text) {
    return text.endsWith(";") ? text.substring(0, text.length() - 1) : text;
  }

  // ------------------------------------------------------------- objects

  /** A new object that has read a text. */
  static OnePlays told(String lines) {
    String text = whole(lines);
    OnePlays x = new OnePlays();
    Texts.feed(x, text);
    x.piece(text.length());
    is("fault() of '" + text + "' at " + x.where(), x.fault(), 0);
    return x;
  }

  /** The FAULT that a text has at what stands behind its bar. */
  static void faultAt(String text, int fault) {
    faultAt(text.replace("|", ""), fault, text.indexOf('|'));
  }

  static void faultAt(String text, int fault, int place) {
    OnePlays x = new OnePlays();
    Texts.feed(x, text);
    is(x, "piece() of '" + text + "'", x.piece(text.length()), OnePlays.NONE, 4);
    is("fault() of '" + text + "'", x.fault(), fault);
    is("where() of '" + text + "'", x.where(), place);
    is("size(0) behind '" + text + "'", x.size(0), 0);
  }

  /** What led() answers, -99 if it throws. */
  static int led(OnePlays x, int player, int i) {
    try {
      return x.led(player, i);
    } catch (NoSuchElementException e) {
      return -99;
    }
  }

  /** All that an object tells of itself, as one text; TROUBLE becomes another by it. */
  static String state(OnePlays x) {
    StringBuilder all = new StringBuilder();
    for (int i = 0; i <= 9; i++) {
      all.append(x.size(i)).append(' ');
    }
    for (int i = 0; i < x.size(1); i++) {
      all.append(x.scene(i)).append(' ');
    }
    for (int p = 0; p < x.size(0); p++) {
      all.append(x.part(p, 0)).append(x.part(p, 5)).append(' ');
    }
    for (int k = 0; k < x.size(2); k++) {
      all.append(x.on(k, 0)).append(x.on(k, 5)).append(' ').append(x.seen(k, true)).append(' ');
    }
    return all.append(x.fault()).toString();
  }
}

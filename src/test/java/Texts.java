import java.util.ArrayList;
import java.util.List;

/** Texts of pieces, thrown by dice. */
final class Texts {
  private Texts() {}

  static final String[] PART_NAMES = {"king", "fool", "left", "coat", "to", "queen", "z"};
  static final String[] SCENE_NAMES = {"one", "lasts", "right", "gap", "plain"};

  /** What the pieces of a series are like. */
  static final class Taste {
    int parts = 7;
    int scenes = 5;
    int ons = 14;
    int long_ = 40;
    int change = 12;
    int walk = 8;
    int gap = 12;
    int behindOneIn = 6;
    /** Whether a part is kept from meeting itself, so that more casts go. */
    boolean tidy = false;
  }

  static Taste taste(Dice dice) {
    Taste taste = new Taste();
    taste.parts = dice.from(1, 7);
    taste.scenes = dice.from(1, 5);
    taste.ons = dice.from(0, 14);
    taste.long_ = dice.oneIn(6) ? 500 : dice.oneIn(3) ? 12 : dice.from(15, 80);
    taste.change = dice.oneIn(8) ? 99 : dice.from(0, 25);
    taste.walk = dice.oneIn(8) ? 99 : dice.from(0, 15);
    taste.gap = dice.oneIn(8) ? 99 : dice.from(0, 30);
    taste.behindOneIn = dice.from(2, 9);
    taste.tidy = !dice.oneIn(3);
    return taste;
  }

  static List<String> lines(Dice dice, Taste taste) {
    List<String> head = new ArrayList<>();
    List<String> names = new ArrayList<>();
    List<String> body = new ArrayList<>();
    head.add("piece walk " + dice.from(0, taste.walk) + " gap " + dice.from(0, taste.gap)
        + " players " + dice.from(1, 3));
    for (int p = 0; p < taste.parts; p++) {
      names.add(dice.below(names.size() + 1), part(dice, taste, PART_NAMES[p]));
    }
    int[] lasts = new int[taste.scenes];
    for (int s = 0; s < taste.scenes; s++) {
      lasts[s] = dice.from(1, taste.long_);
      names.add(dice.below(names.size() + 1), "scene " + SCENE_NAMES[s] + " lasts " + lasts[s]);
    }
    for (int a = 0; taste.scenes > 1 && a < 6; a++) {
      if (dice.oneIn(5)) {
        int first = dice.below(taste.scenes - 1);
        int second = dice.from(first + 1, taste.scenes - 1);
        body.add("after " + SCENE_NAMES[first] + " " + SCENE_NAMES[second]);
      }
    }
    List<int[]> taken = new ArrayList<>();
    for (int k = 0; k < taste.ons; k++) {
      int s = dice.below(taste.scenes);
      int[] on = on(dice, taste, s, lasts[s]);
      for (int again = 0; taste.tidy && again < 6 && meetsItself(on, taken); again++) {
        s = dice.below(taste.scenes);
        on = on(dice, taste, s, lasts[s]);
      }
      taken.add(on);
      body.add(dice.below(body.size() + 1), "on " + PART_NAMES[on[0]] + " " + SCENE_NAMES[s] + " "
          + on[2] + " to " + on[3] + " " + dice.of("left", "right") + " " + dice.of("left", "right")
          + (dice.oneIn(taste.behindOneIn) ? " behind" : ""));
    }
    int saws = dice.oneIn(4) ? 0 : dice.from(0, 7);
    int most = dice.oneIn(3) ? 999 : dice.from(5, 100);
    for (int s = 0; s < saws; s++) {
      body.add(dice.below(body.size() + 1), "saw " + PART_NAMES[dice.below(taste.parts)] + " "
          + dice.from(0, most) + " " + dice.of("left", "right"));
    }
    List<String> all = new ArrayList<>(names);
    all.addAll(body);
    all.add(dice.below(all.size() + 1), head.get(0));
    return all;
  }

  private static String part(Dice dice, Taste taste, String name) {
    String kind = dice.of("plain", "plain", "puppet", "dead", "beard");
    if (kind.equals("beard")) {
      kind += " " + dice.from(0, taste.change);
    }
    return "part " + name + " " + kind + " coat " + dice.from(0, dice.oneIn(3) ? 9 : 3)
        + " don " + dice.from(0, taste.change) + " doff " + dice.from(0, taste.change);
  }

  /** Part, scene, from, to. */
  private static int[] on(Dice dice, Taste taste, int scene, int lasts) {
    int from = dice.below(lasts);
    int till = dice.oneIn(3) ? dice.from(from + 1, lasts)
        : Math.min(lasts, from + 1 + dice.below(1 + lasts / 6));
    return new int[] {dice.below(taste.parts), scene, from, till};
  }

  private static boolean meetsItself(int[] on, List<int[]> taken) {
    for (int[] other : taken) {
      if (other[0] == on[0] && other[1] == on[1] && other[2] < on[3] + 2 && on[2] < other[3] + 2) {
        return true;
      }
    }
    return false;
  }

  /** Lines in one text, some of whose blanks are more or (where they may) none. */
  static String text(Dice dice, List<String> lines) {
    String text = String.join(dice.of(";", " ;", "; "), lines);
    if (dice.oneIn(4)) {
      text = text.replaceAll("([a-z]) ([0-9])", "$1$2").replaceAll("([0-9]) ([a-z])", "$1$2");
    }
    if (dice.oneIn(4)) {
      text = "  " + text.replaceFirst(" ", "   ") + "  ";
    }
    return text;
  }

  /** A text with something put in, taken out or changed. */
  static String spoilt(Dice dice, List<String> lines) {
    List<String> some = new ArrayList<>(lines);
    switch (dice.below(6)) {
      case 0:
        some.remove(dice.below(some.size()));
        break;
      case 1:
        some.add(dice.below(some.size() + 1), some.get(dice.below(some.size())));
        break;
      case 2: {
        String line = some.remove(dice.below(some.size()));
        some.add(dice.below(some.size() + 1), line);
        break;
      }
      case 3:
        some.add(dice.below(some.size() + 1), "after " + dice.of(SCENE_NAMES) + " "
            + dice.of(SCENE_NAMES));
        break;
      case 4:
        some.set(dice.below(some.size()), "on " + dice.of(PART_NAMES) + " " + dice.of(SCENE_NAMES)
            + " " + dice.below(60) + " to " + dice.below(60) + " left " + dice.of("left", "up"));
        break;
      default:
        break;
    }
    String text = text(dice, some);
    int changes = dice.below(3);
    for (int i = 0; i < changes && text.length() > 1; i++) {
      int at = dice.below(text.length());
      String tokenwise = dice.of("on", "behind", "1000", "500", "501", "99", "100", "0", "00", "007",
          ";", ",", "left", "king", "one", "Q", "\u00ff", "\n", "piece", "abcdefgh", "abcdefghi",
          " ", "scene", "9", "4", "beard", "b", "-");
      switch (dice.below(4)) {
        case 0:
          text = text.substring(0, at) + text.substring(at + 1);
          break;
        case 1:
          text = text.substring(0, at) + tokenwise + text.substring(at);
          break;
        case 2: {
          String[] words = text.split(" ");
          if (words.length > 0) {
            words[dice.below(words.length)] = tokenwise;
          }
          text = String.join(" ", words);
          break;
        }
        default:
          text = text.substring(0, at);
      }
    }
    return text;
  }

  /** The numbers to feed for a text, five a call, filled up with blanks. */
  static int[][] numbers(String text) {
    int calls = (text.length() + 19) / 20;
    int[][] all = new int[calls][5];
    for (int c = 0; c < calls; c++) {
      for (int k = 0; k < 20; k++) {
        int at = c * 20 + k;
        int b = at < text.length() ? text.charAt(at) & 255 : 32;
        all[c][k / 4] = all[c][k / 4] << 8 | b;
      }
    }
    return all;
  }

  /** Feeds a text to an object; false if it has no room. */
  static boolean feed(OnePlays plays, String text) {
    for (int[] n : numbers(text)) {
      if (plays.feed(n[0], n[1], n[2], n[3], n[4]) == OnePlays.NONE) {
        return false;
      }
    }
    return true;
  }
}

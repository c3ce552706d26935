import java.nio.charset.StandardCharsets;
import java.nio.file.Files;
import java.nio.file.Path;
import java.util.ArrayList;
import java.util.List;

/** A walk through the document's words in their row, so that none is left out. */
final class Walk {
  private static final List<String> WORDS = new ArrayList<>();
  /** How many checks there were ahead of the words at hand; -1 if they ask nothing. */
  private static int checksAhead = -1;

  private Walk() {}

  /** The next words of the document; the checks behind them are their test. */
  static void says(String words) {
    next(words, Due.checks());
  }

  /** The next words: headings, and such of which no call can be asked. */
  static void asksNothing(String words) {
    next(words, -1);
  }

  private static void next(String words, int checks) {
    close();
    WORDS.add(words);
    Due.says(words);
    checksAhead = checks >= 0 ? Due.checks() : -1;
  }

  private static void close() {
    if (checksAhead >= 0 && Due.checks() == checksAhead) {
      Due.is("how many checks the sentence has", 0, 1);
    }
  }

  /** Holds the words against the document. */
  static void end() throws Exception {
    close();
    Path path = Path.of("../shared/DOC.md");
    Due.says("DOC.md, word for word");
    if (!Files.exists(path)) {
      System.out.println("there is no ../shared/DOC.md to hold the words against");
      return;
    }
    String all = bare(new String(Files.readAllBytes(path), StandardCharsets.UTF_8));
    int at = 0;
    for (String words : WORDS) {
      String next = bare(words);
      boolean is = all.startsWith(next, at);
      Due.is("whether '" + words + "' comes next", is, true);
      if (!is) {
        System.out.println("  but: " + all.substring(at, Math.min(all.length(), at + 200)));
        return;
      }
      at += next.length();
    }
    Due.is("what is left out: '" + all.substring(at) + "'", all.length() - at, 0);
  }

  /** Without blanks, ends of lines and the signs of headings and of code. */
  private static String bare(String text) {
    return text.replaceAll("(?m)^```[a-z]*$", "").replaceAll("[\\s#`]+", "");
  }

  /** Five parts of all kinds, two scenes, seven appearances, three seen. */
  static String court() {
    return Due.head(5, 10, 1) + Due.part("king", "plain", 2, 4, 3)
        + Due.part("fool", "beard 6", 2, 2, 1) + Due.part("cloak", "plain", 5, 3, 2)
        + Due.part("doll", "puppet", 0, 0, 0) + Due.part("corpse", "dead", 1, 9, 7)
        + Due.scene("one", 60) + Due.scene("two", 40) + Due.after("one", "two")
        + Due.on("king", "one", 0, 20, "left right") + Due.on("fool", "one", 34, 50)
        + Due.on("cloak", "one", 10, 15, "right right behind") + Due.on("doll", "one", 5, 18)
        + Due.on("corpse", "two", 0, 10) + Due.on("king", "two", 20, 30, "right right")
        + Due.on("corpse", "two", 25, 40)
        + Due.saw("king", 10) + Due.saw("fool", 15, "right") + Due.saw("king", 40, "right");
  }
}

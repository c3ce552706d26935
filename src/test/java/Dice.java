/** Numbers that look thrown, but are the same in each run of a test. */
final class Dice {
  private long state;

  Dice(long seed) {
    state = seed * 0x9E3779B97F4A7C15L + 0x1234567;
  }

  /** 0 up to n less 1. */
  int below(int n) {
    state ^= state << 13;
    state ^= state >>> 7;
    state ^= state << 17;
    return (int) Math.floorMod(state >>> 11, (long) n);
  }

  /** Least up to most. */
  int from(int least, int most) {
    return least + below(most - least + 1);
  }

  boolean oneIn(int n) {
    return below(n) == 0;
  }

  /** One of them. */
  String of(String... words) {
    return words[below(words.length)];
  }
}

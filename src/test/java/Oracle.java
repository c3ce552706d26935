import java.util.ArrayList;
import java.util.Arrays;
import java.util.Collections;
import java.util.Comparator;
import java.util.HashMap;
import java.util.HashSet;
import java.util.LinkedHashMap;
import java.util.List;
import java.util.Map;
import java.util.NoSuchElementException;
import java.util.Set;

/**
 * The document's words put down as slowly and plainly as can be, for tests alone:
 * every cast, order and cut is tried, nothing is kept from one call to the next.
 */
final class Oracle {
  static final Set<String> KEPT_WORDS =
      new HashSet<>(Arrays.asList("piece", "part", "scene", "after", "on", "saw", "behind"));

  static final class Part {
    String kind;
    int beard;
    int coat;
    int don;
    int doff;
  }

  static final class On {
    int number;
    int part;
    int scene;
    int from;
    int till;
    int in;
    int off;
    boolean behind;
  }

  static final class Saw {
    int number;
    int part;
    int time;
    int side;
  }

  static final class Told {
    int walk;
    int gap;
    int players;
    final List<Part> parts = new ArrayList<>();
    final List<Integer> lasts = new ArrayList<>();
    final List<int[]> afters = new ArrayList<>();
    final List<On> ons = new ArrayList<>();
    final List<Saw> saws = new ArrayList<>();
    boolean headTold;
    final Map<String, Integer> partNames = new LinkedHashMap<>();
    final Map<String, Integer> sceneNames = new LinkedHashMap<>();
  }

  /** An evening; never changed once made. */
  static final class Eve {
    final List<Integer> order;
    final List<Integer> cast;
    final Set<Integer> cut;

    Eve(List<Integer> order, List<Integer> cast, Set<Integer> cut) {
      this.order = order;
      this.cast = cast;
      this.cut = cut;
    }
  }

  // ---------------------------------------------------------------- the text

  static final class Token {
    char sort; // w word, n whole, ; the sign, e end, x none
    String text;
    int place;
  }

  static List<Token> tokens(int[] bytes, int n) {
    List<Token> all = new ArrayList<>();
    int i = 0;
    while (i < n) {
      if (bytes[i] == 32) {
        i++;
        continue;
      }
      Token t = new Token();
      t.place = i;
      int j = i;
      StringBuilder text = new StringBuilder();
      if (bytes[i] >= 97 && bytes[i] <= 122) {
        while (j < n && bytes[j] >= 97 && bytes[j] <= 122) {
          text.append((char) bytes[j++]);
        }
        t.sort = text.length() > 8 ? 'x' : 'w';
      } else if (bytes[i] >= 48 && bytes[i] <= 57) {
        while (j < n && bytes[j] >= 48 && bytes[j] <= 57) {
          text.append((char) bytes[j++]);
        }
        t.sort = text.length() > 3 ? 'x' : 'n';
      } else {
        text.append((char) bytes[j++]);
        t.sort = text.toString().equals(";") ? ';' : 'x';
      }
      t.text = text.toString();
      all.add(t);
      i = j;
    }
    Token end = new Token();
    end.sort = 'e';
    end.place = n;
    end.text = "";
    all.add(end);
    return all;
  }

  /** The templates of the lines; words stand for themselves. */
  static final Map<String, String> LINES = new HashMap<>();

  static {
    LINES.put("piece", "walk #0-99 gap #0-99 players #1-3");
    LINES.put("part", "NEW KIND coat #0-9 don #0-99 doff #0-99");
    LINES.put("scene", "NEW lasts #1-500");
    LINES.put("after", "SCENE SECOND");
    LINES.put("on", "PART SCENE FROM to TILL SIDE SIDE BEHIND");
    LINES.put("saw", "PART #0-999 SIDE");
  }

  Told reading;
  int readFault;
  int readPlace;

  /** Reads; readFault and readPlace tell how it went. */
  Told read(int[] bytes, int n) {
    reading = new Told();
    readFault = 0;
    readPlace = -1;
    List<Token> all = tokens(bytes, n);
    int at = 0;
    while (true) {
      Token key = all.get(at);
      List<Integer> here = new ArrayList<>();
      String template = key.sort == 'w' ? LINES.get(key.text) : null;
      if (template == null) {
        here.add(1);
      } else {
        if (key.text.equals("piece") && reading.headTold) {
          here.add(3);
        }
        if (full(key.text)) {
          here.add(5);
        }
      }
      if (stop(here, key)) {
        return reading;
      }
      at++;
      List<String> symbols = new ArrayList<>(Arrays.asList(template.split(" ")));
      List<String> got = new ArrayList<>();
      while (!symbols.isEmpty()) {
        String symbol = symbols.remove(0);
        Token t = all.get(at);
        if (symbol.equals("BEHIND")) {
          if (t.sort == 'w' && t.text.equals("behind")) {
            got.add("behind");
            at++;
          }
          continue;
        }
        if (stop(faultsAt(symbol, t, got), t)) {
          return reading;
        }
        if (symbol.equals("KIND") && t.text.equals("beard")) {
          symbols.add(0, "#0-99");
        } else if (symbol.equals("KIND")) {
          got.add(t.text);
          got.add("0");
          at++;
          continue;
        }
        got.add(t.text);
        at++;
      }
      take(key.text, got);
      Token t = all.get(at);
      List<Integer> behindLine = new ArrayList<>();
      if (t.sort == 'e') {
        if (!reading.headTold || reading.parts.isEmpty() || reading.lasts.isEmpty()) {
          behindLine.add(6);
        }
        stop(behindLine, t);
        return reading;
      }
      if (t.sort != ';') {
        behindLine.add(1);
      }
      if (stop(behindLine, t)) {
        return reading;
      }
      at++;
    }
  }

  private boolean full(String key) {
    switch (key) {
      case "part":
        return reading.parts.size() == 7;
      case "scene":
        return reading.lasts.size() == 5;
      case "after":
        return reading.afters.size() == 6;
      case "on":
        return reading.ons.size() == 14;
      case "saw":
        return reading.saws.size() == 7;
      default:
        return false;
    }
  }

  private boolean stop(List<Integer> faults, Token t) {
    if (faults.isEmpty()) {
      return false;
    }
    readFault = Collections.min(faults);
    readPlace = t.place;
    return true;
  }

  private List<Integer> faultsAt(String symbol, Token t, List<String> got) {
    List<Integer> faults = new ArrayList<>();
    boolean isName = t.sort == 'w' && !KEPT_WORDS.contains(t.text);
    if (symbol.equals("NEW")) {
      if (!isName) {
        faults.add(1);
      }
      if (reading.partNames.containsKey(t.text) || reading.sceneNames.containsKey(t.text)) {
        faults.add(3);
      }
    } else if (symbol.equals("PART")) {
      if (!isName) {
        faults.add(1);
      }
      if (!reading.partNames.containsKey(t.text)) {
        faults.add(2);
      }
    } else if (symbol.equals("SCENE") || symbol.equals("SECOND")) {
      if (!isName) {
        faults.add(1);
      }
      if (!reading.sceneNames.containsKey(t.text)) {
        faults.add(2);
      } else if (symbol.equals("SECOND")) {
        if (t.text.equals(got.get(0))) {
          faults.add(3);
        }
        List<int[]> with = new ArrayList<>(reading.afters);
        with.add(new int[] {reading.sceneNames.get(got.get(0)), reading.sceneNames.get(t.text)});
        if (orders(reading.lasts.size(), with).isEmpty()) {
          faults.add(7);
        }
      }
    } else if (symbol.equals("KIND")) {
      if (t.sort != 'w' || !Arrays.asList("plain", "beard", "puppet", "dead").contains(t.text)) {
        faults.add(1);
      }
    } else if (symbol.equals("SIDE")) {
      if (t.sort != 'w' || !t.text.equals("left") && !t.text.equals("right")) {
        faults.add(1);
      }
    } else if (symbol.startsWith("#") || symbol.equals("FROM") || symbol.equals("TILL")) {
      if (t.sort != 'n') {
        faults.add(1);
      } else {
        int least;
        int most;
        if (symbol.startsWith("#")) {
          String[] ends = symbol.substring(1).split("-");
          least = Integer.parseInt(ends[0]);
          most = Integer.parseInt(ends[1]);
        } else {
          int lasts = reading.lasts.get(reading.sceneNames.get(got.get(1)));
          least = symbol.equals("FROM") ? 0 : Integer.parseInt(got.get(2)) + 1;
          most = symbol.equals("FROM") ? lasts - 1 : lasts;
        }
        int value = Integer.parseInt(t.text);
        if (value < least || value > most) {
          faults.add(4);
        }
      }
    } else if (t.sort != 'w' || !t.text.equals(symbol)) {
      faults.add(1);
    }
    return faults;
  }

  private static int side(String word) {
    return word.equals("left") ? 0 : 1;
  }

  private void take(String key, List<String> got) {
    switch (key) {
      case "piece":
        reading.headTold = true;
        reading.walk = Integer.parseInt(got.get(1));
        reading.gap = Integer.parseInt(got.get(3));
        reading.players = Integer.parseInt(got.get(5));
        break;
      case "part":
        Part part = new Part();
        part.kind = got.get(1);
        part.beard = Integer.parseInt(got.get(2));
        part.coat = Integer.parseInt(got.get(4));
        part.don = Integer.parseInt(got.get(6));
        part.doff = Integer.parseInt(got.get(8));
        reading.partNames.put(got.get(0), reading.parts.size());
        reading.parts.add(part);
        break;
      case "scene":
        reading.sceneNames.put(got.get(0), reading.lasts.size());
        reading.lasts.add(Integer.parseInt(got.get(2)));
        break;
      case "after":
        reading.afters.add(new int[] {
            reading.sceneNames.get(got.get(0)), reading.sceneNames.get(got.get(1))});
        break;
      case "on":
        On on = new On();
        on.number = reading.ons.size();
        on.part = reading.partNames.get(got.get(0));
        on.scene = reading.sceneNames.get(got.get(1));
        on.from = Integer.parseInt(got.get(2));
        on.till = Integer.parseInt(got.get(4));
        on.in = side(got.get(5));
        on.off = side(got.get(6));
        on.behind = got.size() == 8;
        reading.ons.add(on);
        break;
      default:
        Saw saw = new Saw();
        saw.number = reading.saws.size();
        saw.part = reading.partNames.get(got.get(0));
        saw.time = Integer.parseInt(got.get(1));
        saw.side = side(got.get(2));
        reading.saws.add(saw);
    }
  }

  // ---------------------------------------------------------------- orders and times

  static List<List<Integer>> orders(int scenes, List<int[]> afters) {
    List<List<Integer>> rows = new ArrayList<>();
    permute(scenes, new ArrayList<>(), rows);
    List<List<Integer>> good = new ArrayList<>();
    for (List<Integer> row : rows) {
      boolean is = true;
      for (int[] after : afters) {
        is &= row.indexOf(after[0]) < row.indexOf(after[1]);
      }
      if (is) {
        good.add(row);
      }
    }
    return good;
  }

  private static void permute(int n, List<Integer> row, List<List<Integer>> rows) {
    if (row.size() == n) {
      rows.add(new ArrayList<>(row));
      return;
    }
    for (int s = 0; s < n; s++) {
      if (!row.contains(s)) {
        row.add(s);
        permute(n, row, rows);
        row.remove(row.size() - 1);
      }
    }
  }

  int sceneBegin(List<Integer> order, int gap, int scene) {
    int time = 0;
    for (int s : order) {
      if (s == scene) {
        return time;
      }
      time += told.lasts.get(s) + gap;
    }
    throw new IllegalStateException();
  }

  int begin(List<Integer> order, int gap, On on) {
    return sceneBegin(order, gap, on.scene) + on.from;
  }

  int end(List<Integer> order, int gap, On on) {
    return sceneBegin(order, gap, on.scene) + on.till;
  }

  /** A night: an order with a gap, and perhaps a part that is ready (-1 none). */
  final class Nacht {
    final List<Integer> order;
    final int gap;
    final int ready;
    final Set<Integer> cut;
    final Map<Set<Integer>, Boolean> known = new HashMap<>();

    Nacht(List<Integer> order, int gap, int ready, Set<Integer> cut) {
      this.order = order;
      this.gap = gap;
      this.ready = ready;
      this.cut = cut;
    }

    boolean meet(On a, On b) {
      return begin(order, gap, a) < end(order, gap, b) && begin(order, gap, b) < end(order, gap, a);
    }

    int change(int a, int b) {
      if (a == b) {
        return 0;
      }
      Part first = told.parts.get(a);
      Part other = told.parts.get(b);
      int don = b == ready ? 0 : other.don + (other.kind.equals("beard") ? other.beard : 0);
      int doff = a == ready ? 0 : first.doff;
      int sum = 0;
      if (other.coat >= first.coat) {
        sum += don;
      }
      if (other.coat <= first.coat) {
        sum += doff;
      }
      return sum;
    }

    int need(On a, On b) {
      return change(a.part, b.part) + (a.off == b.in ? 0 : told.walk);
    }

    List<On> inTime(List<On> some) {
      List<On> row = new ArrayList<>(some);
      row.sort(Comparator.comparingInt((On o) -> begin(order, gap, o))
          .thenComparingInt(o -> o.number));
      return row;
    }

    boolean isPuppet(On on) {
      return !on.behind && told.parts.get(on.part).kind.equals("puppet");
    }

    boolean isBodily(On on) {
      if (cut.contains(on.number) || on.behind || isPuppet(on)) {
        return false;
      }
      if (!told.parts.get(on.part).kind.equals("dead")) {
        return true;
      }
      for (On other : told.ons) {
        if (other.part == on.part && !other.behind && !cut.contains(other.number)
            && (begin(order, gap, other) < begin(order, gap, on)
                || begin(order, gap, other) == begin(order, gap, on)
                    && other.number < on.number)) {
          return false;
        }
      }
      return true;
    }

    List<On> of(Set<Integer> parts) {
      List<On> some = new ArrayList<>();
      for (On on : told.ons) {
        if (parts.contains(on.part) && !cut.contains(on.number)) {
          some.add(on);
        }
      }
      return some;
    }

    List<On> bodilyInTime(List<On> some) {
      List<On> row = new ArrayList<>();
      for (On on : inTime(some)) {
        if (isBodily(on)) {
          row.add(on);
        }
      }
      return row;
    }

    boolean canAll(List<On> some) {
      for (On a : some) {
        for (On b : some) {
          if (a != b && meet(a, b)) {
            if (a.behind && b.behind || a.behind && isBodily(b)
                || isPuppet(a) && isPuppet(b) || isBodily(a) && isBodily(b)) {
              return false;
            }
          }
        }
      }
      List<On> row = bodilyInTime(some);
      for (int i = 1; i < row.size(); i++) {
        if (begin(order, gap, row.get(i))
            < end(order, gap, row.get(i - 1)) + need(row.get(i - 1), row.get(i))) {
          return false;
        }
      }
      return true;
    }

    boolean could(Set<Integer> parts) {
      return known.computeIfAbsent(new HashSet<>(parts), p -> canAll(of(p)));
    }

    boolean goes(List<Integer> parts, List<Integer> cast, int players) {
      for (int player = 0; player < players; player++) {
        Set<Integer> his = new HashSet<>();
        for (int i = 0; i < parts.size(); i++) {
          if (cast.get(i) == player) {
            his.add(parts.get(i));
          }
        }
        if (!could(his)) {
          return false;
        }
      }
      return true;
    }

    /** The first cast with so many players at most, each new one the least; null. */
    List<Integer> firstCast(List<Integer> parts, int players) {
      return grow(parts, new ArrayList<>(), players);
    }

    private List<Integer> grow(List<Integer> parts, List<Integer> cast, int players) {
      if (cast.size() == parts.size()) {
        return goes(parts, cast, players) ? new ArrayList<>(cast) : null;
      }
      int used = cast.isEmpty() ? 0 : Collections.max(cast) + 1;
      for (int p = 0; p <= used && p < players; p++) {
        cast.add(p);
        List<Integer> found = grow(parts, cast, players);
        if (found != null) {
          return found;
        }
        cast.remove(cast.size() - 1);
      }
      return null;
    }

    int fewest(List<Integer> parts) {
      for (int m = 0; m <= 7; m++) {
        if (firstCast(parts, m) != null) {
          return m;
        }
      }
      return -2;
    }

    boolean enough() {
      return firstCast(allParts(), told.players) != null;
    }

    int casts(int players) {
      int n = told.parts.size();
      int all = 1;
      for (int i = 0; i < n; i++) {
        all *= players;
      }
      int count = 0;
      for (int c = 0; c < all; c++) {
        List<Integer> cast = new ArrayList<>();
        int left = c;
        for (int i = 0; i < n; i++) {
          cast.add(left % players);
          left /= players;
        }
        if (goes(allParts(), cast, players)) {
          count++;
        }
      }
      return count;
    }
  }

  // ---------------------------------------------------------------- the state

  private final List<Integer> tape = new ArrayList<>();
  Told told = null;
  private List<List<Integer>> allOrders = new ArrayList<>();
  Eve eve;
  private final List<Eve> past = new ArrayList<>();
  private final List<Eve> future = new ArrayList<>();
  private final List<Eve> images = new ArrayList<>();
  private int trouble = 0;
  private int fault = 0;
  private int place = -1;

  private int no(int number) {
    trouble = number;
    return -1;
  }

  private int ok(int answer) {
    trouble = 0;
    return answer;
  }

  private int ok(boolean answer) {
    return ok(answer ? 1 : 0);
  }

  private boolean none(int i, List<?> rows) {
    return i < 0 || i >= rows.size();
  }

  List<Integer> allParts() {
    List<Integer> parts = new ArrayList<>();
    for (int p = 0; p < told.parts.size(); p++) {
      parts.add(p);
    }
    return parts;
  }

  private Nacht now() {
    return new Nacht(eve.order, told.gap, -1, eve.cut);
  }

  private Set<Integer> partsOf(int player) {
    Set<Integer> his = new HashSet<>();
    for (int p = 0; p < told.parts.size(); p++) {
      if (eve.cast.get(p) == player) {
        his.add(p);
      }
    }
    return his;
  }

  private static Set<Integer> bits(int bits) {
    Set<Integer> set = new HashSet<>();
    for (int i = 0; i < 31; i++) {
      if ((bits >> i & 1) == 1) {
        set.add(i);
      }
    }
    return set;
  }

  int feed(int... numbers) {
    if (tape.size() + 20 > 900) {
      return -1;
    }
    for (int number : numbers) {
      for (int b = 3; b >= 0; b--) {
        tape.add(number >>> 8 * b & 255);
      }
    }
    return tape.size();
  }

  int piece(int n) {
    if (n < 0 || n > tape.size()) {
      return no(2);
    }
    int[] bytes = new int[n];
    for (int i = 0; i < n; i++) {
      bytes[i] = tape.get(i);
    }
    tape.clear();
    Told read = read(bytes, n);
    fault = readFault;
    if (readFault != 0) {
      place = readPlace;
      return no(4);
    }
    told = read;
    allOrders = orders(told.lasts.size(), told.afters);
    List<Integer> cast = new ArrayList<>();
    for (int p = 0; p < told.parts.size(); p++) {
      cast.add(0);
    }
    eve = new Eve(allOrders.get(0), cast, new HashSet<>());
    past.clear();
    future.clear();
    images.clear();
    return ok(told.ons.size());
  }

  int fault() {
    return fault;
  }

  int where() {
    return trouble == 4 ? place : -1;
  }

  int orders() {
    return told == null ? no(1) : ok(allOrders.size());
  }

  int scene(int i) {
    return told == null || none(i, told.lasts) ? no(1) : ok(eve.order.get(i));
  }

  int begins(int scene, boolean ends) {
    if (told == null || none(scene, told.lasts)) {
      return no(1);
    }
    return ok(sceneBegin(eve.order, told.gap, scene) + (ends ? told.lasts.get(scene) : 0));
  }

  int seen(int on, boolean ends) {
    if (told == null || none(on, told.ons)) {
      return no(1);
    }
    On which = told.ons.get(on);
    return ok(ends ? end(eve.order, told.gap, which) : begin(eve.order, told.gap, which));
  }

  int change(int part, int other) {
    if (told == null || none(part, told.parts) || none(other, told.parts)) {
      return no(1);
    }
    return ok(now().change(part, other));
  }

  int need(int on, int other) {
    if (told == null || none(on, told.ons) || none(other, told.ons)) {
      return no(1);
    }
    return ok(now().need(told.ons.get(on), told.ons.get(other)));
  }

  int meet(int on, int other) {
    if (told == null || none(on, told.ons) || none(other, told.ons)) {
      return no(1);
    }
    return ok(now().meet(told.ons.get(on), told.ons.get(other)));
  }

  int bodily(int on) {
    return told == null || none(on, told.ons) ? no(1) : ok(now().isBodily(told.ons.get(on)));
  }

  private boolean noPlayer(int player) {
    return told == null || player < 0 || player > 6;
  }

  int can(int player) {
    return noPlayer(player) ? no(1) : ok(now().could(partsOf(player)));
  }

  int could(int parts) {
    if (told == null) {
      return no(1);
    }
    if (parts < 0 || parts >= 1 << told.parts.size()) {
      return no(2);
    }
    return ok(now().could(bits(parts)));
  }

  int troubled() {
    if (told == null) {
      return no(1);
    }
    Nacht now = now();
    List<On> row = now.inTime(told.ons);
    for (int i = 0; i < row.size(); i++) {
      On on = row.get(i);
      if (eve.cut.contains(on.number)) {
        continue;
      }
      List<On> his = new ArrayList<>();
      for (On other : row.subList(0, i + 1)) {
        if (!eve.cut.contains(other.number)
            && eve.cast.get(other.part).equals(eve.cast.get(on.part))) {
          his.add(other);
        }
      }
      if (!now.canAll(his)) {
        return ok(on.number);
      }
    }
    return ok(-2);
  }

  int slack(int player) {
    if (noPlayer(player)) {
      no(1);
      return -1000;
    }
    Nacht now = now();
    List<On> row = now.bodilyInTime(now.of(partsOf(player)));
    List<Integer> more = new ArrayList<>();
    for (int i = 1; i < row.size(); i++) {
      more.add(begin(eve.order, told.gap, row.get(i)) - end(eve.order, told.gap, row.get(i - 1))
          - now.need(row.get(i - 1), row.get(i)));
    }
    return ok(more.isEmpty() ? 999 : Collections.min(more));
  }

  int sweat(int player, int what) {
    if (noPlayer(player) || what < 0 || what > 5) {
      return no(1);
    }
    Nacht now = now();
    List<On> his = now.of(partsOf(player));
    List<On> row = now.bodilyInTime(his);
    int sum = 0;
    for (On on : his) {
      int lasts = on.till - on.from;
      if (what == 0 && now.isBodily(on) || what == 4 && on.behind || what == 5 && now.isPuppet(on)) {
        sum += lasts;
      }
    }
    for (int i = 1; i < row.size(); i++) {
      On a = row.get(i - 1);
      On b = row.get(i);
      if (what == 1 && a.off != b.in || what == 2 && a.part != b.part) {
        sum++;
      }
      if (what == 3) {
        sum += now.change(a.part, b.part);
      }
    }
    return ok(sum);
  }

  int fewest() {
    return told == null ? no(1) : ok(now().fewest(allParts()));
  }

  int player(int part) {
    if (told == null || none(part, told.parts)) {
      return no(1);
    }
    Nacht now = now();
    int fewest = now.fewest(allParts());
    return ok(fewest == -2 ? -2 : now.firstCast(allParts(), fewest).get(part));
  }

  private List<Integer> bestOrder;

  private int best() {
    int best = -2;
    bestOrder = null;
    for (List<Integer> order : allOrders) {
      int fewest = new Nacht(order, told.gap, -1, eve.cut).fewest(allParts());
      if (fewest != -2 && (best == -2 || fewest < best)) {
        best = fewest;
        bestOrder = order;
      }
    }
    return best;
  }

  int fewestOfAll() {
    return told == null ? no(1) : ok(best());
  }

  int sceneOfAll(int i) {
    if (told == null || none(i, told.lasts)) {
      return no(1);
    }
    return ok(best() == -2 ? -2 : bestOrder.get(i));
  }

  int enough() {
    if (told == null) {
      return no(1);
    }
    boolean any = false;
    for (List<Integer> order : allOrders) {
      any |= new Nacht(order, told.gap, -1, eve.cut).enough();
    }
    return ok(any);
  }

  /** The bits of the fewest to cut; -2. */
  private int cutMask() {
    for (int count = 0; count <= 3; count++) {
      for (int mask = 0; mask < 1 << told.ons.size(); mask++) {
        if (Integer.bitCount(mask) != count) {
          continue;
        }
        Set<Integer> cut = bits(mask);
        if (!Collections.disjoint(cut, eve.cut)) {
          continue;
        }
        cut.addAll(eve.cut);
        if (new Nacht(eve.order, told.gap, -1, cut).enough()) {
          return mask;
        }
      }
    }
    return -2;
  }

  int cuts() {
    if (told == null) {
      return no(1);
    }
    int mask = cutMask();
    return ok(mask == -2 ? -2 : Integer.bitCount(mask));
  }

  int cutsBy() {
    return told == null ? no(1) : ok(cutMask());
  }

  int ready(int part) {
    if (told == null || none(part, told.parts)) {
      return no(1);
    }
    int fewest = now().fewest(allParts());
    if (fewest == -2) {
      return ok(-2);
    }
    return ok(fewest - new Nacht(eve.order, told.gap, part, eve.cut).fewest(allParts()));
  }

  private int without(int part) {
    List<Integer> parts = allParts();
    parts.remove(Integer.valueOf(part));
    return now().fewest(parts);
  }

  int lent(int part) {
    return told == null || none(part, told.parts) ? no(1) : ok(without(part));
  }

  int lend() {
    if (told == null) {
      return no(1);
    }
    int by = -2;
    int least = 99;
    for (int p : allParts()) {
      int fewest = without(p);
      if (fewest != -2 && fewest < least) {
        least = fewest;
        by = p;
      }
    }
    return ok(by);
  }

  int gap() {
    if (told == null) {
      return no(1);
    }
    for (int gap = 0; gap <= 99; gap++) {
      if (new Nacht(eve.order, gap, -1, eve.cut).enough()) {
        return ok(gap);
      }
    }
    return ok(-2);
  }

  int swaps() {
    if (told == null) {
      return no(1);
    }
    Map<List<Integer>, Integer> steps = new LinkedHashMap<>();
    List<List<Integer>> queue = new ArrayList<>();
    steps.put(eve.order, 0);
    queue.add(eve.order);
    for (int q = 0; q < queue.size(); q++) {
      List<Integer> order = queue.get(q);
      if (new Nacht(order, told.gap, -1, eve.cut).enough()) {
        return ok(steps.get(order));
      }
      for (int i = 0; i < order.size(); i++) {
        for (int j = 0; j < i; j++) {
          List<Integer> next = new ArrayList<>(order);
          Collections.swap(next, i, j);
          if (allOrders.contains(next) && !steps.containsKey(next)) {
            steps.put(next, steps.get(order) + 1);
            queue.add(next);
          }
        }
      }
    }
    return ok(-2);
  }

  int who(int players) {
    if (told == null) {
      return no(1);
    }
    return players < 1 || players > 3 ? no(2) : ok(now().casts(players));
  }

  // ---------------------------------------------------------------- what was seen

  private boolean oneWas(List<Saw> some) {
    List<Saw> row = new ArrayList<>(some);
    row.sort(Comparator.comparingInt((Saw s) -> s.time).thenComparingInt(s -> s.number));
    for (int i = 1; i < row.size(); i++) {
      Saw a = row.get(i - 1);
      Saw b = row.get(i);
      if (b.time - a.time < now().change(a.part, b.part) + (a.side == b.side ? 0 : told.walk)) {
        return false;
      }
    }
    return true;
  }

  int same(int saw, int other) {
    if (told == null || none(saw, told.saws) || none(other, told.saws) || saw == other) {
      return no(1);
    }
    return ok(oneWas(Arrays.asList(told.saws.get(saw), told.saws.get(other))));
  }

  private boolean allBy(int players, int at, List<List<Saw>> groups) {
    if (at == told.saws.size()) {
      for (List<Saw> group : groups) {
        if (!oneWas(group)) {
          return false;
        }
      }
      return true;
    }
    for (int g = 0; g <= groups.size() && g < players; g++) {
      if (g == groups.size()) {
        groups.add(new ArrayList<>());
      }
      groups.get(g).add(told.saws.get(at));
      if (allBy(players, at + 1, groups)) {
        return true;
      }
      groups.get(g).remove(groups.get(g).size() - 1);
      if (groups.get(g).isEmpty()) {
        groups.remove(g);
      }
    }
    return false;
  }

  int must() {
    if (told == null) {
      return no(1);
    }
    for (int players = 0; ; players++) {
      if (allBy(players, 0, new ArrayList<>())) {
        return ok(players);
      }
    }
  }

  int betrayed() {
    if (told == null) {
      return no(1);
    }
    for (int a = 0; a < told.saws.size(); a++) {
      for (int b = a + 1; b < told.saws.size(); b++) {
        if (!oneWas(Arrays.asList(told.saws.get(a), told.saws.get(b)))) {
          return ok(8 * a + b);
        }
      }
    }
    return ok(-2);
  }

  // ---------------------------------------------------------------- acts

  private boolean act(Eve next) {
    past.add(eve);
    if (past.size() > 12) {
      past.remove(0);
    }
    future.clear();
    eve = next;
    trouble = 0;
    return true;
  }

  private boolean not(int number) {
    trouble = number;
    return false;
  }

  boolean swap(int i, int j) {
    if (told == null || none(i, told.lasts) || none(j, told.lasts) || i == j) {
      return not(1);
    }
    List<Integer> next = new ArrayList<>(eve.order);
    Collections.swap(next, i, j);
    return allOrders.contains(next) ? act(new Eve(next, eve.cast, eve.cut)) : not(5);
  }

  boolean cast(int part, int player) {
    if (told == null || none(part, told.parts)) {
      return not(1);
    }
    if (player < 0 || player > 6) {
      return not(2);
    }
    if (eve.cast.get(part) == player) {
      return not(5);
    }
    List<Integer> next = new ArrayList<>(eve.cast);
    next.set(part, player);
    return act(new Eve(eve.order, next, eve.cut));
  }

  boolean cut(int on, boolean is) {
    if (told == null || none(on, told.ons)) {
      return not(1);
    }
    if (eve.cut.contains(on) == is) {
      return not(5);
    }
    Set<Integer> next = new HashSet<>(eve.cut);
    if (is) {
      next.add(on);
    } else {
      next.remove(on);
    }
    return act(new Eve(eve.order, eve.cast, next));
  }

  boolean undo() {
    if (past.isEmpty()) {
      return not(6);
    }
    future.add(eve);
    eve = past.remove(past.size() - 1);
    trouble = 0;
    return true;
  }

  boolean redo() {
    if (future.isEmpty()) {
      return not(6);
    }
    past.add(eve);
    eve = future.remove(future.size() - 1);
    trouble = 0;
    return true;
  }

  int image() {
    if (told == null) {
      return no(1);
    }
    if (images.size() == 3) {
      return no(3);
    }
    images.add(eve);
    return ok(images.size() - 1);
  }

  boolean back(int image) {
    if (none(image, images)) {
      return not(1);
    }
    eve = images.get(image);
    past.clear();
    future.clear();
    trouble = 0;
    return true;
  }

  // ---------------------------------------------------------------- what is told

  int part(int p, int what) {
    if (told == null || none(p, told.parts) || what < 0 || what > 5) {
      return no(1);
    }
    Part part = told.parts.get(p);
    int kind = Arrays.asList("plain", "beard", "puppet", "dead").indexOf(part.kind);
    return ok(new int[] {kind, part.coat, part.don, part.doff, part.beard, eve.cast.get(p)}[what]);
  }

  int on(int k, int what) {
    if (told == null || none(k, told.ons) || what < 0 || what > 5) {
      return no(1);
    }
    On on = told.ons.get(k);
    return ok(new int[] {on.part, on.scene, on.behind ? 1 : 0, on.in, on.off,
        eve.cut.contains(k) ? 1 : 0}[what]);
  }

  int led(int player, int i) {
    if (noPlayer(player)) {
      throw new NoSuchElementException();
    }
    Nacht now = now();
    List<On> row = now.inTime(now.of(partsOf(player)));
    if (none(i, row)) {
      throw new NoSuchElementException();
    }
    return row.get(i).number;
  }

  int size(int what) {
    if (what == 9) {
      return tape.size();
    }
    if (what < 0 || what > 9) {
      return -1;
    }
    if (told == null) {
      return 0;
    }
    return new int[] {told.parts.size(), told.lasts.size(), told.ons.size(), told.afters.size(),
        told.saws.size(), told.players, past.size(), future.size(), images.size()}[what];
  }

  int trouble() {
    return trouble;
  }
}

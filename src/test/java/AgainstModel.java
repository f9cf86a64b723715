import java.util.ArrayList;
import java.util.Arrays;
import java.util.List;
import java.util.Random;

/** Long runs of calls, each answer compared with that of a slow model that works another way. */
public final class AgainstModel {
  private static final int RUNS = 240;
  private static final int CALLS = 511;
  private static int wrong = 0;

  public static void main(String[] args) {
    long calls = 0;
    for (int seed = 1; seed <= RUNS && wrong < 20; seed++) {
      calls += new Run(seed).play();
    }
    System.out.println(calls + " calls compared, " + wrong + " wrong");
    if (wrong != 0 || calls < RUNS * (long) CALLS) {
      System.exit(1);
    }
  }

  /** A run's kind decides how many posts it has, how dear its lines are and how often it acts. */
  private static final class Run {
    private final int seed;
    private final Random random;
    private final WaysKept kept = new WaysKept();
    private final Model model = new Model();
    private final boolean manyActs;
    private final int low;
    private final int high;
    private final int bothOf;

    Run(int seed) {
      this.seed = seed;
      random = new Random(seed);
      manyActs = seed % 4 == 0;
      int kind = seed % 5;
      low = new int[] {-3, 0, -50, 1, -8}[kind];
      high = new int[] {6, 3, 99, 2, 20}[kind];
      bothOf = 1 + random.nextInt(6);
    }

    long play() {
      int n = manyActs ? 2 + seed % 3 : 2 + random.nextInt(9);
      same("posts", n, kept.posts(n), model.posts(n));
      for (int i = 1; i < CALLS; i++) {
        if (random.nextInt(10) < (manyActs ? 9 : 3)) {
          act();
        } else {
          ask();
        }
      }
      return CALLS;
    }

    private void act() {
      int what = random.nextInt(200);
      if (what == 0 && !manyActs) {
        int n = random.nextInt(13);
        same("posts", n, kept.posts(n), model.posts(n));
      } else if (what < 70) {
        int a = post();
        int b = post();
        int price = price();
        boolean both = random.nextInt(bothOf) == 0;
        same("line " + a + " " + b + " " + both, price, kept.line(a, b, price, both), model.line(a, b, price, both));
      } else if (what < 140) {
        int line = line();
        int price = price();
        same("price " + line, price, kept.price(line, price), model.price(line, price));
      } else if (what < 165) {
        int line = line();
        same("cut", line, kept.cut(line), model.cut(line));
      } else {
        int line = line();
        same("back", line, kept.back(line), model.back(line));
      }
    }

    private void ask() {
      int a = post();
      int b = post();
      int line = line();
      int i = random.nextInt(14) - 1;
      int act = random.nextInt(20) == 0 ? random.nextInt(500) - 20 : random.nextInt(model.acts() + 2);
      String pair = a + " " + b;
      switch (random.nextInt(19)) {
        case 0: same("told " + line, i, kept.told(line, i), model.told(line, i)); break;
        case 1: same("far", a * 100 + b, kept.far(a, b), model.far(a, b)); break;
        case 2: same("steps", a * 100 + b, kept.steps(a, b), model.steps(a, b)); break;
        case 3:
          for (int k = -1; k < 11; k++) {
            same("way " + pair, k, kept.way(a, b, k), model.way(a, b, k));
          }
          break;
        case 4: same("without " + pair, line, kept.without(a, b, line), model.without(a, b, line)); break;
        case 5:
          for (int k = -1; k < 4; k++) {
            same("vital " + pair, k, kept.vital(a, b, k), model.vital(a, b, k));
          }
          break;
        case 6:
          int post = post();
          same("about " + pair, post, kept.about(a, b, post), model.about(a, b, post));
          break;
        case 7: same("ring", 0, kept.ring(), model.ring()); break;
        case 8: same("height", a, kept.height(a), model.height(a)); break;
        case 9: same("acts", 0, kept.acts(), model.acts()); break;
        case 10: same("moved", act, kept.moved(act), model.moved(act)); break;
        case 11:
          for (int k = -1; k < 92; k += 1 + k / 5) {
            same("pair " + act, k, kept.pair(act, k), model.pair(act, k));
          }
          break;
        case 12: same("then " + pair, act, kept.then(act, a, b), model.then(act, a, b)); break;
        case 13:
          int price = random.nextInt(12) == 0 ? -1003 + random.nextInt(2010) : price() * 2;
          same("since " + pair + " " + price, act, kept.since(act, a, b, price), model.since(act, a, b, price));
          break;
        case 14:
          int set = random.nextInt(1 << random.nextInt(12)) - random.nextInt(2) * random.nextInt(2);
          same("marks", set, kept.marks(set), model.marks(set));
          break;
        case 15: same("near", a * 100 + b, kept.near(a, b), model.near(a, b)); break;
        case 16: same("worst", 0, kept.worst(), model.worst()); break;
        case 17:
          int k = random.nextInt(3) == 0 ? i : 1 + random.nextInt(4);
          same("hits", k, kept.hits(k), model.hits(k));
          break;
        default: same("count", i, kept.count(i), model.count(i)); break;
      }
    }

    private int post() {
      return random.nextInt(40) == 0 ? random.nextInt(14) - 2 : random.nextInt(model.n);
    }

    private int line() {
      return random.nextInt(30) == 0 ? random.nextInt(44) - 2 : random.nextInt(model.lines.size() + 1);
    }

    private int price() {
      return random.nextInt(30) == 0 ? random.nextInt(160) - 55 : low + random.nextInt(high - low + 1);
    }

    private void same(String call, int last, int got, int want) {
      if (got != want) {
        wrong++;
        System.out.println("seed " + seed + ": " + call + " " + last + " answered " + got + ", due is " + want);
      }
    }
  }

  private static final class Line {
    int from;
    int to;
    int price;
    boolean both;
    boolean there = true;
  }

  /** The best row of a given number of lines. */
  private static final class Best {
    final int price;
    final int[] lines;

    Best(int price, int[] lines) {
      this.price = price;
      this.lines = lines;
    }

    boolean beats(Best other) {
      return other == null || price < other.price
          || price == other.price && Arrays.compare(lines, other.lines) < 0;
    }

    Best and(int line, int more) {
      int[] longer = Arrays.copyOf(lines, lines.length + 1);
      longer[lines.length] = line;
      return new Best(price + more, longer);
    }
  }

  /** Ways by their number of lines: the best rows of k lines are made of the best of k - 1. */
  private static final class Model {
    int n = 2;
    final List<Line> lines = new ArrayList<>();
    private final List<int[][]> past = new ArrayList<>();
    private Best[][] now;
    private int marks;

    Model() {
      past.add(fars());
    }

    int posts(int posts) {
      if (posts < 2 || posts > 10) {
        return WaysKept.BAD;
      }
      int was = n;
      n = posts;
      lines.clear();
      past.clear();
      marks = 0;
      now = null;
      past.add(fars());
      return was;
    }

    int line(int a, int b, int price, boolean both) {
      if (!post(a) || !post(b)) {
        return WaysKept.UNKNOWN;
      }
      if (price > 99 || price < (both ? 0 : -50)) {
        return WaysKept.BAD;
      }
      if (a == b) {
        return WaysKept.STATE;
      }
      Line line = new Line();
      line.from = a;
      line.to = b;
      line.price = price;
      line.both = both;
      lines.add(line);
      int refused = belowNought() ? WaysKept.STATE : lines.size() > 40 || acts() >= 400 ? WaysKept.FULL : 0;
      if (refused != 0) {
        lines.remove(lines.size() - 1);
        return refused;
      }
      act();
      return lines.size() - 1;
    }

    int price(int number, int price) {
      if (number < 0 || number >= lines.size()) {
        return WaysKept.UNKNOWN;
      }
      Line line = lines.get(number);
      if (price > 99 || price < (line.both ? 0 : -50)) {
        return WaysKept.BAD;
      }
      int was = line.price;
      if (was == price) {
        return was;
      }
      line.price = price;
      int refused = belowNought() ? WaysKept.STATE : acts() >= 400 ? WaysKept.FULL : 0;
      if (refused != 0) {
        line.price = was;
        return refused;
      }
      act();
      return was;
    }

    int cut(int number) {
      if (number < 0 || number >= lines.size()) {
        return WaysKept.UNKNOWN;
      }
      if (!lines.get(number).there) {
        return WaysKept.STATE;
      }
      if (acts() >= 400) {
        return WaysKept.FULL;
      }
      lines.get(number).there = false;
      act();
      return count(2);
    }

    int back(int number) {
      if (number < 0 || number >= lines.size()) {
        return WaysKept.UNKNOWN;
      }
      Line line = lines.get(number);
      if (line.there) {
        return WaysKept.STATE;
      }
      line.there = true;
      int refused = belowNought() ? WaysKept.STATE : acts() >= 400 ? WaysKept.FULL : 0;
      if (refused != 0) {
        line.there = false;
        return refused;
      }
      act();
      return count(2);
    }

    int told(int number, int what) {
      if (number < 0 || number >= lines.size()) {
        return WaysKept.UNKNOWN;
      }
      Line line = lines.get(number);
      int there = line.there ? 1 : 0;
      int over = height(line.from) - height(line.to);
      int lifted = line.there ? line.price + (line.both ? -Math.abs(over) : over) : WaysKept.NONE;
      int[] answers = {line.from, line.to, line.price, line.both ? 1 : 0, there, lifted};
      return what < 0 || what > 5 ? WaysKept.BAD : answers[what];
    }

    int far(int a, int b) {
      return !post(a) || !post(b) ? WaysKept.UNKNOWN : price(ways()[a][b]);
    }

    int steps(int a, int b) {
      if (!post(a) || !post(b)) {
        return WaysKept.UNKNOWN;
      }
      return ways()[a][b] == null ? WaysKept.NONE : ways()[a][b].lines.length;
    }

    int way(int a, int b, int i) {
      if (!post(a) || !post(b)) {
        return WaysKept.UNKNOWN;
      }
      Best way = ways()[a][b];
      return way == null || i < 0 || i >= way.lines.length ? WaysKept.NONE : way.lines[i];
    }

    int without(int a, int b, int line) {
      if (!post(a) || !post(b) || line < 0 || line >= lines.size()) {
        return WaysKept.UNKNOWN;
      }
      return price(best(a, line, -1)[b]);
    }

    int vital(int a, int b, int i) {
      if (!post(a) || !post(b)) {
        return WaysKept.UNKNOWN;
      }
      List<Integer> vital = new ArrayList<>();
      for (int line = 0; line < lines.size(); line++) {
        if (far(a, b) != WaysKept.NONE && without(a, b, line) != far(a, b)) {
          vital.add(line);
        }
      }
      return i < 0 || i >= vital.size() ? WaysKept.NONE : vital.get(i);
    }

    int about(int a, int b, int post) {
      if (!post(a) || !post(b) || !post(post)) {
        return WaysKept.UNKNOWN;
      }
      return post == a || post == b ? WaysKept.STATE : price(best(a, -1, post)[b]);
    }

    int ring() {
      int least = Integer.MAX_VALUE;
      for (int a = 0; a < n; a++) {
        Best[][] byLength = byLength(a, -1, -1);
        for (int k = 1; k <= n; k++) {
          if (byLength[k][a] != null) {
            least = Math.min(least, byLength[k][a].price);
          }
        }
      }
      return least == Integer.MAX_VALUE ? WaysKept.NONE : least;
    }

    int height(int post) {
      if (!post(post)) {
        return WaysKept.UNKNOWN;
      }
      int least = 0;
      for (int a = 0; a < n; a++) {
        if (ways()[a][post] != null) {
          least = Math.min(least, ways()[a][post].price);
        }
      }
      return least;
    }

    int acts() {
      return past.size() - 1;
    }

    int moved(int act) {
      return act < 1 || act > acts() ? WaysKept.UNKNOWN : movedBy(act).size();
    }

    int pair(int act, int i) {
      if (act < 1 || act > acts()) {
        return WaysKept.UNKNOWN;
      }
      List<Integer> moved = movedBy(act);
      return i < 0 || i >= moved.size() ? WaysKept.NONE : moved.get(i);
    }

    int then(int act, int a, int b) {
      return !post(a) || !post(b) || act < 0 || act > acts() ? WaysKept.UNKNOWN : past.get(act)[a][b];
    }

    int since(int act, int a, int b, int price) {
      if (!post(a) || !post(b) || act < 1 || act > acts()) {
        return WaysKept.UNKNOWN;
      }
      if (price < -500 || price > 1000) {
        return WaysKept.BAD;
      }
      for (int t = act; t <= acts(); t++) {
        if (then(t, a, b) != WaysKept.NONE && then(t, a, b) <= price) {
          return t;
        }
      }
      return WaysKept.NONE;
    }

    int marks(int set) {
      if ((set & -(1 << n)) != 0) {
        return WaysKept.BAD;
      }
      int was = marks;
      marks = set;
      return was;
    }

    int near(int a, int b) {
      if (!post(a) || !post(b)) {
        return WaysKept.UNKNOWN;
      }
      int least = Integer.MAX_VALUE;
      for (int m = 0; m < n; m++) {
        if ((marks & 1 << m) != 0 && ways()[a][m] != null && ways()[m][b] != null) {
          least = Math.min(least, ways()[a][m].price + ways()[m][b].price);
        }
      }
      return least == Integer.MAX_VALUE ? WaysKept.NONE : least;
    }

    int worst() {
      int worst = Integer.MIN_VALUE;
      for (int a = 0; a < n; a++) {
        for (int b = 0; b < n; b++) {
          if (ways()[a][b] != null) {
            if (near(a, b) == WaysKept.NONE) {
              return WaysKept.NONE;
            }
            worst = Math.max(worst, near(a, b) - far(a, b));
          }
        }
      }
      return worst;
    }

    int hits(int k) {
      if (k < 1 || k > 9) {
        return WaysKept.BAD;
      }
      for (int many = 0; many <= n; many++) {
        for (int set = 0; set < 1 << n; set++) {
          if (Integer.bitCount(set) == many && hit(set, k)) {
            return set;
          }
        }
      }
      return WaysKept.NONE;
    }

    int count(int what) {
      int there = 0;
      for (Line line : lines) {
        there += line.there ? 1 : 0;
      }
      int linked = 0;
      for (int a = 0; a < n; a++) {
        for (int b = 0; b < n; b++) {
          linked += a != b && ways()[a][b] != null ? 1 : 0;
        }
      }
      int[] answers = {n, lines.size(), there, linked, Integer.bitCount(marks)};
      return what < 0 || what > 4 ? WaysKept.BAD : answers[what];
    }

    private boolean hit(int set, int k) {
      for (int a = 0; a < n; a++) {
        for (int b = 0; b < n; b++) {
          Best way = ways()[a][b];
          if (a == b || way == null || way.lines.length < k) {
            continue;
          }
          boolean met = false;
          int post = a;
          for (int number : way.lines) {
            met |= post != a && (set & 1 << post) != 0;
            Line line = lines.get(number);
            post = line.from == post ? line.to : line.from;
          }
          if (!met) {
            return false;
          }
        }
      }
      return true;
    }

    private boolean post(int post) {
      return post >= 0 && post < n;
    }

    private void act() {
      now = null;
      past.add(fars());
    }

    private int[][] fars() {
      int[][] fars = new int[n][n];
      for (int a = 0; a < n; a++) {
        for (int b = 0; b < n; b++) {
          fars[a][b] = price(ways()[a][b]);
        }
      }
      return fars;
    }

    private List<Integer> movedBy(int act) {
      List<Integer> moved = new ArrayList<>();
      for (int a = 0; a < n; a++) {
        for (int b = 0; b < n; b++) {
          if (past.get(act)[a][b] != past.get(act - 1)[a][b]) {
            moved.add(10 * a + b);
          }
        }
      }
      return moved;
    }

    private boolean belowNought() {
      int least = ring();
      return least != WaysKept.NONE && least < 0;
    }

    private static int price(Best way) {
      return way == null ? WaysKept.NONE : way.price;
    }

    private Best[][] ways() {
      if (now == null) {
        now = new Best[n][];
        for (int a = 0; a < n; a++) {
          now[a] = best(a, -1, -1);
        }
      }
      return now;
    }

    private Best[] best(int a, int withoutLine, int withoutPost) {
      Best[][] byLength = byLength(a, withoutLine, withoutPost);
      Best[] best = new Best[n];
      for (int k = 0; k < n; k++) {
        for (int b = 0; b < n; b++) {
          Best found = byLength[k][b];
          if (found != null && (best[b] == null || found.price < best[b].price)) {
            best[b] = found;
          }
        }
      }
      return best;
    }

    private Best[][] byLength(int a, int withoutLine, int withoutPost) {
      Best[][] best = new Best[n + 1][n];
      best[0][a] = new Best(0, new int[0]);
      for (int k = 1; k <= n; k++) {
        for (int number = 0; number < lines.size(); number++) {
          Line line = lines.get(number);
          if (line.there && number != withoutLine && line.from != withoutPost && line.to != withoutPost) {
            lead(best, k, number, line.from, line.to);
            if (line.both) {
              lead(best, k, number, line.to, line.from);
            }
          }
        }
      }
      return best;
    }

    private void lead(Best[][] best, int k, int number, int from, int to) {
      if (best[k - 1][from] != null) {
        Best found = best[k - 1][from].and(number, lines.get(number).price);
        if (found.beats(best[k][to])) {
          best[k][to] = found;
        }
      }
    }
  }
}

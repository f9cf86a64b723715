import java.util.Arrays;

/** Shortest ways between a few posts, kept while lines come, go and change their price. */
public final class WaysKept {
  public static final int UNKNOWN = -1001, BAD = -1002, STATE = -1003, FULL = -1004, NONE = -1000;

  private static final int FEWEST_POSTS = 2;
  private static final int MOST_POSTS = 10;
  private static final int MOST_LINES = 40;
  private static final int MOST_ACTS = 400;
  private static final int LOWEST_PRICE = -50;
  private static final int HIGHEST_PRICE = 99;
  private static final int LOWEST_ASKED = -500;
  private static final int HIGHEST_ASKED = 1000;
  private static final int LONGEST_HIT = 9;
  private static final int PAIRS = MOST_POSTS * MOST_POSTS;
  private static final int NO_SUCH = -1;

  private final Net net;
  private final Ways ways;
  private final Past past;
  private final Hitting hitting;
  private int marked;

  public WaysKept() {
    net = new Net();
    ways = new Ways(net);
    past = new Past();
    hitting = new Hitting();
    restart(FEWEST_POSTS);
  }

  // ---- lines

  public int posts(int n) {
    if (n < FEWEST_POSTS || n > MOST_POSTS) {
      return BAD;
    }
    int was = net.posts;
    restart(n);
    return was;
  }

  public int line(int a, int b, int price, boolean both) {
    if (!net.hasPosts(a, b)) {
      return UNKNOWN;
    }
    if (!mayCost(price, both)) {
      return BAD;
    }
    if (a == b || ways.wouldSink(a, b, price, both, NO_SUCH)) {
      return STATE;
    }
    if (net.lines >= MOST_LINES || past.isFull()) {
      return FULL;
    }
    int line = net.add(a, b, price, both);
    keepAct();
    return line;
  }

  public int price(int line, int price) {
    if (!net.hasLine(line)) {
      return UNKNOWN;
    }
    if (!mayCost(price, net.bothWays[line])) {
      return BAD;
    }
    int was = net.prices[line];
    // No act, so it takes no room: also when there were as many acts as may be.
    if (price == was) {
      return was;
    }
    if (net.there[line] && wouldSinkAt(line, price)) {
      return STATE;
    }
    if (past.isFull()) {
      return FULL;
    }
    net.prices[line] = price;
    keepAct();
    return was;
  }

  public int cut(int line) {
    if (!net.hasLine(line)) {
      return UNKNOWN;
    }
    if (!net.there[line]) {
      return STATE;
    }
    if (past.isFull()) {
      return FULL;
    }
    net.there[line] = false;
    keepAct();
    return net.countThere();
  }

  public int back(int line) {
    if (!net.hasLine(line)) {
      return UNKNOWN;
    }
    if (net.there[line] || wouldSinkAt(line, net.prices[line])) {
      return STATE;
    }
    if (past.isFull()) {
      return FULL;
    }
    net.there[line] = true;
    keepAct();
    return net.countThere();
  }

  public int told(int line, int what) {
    if (!net.hasLine(line)) {
      return UNKNOWN;
    }
    switch (what) {
      case 0:
        return net.begins[line];
      case 1:
        return net.ends[line];
      case 2:
        return net.prices[line];
      case 3:
        return asNumber(net.bothWays[line]);
      case 4:
        return asNumber(net.there[line]);
      case 5:
        return net.there[line] ? ways.lifted(line) : NONE;
      default:
        return BAD;
    }
  }

  // ---- ways

  public int far(int a, int b) {
    return net.hasPosts(a, b) ? ways.leastPrice(a, b) : UNKNOWN;
  }

  public int steps(int a, int b) {
    return net.hasPosts(a, b) ? ways.length(a, b) : UNKNOWN;
  }

  public int way(int a, int b, int i) {
    return net.hasPosts(a, b) ? ways.lineAt(a, b, i) : UNKNOWN;
  }

  public int without(int a, int b, int line) {
    if (!net.hasPosts(a, b) || !net.hasLine(line)) {
      return UNKNOWN;
    }
    return ways.leastAvoiding(a, b, line, NO_SUCH);
  }

  public int vital(int a, int b, int i) {
    if (!net.hasPosts(a, b)) {
      return UNKNOWN;
    }
    int met = 0;
    for (int line = 0; line < net.lines; line++) {
      if (ways.isVital(a, b, line)) {
        if (met == i) {
          return line;
        }
        met++;
      }
    }
    return NONE;
  }

  public int about(int a, int b, int post) {
    if (!net.hasPosts(a, b) || !net.hasPost(post)) {
      return UNKNOWN;
    }
    if (post == a || post == b) {
      return STATE;
    }
    return ways.leastAvoiding(a, b, NO_SUCH, post);
  }

  public int ring() {
    return ways.leastRing();
  }

  public int height(int post) {
    return net.hasPost(post) ? ways.heightOf(post) : UNKNOWN;
  }

  // ---- acts

  public int acts() {
    return past.countActs();
  }

  public int moved(int act) {
    return past.hasAct(act) ? past.countMoved(act) : UNKNOWN;
  }

  public int pair(int act, int i) {
    return past.hasAct(act) ? past.movedPair(act, i) : UNKNOWN;
  }

  public int then(int act, int a, int b) {
    if (!net.hasPosts(a, b) || act != 0 && !past.hasAct(act)) {
      return UNKNOWN;
    }
    return past.leastAsOf(act, pairOf(a, b));
  }

  public int since(int act, int a, int b, int price) {
    if (!net.hasPosts(a, b) || !past.hasAct(act)) {
      return UNKNOWN;
    }
    if (price < LOWEST_ASKED || price > HIGHEST_ASKED) {
      return BAD;
    }
    return past.firstWithin(act, pairOf(a, b), price);
  }

  // ---- marks

  public int marks(int set) {
    if (set < 0 || set >= 1 << net.posts) {
      return BAD;
    }
    int was = marked;
    marked = set;
    return was;
  }

  public int near(int a, int b) {
    return net.hasPosts(a, b) ? ways.leastThrough(a, b, marked) : UNKNOWN;
  }

  public int worst() {
    int most = 0;
    for (int a = 0; a < net.posts; a++) {
      for (int b = 0; b < net.posts; b++) {
        if (ways.leads(a, b)) {
          int through = ways.leastThrough(a, b, marked);
          if (through == NONE) {
            return NONE;
          }
          most = Math.max(most, through - ways.leastPrice(a, b));
        }
      }
    }
    return most;
  }

  public int hits(int k) {
    if (k < 1 || k > LONGEST_HIT) {
      return BAD;
    }
    hitting.askFor(ways, net.posts, k);
    return hitting.fewest(net.posts);
  }

  public int count(int what) {
    switch (what) {
      case 0:
        return net.posts;
      case 1:
        return net.lines;
      case 2:
        return net.countThere();
      case 3:
        return ways.countLinked();
      case 4:
        return Integer.bitCount(marked);
      default:
        return BAD;
    }
  }

  private void restart(int n) {
    net.clear(n);
    past.clear();
    marked = 0;
    keepAct();
  }

  /** Every change comes through here, so that the ways and the past never lag behind the lines. */
  private void keepAct() {
    ways.measure();
    past.keep(ways);
  }

  private boolean wouldSinkAt(int line, int price) {
    return ways.wouldSink(net.begins[line], net.ends[line], price, net.bothWays[line], line);
  }

  private static boolean mayCost(int price, boolean both) {
    return price >= (both ? 0 : LOWEST_PRICE) && price <= HIGHEST_PRICE;
  }

  private static int asNumber(boolean yes) {
    return yes ? 1 : 0;
  }

  /** Pairs by number stand in the order that moved pairs are told in, and the number is the answer. */
  private static int pairOf(int a, int b) {
    return a * MOST_POSTS + b;
  }

  /** The posts, and the lines between them. */
  private static final class Net {
    private final int[] begins = new int[MOST_LINES];
    private final int[] ends = new int[MOST_LINES];
    private final int[] prices = new int[MOST_LINES];
    private final boolean[] bothWays = new boolean[MOST_LINES];
    private final boolean[] there = new boolean[MOST_LINES];
    private int posts;
    private int lines;

    void clear(int n) {
      posts = n;
      lines = 0;
    }

    boolean hasPost(int post) {
      return post >= 0 && post < posts;
    }

    boolean hasPosts(int a, int b) {
      return hasPost(a) && hasPost(b);
    }

    boolean hasLine(int line) {
      return line >= 0 && line < lines;
    }

    int add(int a, int b, int price, boolean both) {
      int line = lines;
      if (line >= MOST_LINES) {
        return FULL;
      }
      begins[line] = a;
      ends[line] = b;
      prices[line] = price;
      bothWays[line] = both;
      there[line] = true;
      lines++;
      return line;
    }

    int countThere() {
      int met = 0;
      for (int line = 0; line < lines; line++) {
        if (there[line]) {
          met++;
        }
      }
      return met;
    }

    /** The post that a line leads to from a post, if it is there and leads from it. */
    int target(int line, int post) {
      if (!hasLine(line) || !there[line]) {
        return NO_SUCH;
      }
      if (begins[line] == post) {
        return ends[line];
      }
      return bothWays[line] && ends[line] == post ? begins[line] : NO_SUCH;
    }

    boolean touches(int line, int post) {
      return begins[line] == post || ends[line] == post;
    }
  }

  /**
   * The shortest ways over the lines that are there.
   *
   * <p>A cost holds a way's price and, below it, how many lines it has, so that comparing costs
   * compares prices first and lines next. As no ring is below 0, each ring costs something: the
   * cheapest way meets no post twice, and sums along it end.
   */
  private static final class Ways {
    private static final int STEP = 64;
    private static final int NOWHERE = 1 << 30;

    private final Net net;
    private final int[] costs = new int[PAIRS];
    private final int[] reached = new int[MOST_POSTS];

    Ways(Net net) {
      this.net = net;
    }

    void measure() {
      Arrays.fill(costs, NOWHERE);
      for (int a = 0; a < net.posts; a++) {
        spread(a, NO_SUCH, NO_SUCH);
        System.arraycopy(reached, 0, costs, pairOf(a, 0), MOST_POSTS);
      }
    }

    boolean leads(int a, int b) {
      return costs[pairOf(a, b)] != NOWHERE;
    }

    int leastPrice(int a, int b) {
      return priceIn(costs[pairOf(a, b)]);
    }

    int length(int a, int b) {
      int cost = costs[pairOf(a, b)];
      return cost == NOWHERE ? NONE : Math.floorMod(cost, STEP);
    }

    int lineAt(int a, int b, int i) {
      if (i < 0 || i >= length(a, b)) {
        return NONE;
      }
      int post = a;
      for (int gone = 0; gone < i; gone++) {
        post = net.target(lineToward(post, b), post);
      }
      return lineToward(post, b);
    }

    /** The posts on the way from a to b, but for its ends, as bits. */
    int between(int a, int b) {
      int set = 0;
      int post = a;
      for (int gone = 1; gone < length(a, b); gone++) {
        post = net.target(lineToward(post, b), post);
        if (post != NO_SUCH) {
          set |= 1 << post;
        }
      }
      return set;
    }

    int leastAvoiding(int a, int b, int line, int post) {
      spread(a, line, post);
      return priceIn(reached[b]);
    }

    boolean isVital(int a, int b, int line) {
      // Without a line that is not on the way, the way itself is still as short.
      return isOnWay(a, b, line) && leastAvoiding(a, b, line, NO_SUCH) != leastPrice(a, b);
    }

    /** Whether a line at such a price would close a ring below 0 (as a number NO_SUCH: a new one). */
    boolean wouldSink(int a, int b, int price, boolean both, int line) {
      return closesBelow(price, leastAvoiding(b, a, line, NO_SUCH))
          || both && closesBelow(price, leastAvoiding(a, b, line, NO_SUCH));
    }

    int leastRing() {
      int least = NONE;
      for (int line = 0; line < net.lines; line++) {
        int found = ringOver(line);
        if (found != NONE && (least == NONE || found < least)) {
          least = found;
        }
      }
      return least;
    }

    int heightOf(int post) {
      int least = 0;
      for (int a = 0; a < net.posts; a++) {
        if (leads(a, post)) {
          least = Math.min(least, leastPrice(a, post));
        }
      }
      return least;
    }

    int lifted(int line) {
      int price = net.prices[line];
      int fall = heightOf(net.begins[line]) - heightOf(net.ends[line]);
      return net.bothWays[line] ? Math.min(price + fall, price - fall) : price + fall;
    }

    int leastThrough(int a, int b, int set) {
      int least = NONE;
      for (int post = 0; post < net.posts; post++) {
        if ((set >> post & 1) != 0 && leads(a, post) && leads(post, b)) {
          int found = leastPrice(a, post) + leastPrice(post, b);
          least = least == NONE ? found : Math.min(least, found);
        }
      }
      return least;
    }

    int countLinked() {
      int met = 0;
      for (int a = 0; a < net.posts; a++) {
        for (int b = 0; b < net.posts; b++) {
          if (a != b && leads(a, b)) {
            met++;
          }
        }
      }
      return met;
    }

    /** Fills what each post costs from a post, without a line and without the lines at a post. */
    private void spread(int a, int line, int post) {
      Arrays.fill(reached, NOWHERE);
      reached[a] = 0;
      boolean news = true;
      for (int round = 0; news && round < net.posts; round++) {
        news = false;
        for (int next = 0; next < net.lines; next++) {
          if (net.there[next] && next != line && !net.touches(next, post) && relax(next)) {
            news = true;
          }
        }
      }
    }

    private boolean relax(int line) {
      int cost = costOf(line);
      int begin = net.begins[line];
      int end = net.ends[line];
      boolean news = lower(begin, end, cost);
      return net.bothWays[line] && lower(end, begin, cost) || news;
    }

    private boolean lower(int from, int to, int cost) {
      if (reached[from] == NOWHERE || reached[from] + cost >= reached[to]) {
        return false;
      }
      reached[to] = reached[from] + cost;
      return true;
    }

    /** Of like ways the first by numbers: so at each post the first line that keeps the cost. */
    private int lineToward(int post, int b) {
      if (!net.hasPost(post) || !leads(post, b)) {
        return NO_SUCH;
      }
      int left = costs[pairOf(post, b)];
      for (int line = 0; line < net.lines; line++) {
        int next = net.target(line, post);
        if (next != NO_SUCH && leads(next, b) && costOf(line) + costs[pairOf(next, b)] == left) {
          return line;
        }
      }
      return NO_SUCH;
    }

    private boolean isOnWay(int a, int b, int line) {
      for (int i = 0; i < length(a, b); i++) {
        if (lineAt(a, b, i) == line) {
          return true;
        }
      }
      return false;
    }

    private int ringOver(int line) {
      if (!net.there[line]) {
        return NONE;
      }
      int price = net.prices[line];
      if (net.bothWays[line]) {
        return price + Math.min(leastPrice(net.begins[line], net.ends[line]),
            leastPrice(net.ends[line], net.begins[line]));
      }
      int home = leastPrice(net.ends[line], net.begins[line]);
      return home == NONE ? NONE : price + home;
    }

    private int costOf(int line) {
      return net.prices[line] * STEP + 1;
    }

    private static boolean closesBelow(int price, int home) {
      return home != NONE && price + home < 0;
    }

    private static int priceIn(int cost) {
      return cost == NOWHERE ? NONE : Math.floorDiv(cost, STEP);
    }
  }

  /** How far it was as of each act; the first is act 0. */
  private static final class Past {
    private static final int MOST_KEPT = MOST_ACTS + 1;

    private final Fars[] asOf = new Fars[MOST_KEPT];
    private int kept;

    void clear() {
      kept = 0;
    }

    int countActs() {
      return kept - 1;
    }

    boolean isFull() {
      return kept >= MOST_KEPT;
    }

    boolean hasAct(int act) {
      return act >= 1 && act < kept;
    }

    void keep(Ways ways) {
      if (isFull()) {
        return;
      }
      // Made at the act that needs it and used again behind posts: most objects see few acts.
      Fars fars = asOf[kept];
      if (fars == null) {
        fars = new Fars();
        asOf[kept] = fars;
      }
      fars.take(ways);
      kept++;
    }

    int leastAsOf(int act, int pair) {
      Fars fars = asOf[act];
      return fars == null ? NONE : fars.least[pair];
    }

    int countMoved(int act) {
      int met = 0;
      for (int pair = 0; pair < PAIRS; pair++) {
        if (isMoved(act, pair)) {
          met++;
        }
      }
      return met;
    }

    int movedPair(int act, int i) {
      int met = 0;
      for (int pair = 0; pair < PAIRS; pair++) {
        if (isMoved(act, pair)) {
          if (met == i) {
            return pair;
          }
          met++;
        }
      }
      return NONE;
    }

    int firstWithin(int act, int pair, int price) {
      for (int later = act; later < kept; later++) {
        int least = leastAsOf(later, pair);
        if (least != NONE && least <= price) {
          return later;
        }
      }
      return NONE;
    }

    private boolean isMoved(int act, int pair) {
      return leastAsOf(act, pair) != leastAsOf(act - 1, pair);
    }
  }

  /** How far it was between all posts at one time. */
  private static final class Fars {
    private final int[] least = new int[PAIRS];

    void take(Ways ways) {
      for (int pair = 0; pair < PAIRS; pair++) {
        least[pair] = ways.leastPrice(pair / MOST_POSTS, pair % MOST_POSTS);
      }
    }
  }

  /** The search for the fewest posts that hit all long ways. */
  private static final class Hitting {
    private final int[] asked = new int[PAIRS];
    private int size;

    /** Gathers, for each way of k lines or more, the posts of which one is asked for. */
    void askFor(Ways ways, int posts, int k) {
      size = 0;
      for (int a = 0; a < posts; a++) {
        for (int b = 0; b < posts; b++) {
          if (a != b && ways.length(a, b) >= k) {
            asked[size] = ways.between(a, b);
            size++;
          }
        }
      }
    }

    int fewest(int posts) {
      int best = NONE;
      int least = posts + 1;
      for (int set = 0; set < 1 << posts; set++) {
        int many = Integer.bitCount(set);
        if (many < least && meetsAll(set)) {
          best = set;
          least = many;
        }
      }
      return best;
    }

    private boolean meetsAll(int set) {
      for (int i = 0; i < size; i++) {
        if ((asked[i] & set) == 0) {
          return false;
        }
      }
      return true;
    }
  }
}

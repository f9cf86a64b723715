/** For each promise: ordinary inputs, the edges that the document names, and wrong inputs. */
public final class PromiseTests {
  private static final int UNKNOWN = -1001;
  private static final int BAD = -1002;
  private static final int STATE = -1003;
  private static final int FULL = -1004;
  private static final int NONE = -1000;
  private static final int[] NO_POSTS = {-1, 4, 10, Integer.MIN_VALUE, Integer.MAX_VALUE};
  private static int wrong = 0;
  private static int asked = 0;
  private static int promise = 0;

  public static void main(String[] args) {
    constants();
    aNewObject();
    posts();
    line();
    lineRefused();
    lineFull();
    price();
    priceRefused();
    cut();
    back();
    actsFull();
    told();
    lifted();
    far();
    farEnds();
    steps();
    way();
    likeWays();
    without();
    vital();
    about();
    ring();
    height();
    acts();
    moved();
    pair();
    then();
    since();
    marks();
    near();
    worst();
    hits();
    hitsEnds();
    count();
    refusedChangesNothing();
    System.out.println(asked + " answers looked at, " + wrong + " wrong");
    if (wrong != 0) {
      System.exit(1);
    }
  }

  private static void due(String call, int got, int want) {
    asked++;
    if (got != want) {
      wrong++;
      System.out.println("promise " + promise + ": " + call + " answered " + got + ", due is " + want);
    }
  }

  private static WaysKept withPosts(int n) {
    WaysKept kept = new WaysKept();
    kept.posts(n);
    return kept;
  }

  /** Posts 0 .. 3: 0-1 at 5 (line 0), 1-2 at -3 (1), 2-3 both ways at 4 (2), 0-2 at 2 (3), 2-0 at -2 (4). */
  private static WaysKept four() {
    WaysKept kept = withPosts(4);
    kept.line(0, 1, 5, false);
    kept.line(1, 2, -3, false);
    kept.line(2, 3, 4, true);
    kept.line(0, 2, 2, false);
    kept.line(2, 0, -2, false);
    return kept;
  }

  /** Posts 0 .. n - 1 in a row, each line both ways at 1. */
  private static WaysKept row(int n) {
    WaysKept kept = withPosts(n);
    for (int post = 1; post < n; post++) {
      kept.line(post - 1, post, 1, true);
    }
    return kept;
  }

  /** As many acts as may be: line 0 from 0 to 1 and line 1 back, which is not there. */
  private static WaysKept worn() {
    WaysKept kept = new WaysKept();
    kept.line(0, 1, 6, false);
    kept.line(1, 0, 5, false);
    kept.cut(1);
    for (int act = 4; act <= 400; act++) {
      kept.price(0, 5 + act % 2);
    }
    return kept;
  }

  private static void constants() {
    promise = 0;
    due("UNKNOWN", WaysKept.UNKNOWN, UNKNOWN);
    due("BAD", WaysKept.BAD, BAD);
    due("STATE", WaysKept.STATE, STATE);
    due("FULL", WaysKept.FULL, FULL);
    due("NONE", WaysKept.NONE, NONE);
  }

  private static void aNewObject() {
    promise = 1;
    WaysKept kept = new WaysKept();
    due("count(0)", kept.count(0), 2);
    due("count(1)", kept.count(1), 0);
    due("count(2)", kept.count(2), 0);
    due("count(3)", kept.count(3), 0);
    due("count(4)", kept.count(4), 0);
    due("acts()", kept.acts(), 0);
    due("far(0, 1)", kept.far(0, 1), NONE);
    due("far(1, 1)", kept.far(1, 1), 0);
    due("far(0, 2)", kept.far(0, 2), UNKNOWN);
    due("then(0, 0, 1)", kept.then(0, 0, 1), NONE);
    due("then(0, 1, 1)", kept.then(0, 1, 1), 0);
    due("ring()", kept.ring(), NONE);
    due("hits(1)", kept.hits(1), 0);
    WaysKept other = new WaysKept();
    kept.line(0, 1, 7, false);
    due("count(1) of another", other.count(1), 0);
  }

  private static void posts() {
    promise = 2;
    WaysKept kept = new WaysKept();
    due("posts(10)", kept.posts(10), 2);
    due("posts(1)", kept.posts(1), BAD);
    due("posts(11)", kept.posts(11), BAD);
    due("posts(0)", kept.posts(0), BAD);
    due("posts(-2)", kept.posts(-2), BAD);
    due("posts(MIN)", kept.posts(Integer.MIN_VALUE), BAD);
    due("posts(MAX)", kept.posts(Integer.MAX_VALUE), BAD);
    due("count(0)", kept.count(0), 10);
    kept.line(0, 9, 1, true);
    kept.line(9, 8, 1, true);
    kept.marks(1023);
    due("posts(1)", kept.posts(1), BAD);
    due("count(1)", kept.count(1), 2);
    due("posts(10)", kept.posts(10), 10);
    due("count(1)", kept.count(1), 0);
    due("count(2)", kept.count(2), 0);
    due("count(3)", kept.count(3), 0);
    due("count(4)", kept.count(4), 0);
    due("acts()", kept.acts(), 0);
    due("moved(1)", kept.moved(1), UNKNOWN);
    due("far(0, 9)", kept.far(0, 9), NONE);
    due("then(0, 0, 9)", kept.then(0, 0, 9), NONE);
    due("told(0, 0)", kept.told(0, 0), UNKNOWN);
    due("line(1, 2, 3, false)", kept.line(1, 2, 3, false), 0);
    due("told(0, 3)", kept.told(0, 3), 0);
    due("moved(1)", kept.moved(1), 1);
    due("pair(1, 0)", kept.pair(1, 0), 12);
    due("posts(2)", kept.posts(2), 10);
    due("far(1, 2)", kept.far(1, 2), UNKNOWN);
    due("posts(2)", kept.posts(2), 2);
  }

  private static void line() {
    promise = 3;
    WaysKept kept = withPosts(4);
    due("line(0, 1, 99, false)", kept.line(0, 1, 99, false), 0);
    due("line(1, 2, 0, true)", kept.line(1, 2, 0, true), 1);
    due("line(1, 2, 99, true)", kept.line(1, 2, 99, true), 2);
    due("line(2, 3, -50, false)", kept.line(2, 3, -50, false), 3);
    due("far(0, 3)", kept.far(0, 3), 49);
    due("far(3, 2)", kept.far(3, 2), NONE);
    due("count(2)", kept.count(2), 4);
    due("acts()", kept.acts(), 4);
    due("told(3, 4)", kept.told(3, 4), 1);
  }

  private static void lineRefused() {
    promise = 3;
    WaysKept kept = withPosts(4);
    for (int post : NO_POSTS) {
      due("line(" + post + ", 1, 100, false)", kept.line(post, 1, 100, false), UNKNOWN);
      due("line(1, " + post + ", 100, true)", kept.line(1, post, 100, true), UNKNOWN);
      due("line(" + post + ", " + post + ", 1, true)", kept.line(post, post, 1, true), UNKNOWN);
    }
    due("line(1, 1, 100, false)", kept.line(1, 1, 100, false), BAD);
    due("line(0, 1, -51, false)", kept.line(0, 1, -51, false), BAD);
    due("line(0, 1, -1, true)", kept.line(0, 1, -1, true), BAD);
    due("line(0, 1, 100, true)", kept.line(0, 1, 100, true), BAD);
    due("line(0, 1, MIN, false)", kept.line(0, 1, Integer.MIN_VALUE, false), BAD);
    due("line(0, 1, MAX, false)", kept.line(0, 1, Integer.MAX_VALUE, false), BAD);
    due("line(1, 1, 1, false)", kept.line(1, 1, 1, false), STATE);
    due("count(1)", kept.count(1), 0);
    kept.line(0, 1, -10, false);
    kept.line(1, 2, -10, false);
    due("line(2, 0, 19, false)", kept.line(2, 0, 19, false), STATE);
    due("line(2, 0, 19, true)", kept.line(2, 0, 19, true), STATE);
    due("line(0, 2, 19, true)", kept.line(0, 2, 19, true), STATE);
    due("line(1, 0, 9, false)", kept.line(1, 0, 9, false), STATE);
    due("line(0, 2, 19, false)", kept.line(0, 2, 19, false), 2);
    due("line(2, 0, 20, false)", kept.line(2, 0, 20, false), 3);
    due("acts()", kept.acts(), 4);
    due("ring()", kept.ring(), 0);
  }

  private static void lineFull() {
    promise = 3;
    WaysKept kept = withPosts(3);
    for (int line = 0; line < 40; line++) {
      due("line(0, 1, -5, false)", kept.line(0, 1, -5, false), line);
    }
    due("line(1, 2, 1, false)", kept.line(1, 2, 1, false), FULL);
    due("line(1, 2, 100, false)", kept.line(1, 2, 100, false), BAD);
    due("line(1, 3, 1, false)", kept.line(1, 3, 1, false), UNKNOWN);
    due("line(1, 1, 1, false)", kept.line(1, 1, 1, false), STATE);
    due("line(1, 0, 4, false)", kept.line(1, 0, 4, false), STATE);
    due("line(1, 0, 5, false)", kept.line(1, 0, 5, false), FULL);
    kept.cut(39);
    due("line(1, 2, 1, false)", kept.line(1, 2, 1, false), FULL);
    due("count(1)", kept.count(1), 40);
    due("far(1, 2)", kept.far(1, 2), NONE);
    due("acts()", kept.acts(), 41);
    due("told(39, 4)", kept.told(39, 4), 0);
    due("told(40, 4)", kept.told(40, 4), UNKNOWN);
  }

  private static void price() {
    promise = 4;
    WaysKept kept = four();
    due("price(0, 9)", kept.price(0, 9), 5);
    due("told(0, 2)", kept.told(0, 2), 9);
    due("far(3, 1)", kept.far(3, 1), 11);
    due("price(0, 9)", kept.price(0, 9), 9);
    due("acts()", kept.acts(), 6);
    due("price(0, -50)", kept.price(0, -50), STATE);
    due("price(2, 0)", kept.price(2, 0), 4);
    due("far(2, 3)", kept.far(2, 3), 0);
    due("far(3, 2)", kept.far(3, 2), 0);
    kept.cut(4);
    due("price(4, -50)", kept.price(4, -50), -2);
    due("acts()", kept.acts(), 9);
    due("moved(9)", kept.moved(9), 0);
    due("told(4, 2)", kept.told(4, 2), -50);
    due("told(4, 4)", kept.told(4, 4), 0);
    due("far(2, 0)", kept.far(2, 0), NONE);
    due("price(4, -50)", kept.price(4, -50), -50);
    due("acts()", kept.acts(), 9);
    due("price(1, 99)", kept.price(1, 99), -3);
    due("price(1, -50)", kept.price(1, -50), 99);
  }

  private static void priceRefused() {
    promise = 4;
    WaysKept kept = four();
    int[] noLines = {-1, 5, 40, Integer.MIN_VALUE, Integer.MAX_VALUE};
    for (int line : noLines) {
      due("price(" + line + ", 100)", kept.price(line, 100), UNKNOWN);
    }
    due("price(0, 100)", kept.price(0, 100), BAD);
    due("price(0, -51)", kept.price(0, -51), BAD);
    due("price(2, -1)", kept.price(2, -1), BAD);
    due("price(2, 100)", kept.price(2, 100), BAD);
    due("price(0, MIN)", kept.price(0, Integer.MIN_VALUE), BAD);
    due("price(3, 1)", kept.price(3, 1), STATE);
    due("price(1, -4)", kept.price(1, -4), STATE);
    due("told(1, 2)", kept.told(1, 2), -3);
    due("acts()", kept.acts(), 5);
    WaysKept both = withPosts(3);
    both.line(0, 1, -7, false);
    both.line(1, 2, 9, true);
    both.line(2, 0, 9, true);
    due("price(2, 0)", both.price(2, 0), 9);
    due("price(1, 6)", both.price(1, 6), STATE);
    due("price(1, 7)", both.price(1, 7), 9);
    due("ring()", both.ring(), 0);
  }

  private static void cut() {
    promise = 5;
    WaysKept kept = four();
    due("cut(2)", kept.cut(2), 4);
    due("cut(2)", kept.cut(2), STATE);
    due("cut(5)", kept.cut(5), UNKNOWN);
    due("cut(-1)", kept.cut(-1), UNKNOWN);
    due("cut(MAX)", kept.cut(Integer.MAX_VALUE), UNKNOWN);
    due("far(2, 3)", kept.far(2, 3), NONE);
    due("far(3, 2)", kept.far(3, 2), NONE);
    due("cut(0)", kept.cut(0), 3);
    due("acts()", kept.acts(), 7);
    due("count(1)", kept.count(1), 5);
    due("count(2)", kept.count(2), 3);
    due("told(2, 2)", kept.told(2, 2), 4);
  }

  private static void back() {
    promise = 6;
    WaysKept kept = four();
    due("back(0)", kept.back(0), STATE);
    due("back(5)", kept.back(5), UNKNOWN);
    due("back(-1)", kept.back(-1), UNKNOWN);
    kept.cut(0);
    kept.cut(2);
    due("back(2)", kept.back(2), 4);
    due("far(3, 2)", kept.far(3, 2), 4);
    due("back(0)", kept.back(0), 5);
    due("far(3, 1)", kept.far(3, 1), 7);
    due("acts()", kept.acts(), 9);
    kept.cut(4);
    kept.price(4, -3);
    due("back(4)", kept.back(4), STATE);
    due("told(4, 4)", kept.told(4, 4), 0);
    due("acts()", kept.acts(), 11);
    kept.price(4, -2);
    due("back(4)", kept.back(4), 5);
    due("ring()", kept.ring(), 0);
  }

  private static void actsFull() {
    promise = 4;
    WaysKept kept = worn();
    due("acts()", kept.acts(), 400);
    due("price(0, 7)", kept.price(0, 7), FULL);
    due("price(0, 5), the same", kept.price(0, 5), 5);
    due("price(1, 7)", kept.price(1, 7), FULL);
    due("price(0, 100)", kept.price(0, 100), BAD);
    due("price(2, 7)", kept.price(2, 7), UNKNOWN);
    due("told(0, 2)", kept.told(0, 2), 5);
    due("told(1, 2)", kept.told(1, 2), 5);
    promise = 3;
    due("line(0, 1, 5, false)", kept.line(0, 1, 5, false), FULL);
    due("line(0, 0, 5, false)", kept.line(0, 0, 5, false), STATE);
    due("line(1, 0, -6, false)", kept.line(1, 0, -6, false), STATE);
    due("line(0, 1, 100, false)", kept.line(0, 1, 100, false), BAD);
    due("line(0, 2, 5, false)", kept.line(0, 2, 5, false), UNKNOWN);
    promise = 5;
    due("cut(0)", kept.cut(0), FULL);
    due("cut(1)", kept.cut(1), STATE);
    due("cut(2)", kept.cut(2), UNKNOWN);
    promise = 6;
    due("back(1)", kept.back(1), FULL);
    due("back(0)", kept.back(0), STATE);
    due("back(2)", kept.back(2), UNKNOWN);
    due("told(1, 4)", kept.told(1, 4), 0);
    promise = 19;
    due("then(400, 0, 1)", kept.then(400, 0, 1), 5);
    due("then(399, 0, 1)", kept.then(399, 0, 1), 6);
    due("then(401, 0, 1)", kept.then(401, 0, 1), UNKNOWN);
    due("then(2, 1, 0)", kept.then(2, 1, 0), 5);
    due("moved(400)", kept.moved(400), 1);
    due("since(400, 0, 1, 5)", kept.since(400, 0, 1, 5), 400);
    due("since(401, 0, 1, 5)", kept.since(401, 0, 1, 5), UNKNOWN);
    promise = 2;
    due("posts(3)", kept.posts(3), 2);
    due("line(0, 1, 5, false)", kept.line(0, 1, 5, false), 0);
    due("acts()", kept.acts(), 1);
  }

  private static void told() {
    promise = 7;
    WaysKept kept = four();
    int[] first = {0, 1, 5, 0, 1, 3};
    int[] third = {2, 3, 4, 1, 1, 1};
    for (int what = 0; what < 6; what++) {
      due("told(0, " + what + ")", kept.told(0, what), what == 5 ? 5 + kept.height(0) - kept.height(1) : first[what]);
      due("told(2, " + what + ")", kept.told(2, what), third[what]);
    }
    due("told(0, 6)", kept.told(0, 6), BAD);
    due("told(0, -1)", kept.told(0, -1), BAD);
    due("told(0, MIN)", kept.told(0, Integer.MIN_VALUE), BAD);
    due("told(5, 0)", kept.told(5, 0), UNKNOWN);
    due("told(5, 6)", kept.told(5, 6), UNKNOWN);
    due("told(-1, 0)", kept.told(-1, 0), UNKNOWN);
    kept.cut(2);
    due("told(2, 4)", kept.told(2, 4), 0);
    due("told(2, 3)", kept.told(2, 3), 1);
    due("told(2, 5)", kept.told(2, 5), NONE);
    due("told(2, 6)", kept.told(2, 6), BAD);
  }

  private static void lifted() {
    promise = 7;
    WaysKept kept = withPosts(3);
    kept.line(0, 1, -10, false);
    kept.line(0, 1, -4, false);
    kept.line(1, 2, 15, true);
    kept.line(2, 1, 25, true);
    due("told(0, 5)", kept.told(0, 5), 0);
    due("told(1, 5)", kept.told(1, 5), 6);
    due("told(2, 5)", kept.told(2, 5), 5);
    due("told(3, 5)", kept.told(3, 5), 15);
    WaysKept four = four();
    for (int line = 0; line < 5; line++) {
      due("told(" + line + ", 5) is 0 at least", Math.min(0, four.told(line, 5)), 0);
    }
  }

  private static void far() {
    promise = 8;
    WaysKept kept = four();
    int[][] fars = {{0, 5, 2, 6}, {-5, 0, -3, 1}, {-2, 3, 0, 4}, {2, 7, 4, 0}};
    for (int a = 0; a < 4; a++) {
      for (int b = 0; b < 4; b++) {
        due("far(" + a + ", " + b + ")", kept.far(a, b), fars[a][b]);
      }
    }
    for (int post : NO_POSTS) {
      due("far(" + post + ", 0)", kept.far(post, 0), UNKNOWN);
      due("far(0, " + post + ")", kept.far(0, post), UNKNOWN);
    }
    kept.cut(2);
    due("far(0, 3)", kept.far(0, 3), NONE);
    due("far(3, 0)", kept.far(3, 0), NONE);
    due("far(3, 3)", kept.far(3, 3), 0);
  }

  private static void farEnds() {
    promise = 8;
    WaysKept low = withPosts(10);
    WaysKept high = withPosts(10);
    for (int post = 9; post > 0; post--) {
      low.line(post - 1, post, -50, false);
      high.line(post - 1, post, 99, false);
    }
    due("far(0, 9)", low.far(0, 9), -450);
    due("height(9)", low.height(9), -450);
    due("steps(0, 9)", low.steps(0, 9), 9);
    due("since(9, 0, 9, -450)", low.since(9, 0, 9, -450), 9);
    due("since(1, 0, 9, -451)", low.since(1, 0, 9, -451), NONE);
    due("far(0, 9)", high.far(0, 9), 891);
    due("far(9, 0)", high.far(9, 0), NONE);
    due("way(0, 9, 0)", high.way(0, 9, 0), 8);
    due("way(0, 9, 8)", high.way(0, 9, 8), 0);
  }

  private static void steps() {
    promise = 9;
    WaysKept kept = four();
    due("steps(0, 3)", kept.steps(0, 3), 2);
    due("steps(3, 1)", kept.steps(3, 1), 3);
    due("steps(1, 1)", kept.steps(1, 1), 0);
    for (int post : NO_POSTS) {
      due("steps(" + post + ", 0)", kept.steps(post, 0), UNKNOWN);
      due("steps(0, " + post + ")", kept.steps(0, post), UNKNOWN);
    }
    kept.cut(2);
    due("steps(0, 3)", kept.steps(0, 3), NONE);
    WaysKept rings = withPosts(3);
    rings.line(0, 1, -5, false);
    rings.line(1, 0, 5, false);
    rings.line(1, 2, 0, true);
    rings.line(0, 2, -5, false);
    due("steps(0, 0)", rings.steps(0, 0), 0);
    due("steps(0, 2)", rings.steps(0, 2), 1);
    due("steps(0, 1)", rings.steps(0, 1), 1);
  }

  private static void way() {
    promise = 10;
    WaysKept kept = four();
    int[] lines = {2, 4, 0, NONE};
    for (int i = 0; i < 4; i++) {
      due("way(3, 1, " + i + ")", kept.way(3, 1, i), lines[i]);
    }
    due("way(3, 1, -1)", kept.way(3, 1, -1), NONE);
    due("way(3, 1, MIN)", kept.way(3, 1, Integer.MIN_VALUE), NONE);
    due("way(3, 1, MAX)", kept.way(3, 1, Integer.MAX_VALUE), NONE);
    due("way(2, 2, 0)", kept.way(2, 2, 0), NONE);
    for (int post : NO_POSTS) {
      due("way(" + post + ", 0, 0)", kept.way(post, 0, 0), UNKNOWN);
      due("way(0, " + post + ", -1)", kept.way(0, post, -1), UNKNOWN);
    }
    kept.cut(2);
    due("way(3, 1, 0)", kept.way(3, 1, 0), NONE);
  }

  private static void likeWays() {
    promise = 10;
    WaysKept kept = withPosts(5);
    kept.line(3, 4, 1, false);
    kept.line(0, 2, 1, false);
    kept.line(0, 1, 1, false);
    kept.line(2, 3, 1, false);
    kept.line(1, 3, 1, false);
    due("way(0, 4, 0)", kept.way(0, 4, 0), 1);
    due("way(0, 4, 1)", kept.way(0, 4, 1), 3);
    due("way(0, 4, 2)", kept.way(0, 4, 2), 0);
    kept.line(1, 4, 2, false);
    due("way(0, 4, 0) of fewer lines", kept.way(0, 4, 0), 2);
    due("way(0, 4, 1) of fewer lines", kept.way(0, 4, 1), 5);
    kept.price(1, 0);
    due("way(0, 4, 0) of a lesser price", kept.way(0, 4, 0), 1);
    due("steps(0, 4)", kept.steps(0, 4), 3);
    WaysKept zero = withPosts(3);
    zero.line(0, 1, 0, true);
    zero.line(0, 1, 0, true);
    zero.line(1, 2, 0, false);
    due("way(0, 2, 0)", zero.way(0, 2, 0), 0);
    due("way(0, 2, 1)", zero.way(0, 2, 1), 2);
    due("steps(0, 2)", zero.steps(0, 2), 2);
    due("way(1, 0, 0)", zero.way(1, 0, 0), 0);
  }

  private static void without() {
    promise = 11;
    WaysKept kept = four();
    due("without(0, 3, 3)", kept.without(0, 3, 3), 6);
    due("without(0, 3, 2)", kept.without(0, 3, 2), NONE);
    due("without(0, 1, 0)", kept.without(0, 1, 0), NONE);
    due("without(1, 0, 0)", kept.without(1, 0, 0), -5);
    due("without(2, 2, 4)", kept.without(2, 2, 4), 0);
    kept.price(3, 3);
    due("without(0, 3, 0)", kept.without(0, 3, 0), 7);
    due("without(0, 3, 1)", kept.without(0, 3, 1), 7);
    due("without(0, 3, 5)", kept.without(0, 3, 5), UNKNOWN);
    due("without(0, 3, -1)", kept.without(0, 3, -1), UNKNOWN);
    for (int post : NO_POSTS) {
      due("without(" + post + ", 0, 0)", kept.without(post, 0, 0), UNKNOWN);
      due("without(0, " + post + ", 0)", kept.without(0, post, 0), UNKNOWN);
    }
    kept.cut(0);
    due("without(0, 3, 0)", kept.without(0, 3, 0), 7);
    due("far(0, 3)", kept.far(0, 3), 7);
    due("count(2)", kept.count(2), 4);
  }

  private static void vital() {
    promise = 12;
    WaysKept kept = four();
    due("vital(3, 1, 0)", kept.vital(3, 1, 0), 0);
    due("vital(3, 1, 1)", kept.vital(3, 1, 1), 2);
    due("vital(3, 1, 2)", kept.vital(3, 1, 2), 4);
    due("vital(3, 1, 3)", kept.vital(3, 1, 3), NONE);
    due("vital(3, 1, -1)", kept.vital(3, 1, -1), NONE);
    due("vital(3, 1, MAX)", kept.vital(3, 1, Integer.MAX_VALUE), NONE);
    due("vital(0, 2, 0)", kept.vital(0, 2, 0), NONE);
    due("vital(0, 0, 0)", kept.vital(0, 0, 0), NONE);
    due("vital(0, 1, 0)", kept.vital(0, 1, 0), 0);
    due("vital(0, 1, 1)", kept.vital(0, 1, 1), NONE);
    for (int post : NO_POSTS) {
      due("vital(" + post + ", 0, 0)", kept.vital(post, 0, 0), UNKNOWN);
      due("vital(0, " + post + ", -1)", kept.vital(0, post, -1), UNKNOWN);
    }
    kept.cut(2);
    due("vital(3, 1, 0)", kept.vital(3, 1, 0), NONE);
    kept.price(3, 3);
    due("vital(0, 2, 0) of a lesser price", kept.vital(0, 2, 0), 0);
    due("vital(0, 2, 1)", kept.vital(0, 2, 1), 1);
    due("vital(0, 2, 2)", kept.vital(0, 2, 2), NONE);
  }

  private static void about() {
    promise = 13;
    WaysKept kept = four();
    due("about(0, 3, 1)", kept.about(0, 3, 1), 6);
    due("about(0, 3, 2)", kept.about(0, 3, 2), NONE);
    due("about(1, 0, 3)", kept.about(1, 0, 3), -5);
    kept.price(3, 3);
    due("about(0, 2, 1)", kept.about(0, 2, 1), 3);
    due("about(1, 1, 2)", kept.about(1, 1, 2), 0);
    due("about(0, 3, 0)", kept.about(0, 3, 0), STATE);
    due("about(0, 3, 3)", kept.about(0, 3, 3), STATE);
    due("about(2, 2, 2)", kept.about(2, 2, 2), STATE);
    for (int post : NO_POSTS) {
      due("about(" + post + ", 0, 0)", kept.about(post, 0, 0), UNKNOWN);
      due("about(0, " + post + ", 0)", kept.about(0, post, 0), UNKNOWN);
      due("about(0, 1, " + post + ")", kept.about(0, 1, post), UNKNOWN);
      due("about(" + post + ", 1, " + post + ")", kept.about(post, 1, post), UNKNOWN);
    }
  }

  private static void ring() {
    promise = 14;
    WaysKept kept = withPosts(4);
    due("ring()", kept.ring(), NONE);
    kept.line(0, 1, 5, false);
    kept.line(1, 2, -4, false);
    due("ring()", kept.ring(), NONE);
    kept.line(2, 0, 30, false);
    due("ring()", kept.ring(), 31);
    kept.line(2, 3, 15, true);
    due("ring() of a line to and fro", kept.ring(), 30);
    kept.line(3, 2, 14, false);
    due("ring() of two lines", kept.ring(), 29);
    kept.price(2, -1);
    due("ring()", kept.ring(), 0);
    kept.cut(2);
    kept.cut(3);
    due("ring()", kept.ring(), NONE);
    due("ring() of one line", row(2).ring(), 2);
  }

  private static void height() {
    promise = 15;
    WaysKept kept = four();
    int[] heights = {-5, 0, -3, 0};
    for (int post = 0; post < 4; post++) {
      due("height(" + post + ")", kept.height(post), heights[post]);
    }
    for (int post : NO_POSTS) {
      due("height(" + post + ")", kept.height(post), UNKNOWN);
    }
    kept.cut(1);
    due("height(0)", kept.height(0), -2);
    due("height(2)", kept.height(2), 0);
    due("height(0) of a new one", new WaysKept().height(0), 0);
  }

  private static void acts() {
    promise = 16;
    WaysKept kept = withPosts(3);
    due("acts()", kept.acts(), 0);
    kept.line(0, 1, 4, false);
    kept.line(0, 1, 100, false);
    kept.line(0, 0, 4, false);
    due("acts()", kept.acts(), 1);
    kept.price(0, 4);
    kept.price(0, 100);
    due("acts()", kept.acts(), 1);
    kept.price(0, 3);
    kept.cut(0);
    kept.cut(0);
    due("acts()", kept.acts(), 3);
    kept.price(0, 8);
    kept.back(0);
    kept.back(0);
    due("acts()", kept.acts(), 5);
    kept.marks(7);
    kept.far(0, 1);
    kept.hits(1);
    due("acts()", kept.acts(), 5);
    kept.posts(3);
    due("acts()", kept.acts(), 0);
  }

  private static void moved() {
    promise = 17;
    WaysKept kept = four();
    int[] moves = {1, 2, 4, 0, 5};
    for (int act = 1; act <= 5; act++) {
      due("moved(" + act + ")", kept.moved(act), moves[act - 1]);
    }
    kept.cut(2);
    due("moved(6), to NONE", kept.moved(6), 6);
    due("moved(0)", kept.moved(0), UNKNOWN);
    due("moved(7)", kept.moved(7), UNKNOWN);
    due("moved(-1)", kept.moved(-1), UNKNOWN);
    due("moved(MIN)", kept.moved(Integer.MIN_VALUE), UNKNOWN);
    due("moved(MAX)", kept.moved(Integer.MAX_VALUE), UNKNOWN);
    WaysKept ten = row(10);
    ten.line(9, 0, 0, true);
    due("moved(9), to all posts", ten.moved(9), 18);
    ten.cut(0);
    ten.cut(5);
    due("moved(12), of two parts", ten.moved(12), 50);
  }

  private static void pair() {
    promise = 18;
    WaysKept kept = four();
    int[] pairs = {10, 20, 21, 30, 31};
    for (int i = 0; i < 5; i++) {
      due("pair(5, " + i + ")", kept.pair(5, i), pairs[i]);
    }
    due("pair(5, 5)", kept.pair(5, 5), NONE);
    due("pair(5, -1)", kept.pair(5, -1), NONE);
    due("pair(5, MAX)", kept.pair(5, Integer.MAX_VALUE), NONE);
    due("pair(4, 0)", kept.pair(4, 0), NONE);
    due("pair(1, 0)", kept.pair(1, 0), 1);
    due("pair(0, 0)", kept.pair(0, 0), UNKNOWN);
    due("pair(6, -1)", kept.pair(6, -1), UNKNOWN);
    due("pair(MAX, 0)", kept.pair(Integer.MAX_VALUE, 0), UNKNOWN);
    due("pair(MIN, 0)", kept.pair(Integer.MIN_VALUE, 0), UNKNOWN);
    WaysKept ten = withPosts(10);
    ten.line(9, 8, 1, true);
    due("pair(1, 0)", ten.pair(1, 0), 89);
    due("pair(1, 1)", ten.pair(1, 1), 98);
  }

  private static void then() {
    promise = 19;
    WaysKept kept = four();
    kept.cut(2);
    int[] fars = {NONE, NONE, NONE, 6, 6, 6, NONE};
    for (int act = 0; act < 7; act++) {
      due("then(" + act + ", 0, 3)", kept.then(act, 0, 3), fars[act]);
      due("then(" + act + ", 1, 1)", kept.then(act, 1, 1), 0);
    }
    due("then(7, 0, 3)", kept.then(7, 0, 3), UNKNOWN);
    due("then(-1, 0, 3)", kept.then(-1, 0, 3), UNKNOWN);
    due("then(MIN, 0, 3)", kept.then(Integer.MIN_VALUE, 0, 3), UNKNOWN);
    due("then(MAX, 0, 3)", kept.then(Integer.MAX_VALUE, 0, 3), UNKNOWN);
    for (int post : NO_POSTS) {
      due("then(1, " + post + ", 0)", kept.then(1, post, 0), UNKNOWN);
      due("then(1, 0, " + post + ")", kept.then(1, 0, post), UNKNOWN);
    }
  }

  private static void since() {
    promise = 20;
    WaysKept kept = new WaysKept();
    kept.line(0, 1, 9, false);
    kept.price(0, 4);
    kept.cut(0);
    kept.price(0, 6);
    kept.back(0);
    due("since(1, 0, 1, 9)", kept.since(1, 0, 1, 9), 1);
    due("since(1, 0, 1, 8)", kept.since(1, 0, 1, 8), 2);
    due("since(1, 0, 1, 4)", kept.since(1, 0, 1, 4), 2);
    due("since(1, 0, 1, 3)", kept.since(1, 0, 1, 3), NONE);
    due("since(3, 0, 1, 1000)", kept.since(3, 0, 1, 1000), 5);
    due("since(3, 0, 1, 5)", kept.since(3, 0, 1, 5), NONE);
    due("since(5, 0, 1, 6)", kept.since(5, 0, 1, 6), 5);
    due("since(1, 1, 0, 1000)", kept.since(1, 1, 0, 1000), NONE);
    due("since(3, 1, 1, 0)", kept.since(3, 1, 1, 0), 3);
    due("since(1, 1, 1, -1)", kept.since(1, 1, 1, -1), NONE);
    due("since(1, 0, 1, -500)", kept.since(1, 0, 1, -500), NONE);
    due("since(1, 0, 1, 1001)", kept.since(1, 0, 1, 1001), BAD);
    due("since(1, 0, 1, -501)", kept.since(1, 0, 1, -501), BAD);
    due("since(1, 0, 1, MAX)", kept.since(1, 0, 1, Integer.MAX_VALUE), BAD);
    due("since(0, 0, 1, 1001)", kept.since(0, 0, 1, 1001), UNKNOWN);
    due("since(6, 0, 1, 5)", kept.since(6, 0, 1, 5), UNKNOWN);
    due("since(-1, 0, 1, 5)", kept.since(-1, 0, 1, 5), UNKNOWN);
    due("since(1, 2, 1, 1001)", kept.since(1, 2, 1, 1001), UNKNOWN);
    due("since(1, 0, -1, 5)", kept.since(1, 0, -1, 5), UNKNOWN);
    due("since(1, 0, 0, 5) of a new one", new WaysKept().since(1, 0, 0, 5), UNKNOWN);
  }

  private static void marks() {
    promise = 21;
    WaysKept kept = withPosts(4);
    due("marks(5)", kept.marks(5), 0);
    due("marks(15)", kept.marks(15), 5);
    due("marks(16)", kept.marks(16), BAD);
    due("marks(17)", kept.marks(17), BAD);
    due("marks(-1)", kept.marks(-1), BAD);
    due("marks(MIN)", kept.marks(Integer.MIN_VALUE), BAD);
    due("marks(MAX)", kept.marks(Integer.MAX_VALUE), BAD);
    due("marks(0)", kept.marks(0), 15);
    due("marks(0)", kept.marks(0), 0);
    WaysKept ten = withPosts(10);
    due("marks(1023)", ten.marks(1023), 0);
    due("marks(1024)", ten.marks(1024), BAD);
    due("count(4)", ten.count(4), 10);
  }

  private static void near() {
    promise = 22;
    WaysKept kept = four();
    due("near(0, 1)", kept.near(0, 1), NONE);
    kept.marks(8);
    due("near(0, 1)", kept.near(0, 1), 13);
    due("near(3, 3)", kept.near(3, 3), 0);
    due("near(0, 0)", kept.near(0, 0), 8);
    kept.marks(12);
    due("near(0, 1)", kept.near(0, 1), 5);
    kept.marks(2);
    kept.cut(0);
    due("near(0, 2), to no marks", kept.near(0, 2), NONE);
    due("near(1, 2)", kept.near(1, 2), -3);
    kept.marks(8);
    kept.cut(4);
    due("near(2, 0), from no marks", kept.near(2, 0), NONE);
    for (int post : NO_POSTS) {
      due("near(" + post + ", 0)", kept.near(post, 0), UNKNOWN);
      due("near(0, " + post + ")", kept.near(0, post), UNKNOWN);
    }
  }

  private static void worst() {
    promise = 23;
    WaysKept kept = row(5);
    due("worst()", kept.worst(), NONE);
    kept.marks(4);
    due("worst()", kept.worst(), 4);
    kept.marks(31);
    due("worst()", kept.worst(), 0);
    kept.marks(30);
    due("worst(), of a post to itself", kept.worst(), 2);
    kept.cut(0);
    due("worst(), far from all marks", kept.worst(), NONE);
    kept.marks(31);
    due("worst()", kept.worst(), 0);
    WaysKept oneWay = new WaysKept();
    oneWay.line(0, 1, 3, false);
    oneWay.marks(1);
    due("worst(), to itself by no marks", oneWay.worst(), NONE);
    oneWay.line(1, 0, 9, false);
    due("worst()", oneWay.worst(), 12);
    WaysKept fork = withPosts(3);
    fork.line(0, 1, 0, false);
    fork.line(1, 0, 7, false);
    fork.line(1, 2, 0, false);
    fork.line(2, 1, 8, false);
    fork.line(0, 2, 5, false);
    fork.marks(1);
    due("worst(), one way unlike the other", fork.worst(), 15);
    fork.marks(7);
    due("worst()", fork.worst(), 0);
    WaysKept ten = row(10);
    ten.marks(1023);
    due("worst() of ten posts", ten.worst(), 0);
    ten.marks(512);
    due("worst() of ten posts", ten.worst(), 18);
  }

  private static void hits() {
    promise = 24;
    WaysKept kept = row(5);
    due("hits(1)", kept.hits(1), NONE);
    due("hits(2)", kept.hits(2), 14);
    due("hits(3)", kept.hits(3), 4);
    due("hits(4), the least number", kept.hits(4), 2);
    due("hits(5)", kept.hits(5), 0);
    due("hits(9)", kept.hits(9), 0);
    due("hits(0)", kept.hits(0), BAD);
    due("hits(10)", kept.hits(10), BAD);
    due("hits(-1)", kept.hits(-1), BAD);
    due("hits(MIN)", kept.hits(Integer.MIN_VALUE), BAD);
    due("hits(MAX)", kept.hits(Integer.MAX_VALUE), BAD);
    due("acts()", kept.acts(), 4);
    due("marks(0)", kept.marks(0), 0);
  }

  private static void hitsEnds() {
    promise = 24;
    WaysKept ten = row(10);
    due("hits(9)", ten.hits(9), 2);
    due("hits(8)", ten.hits(8), 4);
    due("hits(5)", ten.hits(5), 0b0000100010);
    due("hits(2)", ten.hits(2), 0b0111111110);
    due("hits(1)", ten.hits(1), NONE);
    WaysKept round = row(5);
    round.line(0, 4, 2, true);
    due("hits(2), all posts", round.hits(2), 31);
    WaysKept split = withPosts(6);
    split.line(0, 1, 1, false);
    split.line(1, 2, 1, false);
    split.line(5, 4, 1, false);
    split.line(4, 3, 1, false);
    due("hits(2), one way only", split.hits(2), 18);
    split.line(0, 2, 1, false);
    due("hits(2)", split.hits(2), 16);
    WaysKept fewer = withPosts(7);
    fewer.line(6, 0, 1, false);
    fewer.line(0, 5, 1, false);
    fewer.line(5, 1, 1, false);
    fewer.line(4, 2, 1, false);
    fewer.line(2, 5, 1, false);
    fewer.line(5, 3, 1, false);
    due("hits(3), fewer before lesser", fewer.hits(3), 32);
    due("hits(1) of a new one", new WaysKept().hits(1), 0);
  }

  private static void count() {
    promise = 25;
    WaysKept kept = four();
    kept.marks(11);
    kept.cut(2);
    int[] counts = {4, 5, 4, 6, 3};
    for (int what = 0; what < 5; what++) {
      due("count(" + what + ")", kept.count(what), counts[what]);
    }
    kept.back(2);
    due("count(2)", kept.count(2), 5);
    due("count(3)", kept.count(3), 12);
    due("count(5)", kept.count(5), BAD);
    due("count(-1)", kept.count(-1), BAD);
    due("count(MIN)", kept.count(Integer.MIN_VALUE), BAD);
    due("count(MAX)", kept.count(Integer.MAX_VALUE), BAD);
  }

  private static void refusedChangesNothing() {
    promise = 4;
    WaysKept kept = four();
    kept.marks(6);
    kept.cut(0);
    kept.price(0, -50);
    kept.posts(11);
    kept.line(2, 1, -50, false);
    kept.line(2, 0, -50, false);
    kept.price(3, -50);
    kept.price(4, -50);
    kept.back(0);
    kept.cut(0);
    kept.marks(16);
    kept.hits(0);
    due("acts()", kept.acts(), 7);
    due("count(1)", kept.count(1), 5);
    due("count(2)", kept.count(2), 4);
    due("count(4)", kept.count(4), 2);
    due("told(3, 2)", kept.told(3, 2), 2);
    due("told(4, 2)", kept.told(4, 2), -2);
    due("told(0, 4)", kept.told(0, 4), 0);
    due("far(0, 3)", kept.far(0, 3), 6);
    due("near(0, 3)", kept.near(0, 3), 6);
    due("ring()", kept.ring(), 0);
  }
}

/** Each sentence of the document that names a boundary case: the case, and what lies on either side of it. */
public final class EdgeTests {
  private static final int UNKNOWN = Play.UNKNOWN;
  private static final int BAD = Play.BAD;
  private static final int STATE = Play.STATE;
  private static final int FULL = Play.FULL;
  private static final int NONE = Play.NONE;

  public static void main(String[] args) {
    numbers();
    posts();
    postsThatThereAre();
    postsThatThereAreNot();
    postsAnew();
    fortyLines();
    linesThatThereAre();
    prices();
    pricesBothWays();
    ways();
    rings();
    ringsOfLine();
    ringsOfPrice();
    ringsOfBack();
    ringsOfSeveral();
    fars();
    theWay();
    theWayByNumbers();
    actsAreNumbered();
    actsThatAreNone();
    fourHundredActs();
    pastIsKept();
    asOfNought();
    moved();
    pairs();
    told();
    wayOfLines();
    without();
    vital();
    about();
    heights();
    lifted();
    since();
    marks();
    near();
    nearEnds();
    worst();
    hitsOfOne();
    hitsOfLength();
    hitsBetween();
    hitsFewest();
    count();
    Play.finish();
  }

  private static Play posts(int n) {
    return Play.of(Play.call("posts", n));
  }

  /** One way from post 0 to post n - 1 over all, a line for each step, all at one price. */
  private static Play chain(int n, int price) {
    Play play = posts(n);
    for (int post = 1; post < n; post++) {
      play.after(Play.call("line", post - 1, post, price, false));
    }
    return play;
  }

  /** As the chain, but each line leads both ways. */
  private static Play row(int n, int price) {
    Play play = posts(n);
    for (int post = 1; post < n; post++) {
      play.after(Play.call("line", post - 1, post, price, true));
    }
    return play;
  }

  /** So many acts (2 at least): line 0 from 0 to 1 at 5 or 6, line 1 from 1 to 0 at 7, which is cut at once. */
  private static Play worn(int acts) {
    Play play = Play.of("line(0, 1, 6, false)", "line(1, 0, 7, false)", "cut(1)");
    for (int act = 4; act <= acts; act++) {
      play.after(Play.call("price", 0, 5 + act % 2));
    }
    return play.due("acts()", acts);
  }

  private static void numbers() {
    Play.sentence("UNKNOWN -1001, BAD -1002, STATE -1003, FULL -1004. NONE is -1000");
    int[] got = {WaysKept.UNKNOWN, WaysKept.BAD, WaysKept.STATE, WaysKept.FULL, WaysKept.NONE};
    int[] want = {-1001, -1002, -1003, -1004, -1000};
    for (int i = 0; i < got.length; i++) {
      if (got[i] != want[i]) {
        Play.miss("a constant is " + got[i] + ", due is " + want[i]);
      }
    }
  }

  private static void posts() {
    Play.sentence("POSTS 0 .. n - 1 (2 to 10; 2 at first)");
    new Play().due("count(0)", 2).due("posts(2)", 2);
    new Play().due("height(-1)", UNKNOWN).due("height(0)", 0).due("height(1)", 0).due("height(2)", UNKNOWN);
    new Play().due(BAD, "posts(1)", "posts(0)", "posts(-1)", "posts(-2)", "posts(MIN)")
        .due(BAD, "posts(11)", "posts(12)", "posts(MAX)").due("count(0)", 2);
    for (int n = 2; n <= 10; n++) {
      Play play = new Play().due(Play.call("posts", n), 2).due("count(0)", n);
      play.due("height(-1)", UNKNOWN).due("height(0)", 0);
      play.due(Play.call("height", n - 1), 0).due(Play.call("height", n), UNKNOWN);
      play.due(Play.call("posts", 12 - n), n).due("count(0)", 12 - n);
    }
  }

  private static void postsThatThereAre() {
    Play.sentence("POSTS 0 .. n - 1: the greatest is taken by each call");
    for (int n = 3; n <= 10; n++) {
      int last = n - 1;
      Play play = posts(n).due(Play.call("line", last, 0, 5, true), 0).after("marks(1)");
      play.due(Play.call("line", 0, last, 8, false), 1).due("told(1, 1)", last).due("told(0, 0)", last);
      play.due(Play.call("far", 0, last), 5).due(Play.call("far", last, 0), 5).due(Play.call("far", last, last), 0);
      play.due(Play.call("steps", 0, last), 1).due(Play.call("steps", last, 0), 1);
      play.due(Play.call("way", 0, last, 0), 0).due(Play.call("way", last, 0, 0), 0);
      play.due(Play.call("without", 0, last, 0), 8).due(Play.call("without", last, 0, 0), NONE);
      play.due(Play.call("vital", 0, last, 0), 0).due(Play.call("vital", last, 0, 0), 0);
      play.due(Play.call("about", 0, last, 1), 5).due(Play.call("about", last, 0, 1), 5);
      play.due(Play.call("about", 0, 1, last), NONE).due(Play.call("height", last), 0);
      play.due(Play.call("then", 1, 0, last), 5).due(Play.call("then", 1, last, 0), 5);
      play.due(Play.call("since", 1, 0, last, 5), 1).due(Play.call("since", 1, last, 0, 5), 1);
      play.due(Play.call("near", 0, last), 5).due(Play.call("near", last, 0), 5);
      play.due(Play.call("near", last, last), 10);
    }
  }

  private static void postsThatThereAreNot() {
    Play.sentence("UNKNOWN: there is no such POST");
    for (int n = 2; n <= 10; n++) {
      for (int post : new int[] {-1, n, n + 1, 10, 11, Play.MIN, Play.MAX}) {
        Play play = posts(n).after("line(0, 1, 5, false)");
        noSuchPost(play, post);
        play.due("count(1)", 1).due("acts()", 1).due("far(0, 1)", 5);
      }
    }
  }

  private static void noSuchPost(Play play, int post) {
    for (String name : new String[] {"far", "steps", "near"}) {
      play.due(UNKNOWN, Play.call(name, post, 0), Play.call(name, 0, post), Play.call(name, post, post));
    }
    for (String name : new String[] {"way", "vital", "without"}) {
      play.due(UNKNOWN, Play.call(name, post, 0, 0), Play.call(name, 0, post, 0), Play.call(name, post, post, 0));
    }
    play.due(UNKNOWN, Play.call("about", post, 0, 1), Play.call("about", 0, post, 1), Play.call("about", 0, 1, post));
    play.due(UNKNOWN, Play.call("line", post, 0, 5, false), Play.call("line", 0, post, 5, true));
    play.due(UNKNOWN, Play.call("then", 1, post, 0), Play.call("then", 1, 0, post), Play.call("then", 0, post, post));
    play.due(UNKNOWN, Play.call("since", 1, post, 0, 5), Play.call("since", 1, 0, post, 5));
    play.due(UNKNOWN, Play.call("height", post));
  }

  private static void postsAnew() {
    Play.sentence("So many POSTS, no LINES, acts, MARKS: how many there were. BAD");
    Play play = row(10, 1).after("cut(3)", "marks(1023)");
    play.due("posts(11)", BAD).due("count(1)", 9).due("acts()", 10).due("count(4)", 10);
    play.due("posts(10)", 10).due(0, "count(1)", "count(2)", "count(3)", "count(4)", "acts()", "marks(0)");
    play.due(UNKNOWN, "told(0, 0)", "price(0, 1)", "cut(0)", "back(3)", "without(0, 1, 0)", "moved(1)", "then(1, 0, 1)");
    play.due(NONE, "far(0, 1)", "then(0, 0, 1)", "ring()", "worst()").due("hits(1)", 0);
    play.due("line(4, 5, -1, false)", 0).due("acts()", 1).due("moved(1)", 1).due("pair(1, 0)", 45);
    play.due("told(0, 4)", 1).due("told(0, 3)", 0).due("then(0, 4, 5)", NONE).due("then(1, 4, 5)", -1);
    Play few = row(10, 1).due("posts(2)", 10).due("count(0)", 2).due("marks(4)", BAD).due("marks(3)", 0);
    few.due("line(0, 2, 1, false)", UNKNOWN).due("line(0, 1, 1, false)", 0).due("moved(1)", 1).due("pair(1, 1)", NONE);
    few.due("posts(10)", 2).due("count(3)", 0).due("marks(0)", 0).due("far(8, 9)", NONE);
  }

  private static void fortyLines() {
    Play.sentence("LINES 0, 1, .. (40 at most)");
    Play play = posts(3);
    for (int line = 0; line < 40; line++) {
      play.due("count(1)", line).due(Play.call("line", line % 2, line % 2 + 1, 40 - line, line % 3 == 0), line);
    }
    play.due(FULL, "line(0, 1, 1, false)", "line(1, 0, 1, true)").due("count(1)", 40).due("count(2)", 40);
    play.due("acts()", 40).due("far(0, 1)", 2).due("far(1, 2)", 1).due("way(1, 2, 0)", 39).due("told(39, 2)", 1);
    for (int line = 0; line < 40; line++) {
      play.due(Play.call("cut", line), 39 - line);
    }
    play.due("line(0, 1, 1, false)", FULL).due("count(1)", 40).due("count(2)", 0).due("acts()", 80);
    for (int line = 39; line >= 0; line--) {
      play.due(Play.call("back", line), 40 - line);
    }
    play.due("line(0, 1, 1, false)", FULL).due("posts(3)", 3).due("line(0, 1, 1, false)", 0);
  }

  private static void linesThatThereAre() {
    Play.sentence("UNKNOWN: there is no such LINE");
    for (int lines : new int[] {0, 1, 2, 39, 40}) {
      Play play = posts(2);
      for (int line = 0; line < lines; line++) {
        play.after("line(0, 1, 5, false)");
      }
      for (int line : new int[] {-1, lines, lines + 1, 40, 41, Play.MIN, Play.MAX}) {
        play.due(UNKNOWN, Play.call("price", line, 6), Play.call("cut", line), Play.call("back", line));
        play.due(UNKNOWN, Play.call("told", line, 0), Play.call("told", line, 5), Play.call("without", 0, 1, line));
      }
      play.due("acts()", lines).due("count(2)", lines);
      for (int line = 0; line < lines; line += Math.max(1, lines - 1)) {
        play.due(Play.call("told", line, 1), 1).due(Play.call("without", 0, 1, line), lines == 1 ? NONE : 5);
        play.due(Play.call("price", line, 6), 5).due(Play.call("told", line, 2), 6).due(Play.call("price", line, 5), 6);
        play.due(Play.call("cut", line), lines - 1).due(Play.call("back", line), lines);
      }
    }
  }

  private static void prices() {
    Play.sentence("each has a PRICE (-50 .. 99)");
    Play play = new Play().due(BAD, "line(0, 1, -51, false)", "line(0, 1, 100, false)", "line(0, 1, MIN, false)");
    play.due("line(0, 1, MAX, false)", BAD).due("count(1)", 0).due("acts()", 0).due("far(0, 1)", NONE);
    play.due("line(0, 1, 99, false)", 0).due("far(0, 1)", 99).due("line(0, 1, -50, false)", 1).due("far(0, 1)", -50);
    play.due("line(0, 1, 98, false)", 2).due("line(0, 1, -49, false)", 3).due("told(1, 2)", -50);
    play.due(BAD, "price(0, -51)", "price(0, 100)", "price(0, MIN)", "price(0, MAX)").due("told(0, 2)", 99);
    play.due("acts()", 4).due("price(0, -50)", 99).due("price(1, 99)", -50).due("told(1, 2)", 99).due("acts()", 6);
    play.due("cut(0)", 3).due(BAD, "price(0, -51)", "price(0, 100)").due("price(0, 99)", -50);
    play.due("price(0, -50)", 99).due("price(0, 0)", -50).due("price(0, -1)", 0).due("acts()", 11);
  }

  private static void pricesBothWays() {
    Play.sentence("(of those both ways 0 .. 99)");
    Play play = new Play().due(BAD, "line(0, 1, -1, true)", "line(0, 1, 100, true)", "line(0, 1, -50, true)");
    play.due(BAD, "line(0, 1, MIN, true)", "line(0, 1, MAX, true)").due("count(1)", 0).due("acts()", 0);
    play.due("line(0, 1, 99, true)", 0).due("far(0, 1)", 99).due("far(1, 0)", 99);
    play.due("line(0, 1, 0, true)", 1).due("far(0, 1)", 0).due("far(1, 0)", 0).due("line(0, 1, 1, true)", 2);
    play.due(BAD, "price(0, -1)", "price(0, 100)", "price(0, -50)", "price(0, MIN)", "price(0, MAX)");
    play.due("told(0, 2)", 99).due("acts()", 3).due("price(0, 0)", 99).due("price(1, 99)", 0).due("told(1, 2)", 99);
    play.due("cut(0)", 2).due(BAD, "price(0, -1)", "price(0, 100)").due("price(0, 99)", 0).due("price(0, 0)", 99);
    play.due("acts()", 8).due("told(0, 3)", 1);
  }

  private static void ways() {
    Play.sentence("A WAY is a row of LINES that are THERE, one behind the other as they lead (none: from a POST to itself)");
    Play play = Play.of("posts(4)", "line(0, 1, 2, false)", "line(2, 1, 3, false)", "line(2, 3, 4, true)");
    play.due(NONE, "far(0, 2)", "far(1, 0)", "far(1, 2)", "far(0, 3)", "far(1, 3)").due("far(3, 1)", 7);
    play.due(NONE, "steps(0, 2)", "steps(1, 0)", "steps(1, 2)", "way(0, 2, 0)", "way(1, 0, 0)").due("steps(3, 1)", 2);
    for (int post = 0; post < 4; post++) {
      play.due(0, Play.call("far", post, post), Play.call("steps", post, post), Play.call("then", 3, post, post));
      play.due(NONE, Play.call("way", post, post, 0), Play.call("vital", post, post, 0));
      play.due(Play.call("without", post, post, 0), 0).due(Play.call("about", post, post, (post + 1) % 4), 0);
    }
    play.after("cut(1)").due("far(2, 1)", NONE).due("far(3, 1)", NONE).due("steps(3, 1)", NONE);
    play.due("back(1)", 3).due("far(2, 1)", 3).due("far(3, 1)", 7);
    Play.sentence("(none: from a POST to itself), also where rings of 0 are");
    Play zero = Play.of("posts(3)", "line(0, 1, 0, true)", "line(1, 2, -9, false)", "line(2, 1, 9, false)");
    zero.due(0, "far(0, 0)", "far(1, 1)", "steps(0, 0)", "steps(1, 1)", "steps(2, 2)", "ring()");
    zero.due(NONE, "way(0, 0, 0)", "way(1, 1, 0)");
  }

  private static void rings() {
    Play.sentence("A RING is a WAY of one LINE or more from a POST to itself; ring: the least PRICE of one; NONE");
    new Play().due("ring()", NONE);
    Play play = posts(3).due("ring()", NONE).after("line(0, 1, 5, false)").due("ring()", NONE);
    play.after("line(0, 1, -5, false)", "line(1, 2, -5, false)").due("ring()", NONE);
    play.after("line(2, 0, 99, false)").due("ring()", 89).after("price(3, 10)").due("ring()", 0);
    play.after("cut(1)").due("ring()", 10).after("cut(0)").due("ring()", NONE).after("back(1)").due("ring()", 0);
    play.after("cut(3)").due("ring()", NONE);
    Play.sentence("A RING is a WAY of one LINE or more: a LINE both ways, to and fro");
    Play both = Play.of("line(0, 1, 99, true)").due("ring()", 198).after("price(0, 0)").due("ring()", 0);
    both.after("price(0, 1)").due("ring()", 2).after("line(1, 0, 0, false)").due("ring()", 1);
    both.after("cut(0)").due("ring()", NONE).after("line(0, 1, 60, true)").due("ring()", 60);
    Play ten = chain(10, 99).due("ring()", NONE).after("line(9, 0, 99, false)").due("ring()", 990);
    ten.after("line(4, 3, 99, false)").due("ring()", 198).after("price(9, -50)").due("ring()", 198);
    ten.after("cut(10)").due("ring()", 841);
  }

  private static void ringsOfLine() {
    Play.sentence("line: STATE: a RING would be below 0");
    Play play = Play.of("line(0, 1, -50, false)").due("line(1, 0, 49, false)", STATE).due("count(1)", 1);
    play.due("line(1, 0, -50, false)", STATE).due("line(1, 0, 50, false)", 1).due("ring()", 0);
    Play.sentence("line: STATE: a RING would be below 0: of one both ways, whichever way it is told");
    Play both = Play.of("line(0, 1, -7, false)").due(STATE, "line(0, 1, 6, true)", "line(1, 0, 6, true)");
    both.due(STATE, "line(0, 1, 0, true)", "line(1, 0, 0, true)").due("line(1, 0, 7, true)", 1).due("ring()", 0);
    both.due("line(0, 1, 7, true)", 2).due("line(0, 1, 6, true)", STATE).due("acts()", 3);
    Play.sentence("line: STATE: a RING would be below 0: of ten LINES");
    Play ten = chain(10, -11).due("line(9, 0, 98, false)", STATE).due("line(9, 0, 98, true)", STATE);
    ten.due("line(0, 9, 98, true)", STATE).due("line(0, 9, 98, false)", 9).due("line(9, 0, 99, true)", 10);
    ten.due("ring()", 0).due("line(9, 1, 87, false)", STATE).due("line(9, 1, 88, false)", 11);
    Play.sentence("line: STATE: a RING would be below 0: over LINES that are THERE alone");
    Play there = Play.of("line(0, 1, -7, false)", "cut(0)").due("line(1, 0, 6, false)", 1).due("back(0)", STATE);
    there.due("line(0, 1, -6, false)", 2).due("line(0, 1, -7, false)", STATE).due("ring()", 0);
  }

  private static void ringsOfPrice() {
    Play.sentence("price: STATE: a RING would be below 0");
    Play play = Play.of("posts(3)", "line(0, 1, 5, false)", "line(1, 2, 5, false)", "line(2, 0, 5, false)");
    play.due("price(0, -11)", STATE).due("told(0, 2)", 5).due("acts()", 3).due("price(0, -10)", 5).due("ring()", 0);
    play.due(STATE, "price(0, -11)", "price(1, 4)", "price(2, 4)").due("price(1, 6)", 5).due("ring()", 1);
    play.due("price(2, 3)", STATE).due("price(2, 4)", 5).due("ring()", 0);
    Play.sentence("price: STATE: a RING would be below 0: of one both ways");
    Play both = Play.of("posts(3)", "line(0, 1, 9, true)", "line(1, 2, -4, false)", "line(2, 0, -4, false)");
    both.due("price(0, 7)", STATE).due("price(0, 8)", 9).due("ring()", 0).due("price(0, 7)", STATE);
    both.after("cut(1)", "cut(2)").due("price(0, 0)", 8).due("line(2, 1, -4, false)", 3);
    both.due("line(0, 2, 3, false)", STATE).due("line(0, 2, 4, false)", 4).due("price(4, 3)", STATE);
    Play.sentence("price: another PRICE also for one that is not THERE: no RING leads over it");
    Play gone = Play.of("line(0, 1, 5, false)", "line(1, 0, 5, false)", "cut(0)").due("price(0, -50)", 5);
    gone.due("acts()", 4).due("ring()", NONE).due("price(1, -50)", 5).due("back(0)", STATE).due("acts()", 5);
    Play.sentence("price: a dearer LINE makes no RING below 0");
    Play dear = Play.of("line(0, 1, -5, false)", "line(1, 0, 5, false)").due("price(0, -4)", -5).due("ring()", 1);
    dear.due("price(1, 99)", 5).due("price(0, 99)", -4).due("ring()", 198);
  }

  private static void ringsOfBack() {
    Play.sentence("back: STATE: it is THERE, or a RING would be below 0");
    Play play = Play.of("line(0, 1, -5, false)", "line(1, 0, 5, false)", "cut(0)", "price(1, 4)");
    play.due("back(0)", STATE).due("told(0, 4)", 0).due("acts()", 4).due("count(2)", 1).due("far(0, 1)", NONE);
    play.due("price(1, 5)", 4).due("back(0)", 2).due("ring()", 0).due("back(0)", STATE).due("acts()", 6);
    Play.sentence("back: STATE: a RING would be below 0: of one both ways");
    Play both = Play.of("line(0, 1, 3, true)", "cut(0)", "line(1, 0, -4, false)").due("back(0)", STATE);
    both.due("price(1, -3)", -4).due("back(0)", 2).after("cut(0)", "cut(1)", "line(0, 1, -4, false)");
    both.due("back(0)", STATE).due("price(2, -3)", -4).due("back(0)", 2).due("ring()", 0);
  }

  private static void ringsOfSeveral() {
    Play.sentence("No RING may ever be below 0, each by itself");
    Play play = Play.of("posts(5)", "line(0, 1, -5, false)", "line(1, 0, 5, false)", "line(1, 2, -5, false)");
    play.after("line(2, 1, 5, false)").due(STATE, "price(0, -6)", "price(2, -6)", "line(2, 0, 9, false)");
    play.due("line(2, 0, 10, false)", 4).due("ring()", 0).due("line(3, 4, -50, false)", 5);
    play.due("line(4, 3, 49, true)", STATE).due("line(4, 3, 50, true)", 6).due("ring()", 0);
  }

  private static void fars() {
    Play.sentence("FAR is the least PRICE of a WAY; NONE: there is none");
    new Play().due(NONE, "far(0, 1)", "far(1, 0)").due(0, "far(0, 0)", "far(1, 1)");
    Play low = chain(10, -50).due("far(0, 9)", -450).due("far(1, 9)", -400).due("far(9, 0)", NONE);
    low.due("then(9, 0, 9)", -450).due("about(0, 9, 4)", NONE).due("height(9)", -450).due("without(0, 9, 8)", NONE);
    low.after("line(0, 9, 99, false)").due("far(0, 9)", -450).due("without(0, 9, 4)", 99).due("about(0, 9, 4)", 99);
    low.due("steps(0, 9)", 9).due("worst()", NONE).after("marks(513)").due("near(0, 9)", -450).due("near(0, 0)", 0);
    Play high = chain(10, 99).due("far(0, 9)", 891).due("then(9, 0, 9)", 891).due("steps(0, 9)", 9);
    high.after("line(9, 8, 99, false)").due("far(9, 8)", 99).due("far(9, 7)", NONE);
    Play.sentence("the least PRICE of a WAY, however many LINES it has");
    high.after("line(0, 8, 99, false)", "price(9, -50)").due("far(0, 9)", 198).due("far(9, 8)", -50);
  }

  private static void theWay() {
    Play.sentence("THE WAY has that PRICE; of like ones the fewest LINES");
    Play play = Play.of("posts(4)", "line(0, 1, 2, false)", "line(1, 2, 2, false)", "line(2, 3, 2, false)");
    play.after("line(0, 3, 7, false)").due("steps(0, 3)", 3).due("way(0, 3, 0)", 0).due("way(0, 3, 2)", 2);
    play.after("price(3, 6)").due("steps(0, 3)", 1).due("way(0, 3, 0)", 3).due("way(0, 3, 1)", NONE);
    play.after("line(0, 2, 4, false)", "cut(3)").due("steps(0, 3)", 2).due("way(0, 3, 0)", 4).due("way(0, 3, 1)", 2);
    play.after("price(4, 5)").due("steps(0, 3)", 3).due("way(0, 3, 0)", 0);
    Play.sentence("of like ones the fewest LINES, also at 0 and below");
    Play zero = row(4, 0).after("line(0, 3, 0, false)").due("steps(0, 3)", 1).due("way(0, 3, 0)", 3);
    zero.due("steps(3, 0)", 3).due("steps(1, 3)", 2).due("way(1, 3, 0)", 0).due("way(1, 3, 1)", 3);
    Play low = chain(4, -2).after("line(0, 3, -6, false)").due("steps(0, 3)", 1).due("far(0, 3)", -6);
    low.after("price(3, -5)").due("steps(0, 3)", 3).due("price(3, -7)", -5).due("steps(0, 3)", 1);
  }

  private static void theWayByNumbers() {
    Play.sentence("of like ones the first by LINES' numbers (compared one by one)");
    Play first = Play.of("posts(4)", "line(2, 3, 1, false)", "line(0, 1, 1, false)", "line(0, 2, 1, false)");
    first.after("line(1, 3, 1, false)").due("way(0, 3, 0)", 1).due("way(0, 3, 1)", 3);
    Play second = Play.of("posts(3)", "line(0, 1, 1, false)", "line(1, 2, 1, false)", "line(1, 2, 1, false)");
    second.after("line(0, 1, 1, false)").due("way(0, 2, 0)", 0).due("way(0, 2, 1)", 1);
    second.after("cut(0)").due("way(0, 2, 0)", 3).due("way(0, 2, 1)", 1).after("cut(1)").due("way(0, 2, 1)", 2);
    Play both = Play.of("posts(3)", "line(1, 2, 1, true)", "line(0, 2, 1, true)", "line(1, 0, 1, true)");
    both.after("line(1, 2, 1, true)", "line(0, 1, 0, true)").due("way(2, 0, 0)", 1).due("steps(2, 0)", 1);
    both.after("cut(1)").due("way(2, 0, 0)", 0).due("way(2, 0, 1)", 4).due("way(0, 2, 0)", 4).due("way(0, 2, 1)", 0);
    Play.sentence("compared one by one, as numbers: 9 before 10");
    Play ten = posts(3);
    for (int line = 0; line < 9; line++) {
      ten.after("line(0, 1, 9, false)");
    }
    ten.after("line(0, 2, 3, false)", "line(0, 2, 3, false)").due("way(0, 2, 0)", 9).after("cut(9)");
    ten.due("way(0, 2, 0)", 10).after("back(9)").due("way(0, 2, 0)", 9);
  }

  private static void actsAreNumbered() {
    Play.sentence("they are numbered 1, 2, .. as they are done");
    new Play().due("acts()", 0).due(UNKNOWN, "moved(0)", "moved(1)", "moved(-1)", "pair(0, 0)", "pair(1, 0)");
    new Play().due(UNKNOWN, "then(1, 0, 1)", "then(-1, 0, 1)", "since(0, 0, 1, 5)", "since(1, 0, 1, 5)").due("then(0, 0, 1)", NONE);
    Play play = new Play().after("line(0, 1, 5, false)").due("acts()", 1).after("price(0, 6)").due("acts()", 2);
    play.after("cut(0)").due("acts()", 3).after("back(0)").due("acts()", 4);
    int[] fars = {NONE, 5, 6, NONE, 6};
    for (int act = 0; act <= 4; act++) {
      play.due(Play.call("then", act, 0, 1), fars[act]).due(Play.call("moved", act), act == 0 ? UNKNOWN : 1);
      play.due(Play.call("pair", act, 0), act == 0 ? UNKNOWN : 1);
      play.due(Play.call("since", act, 0, 1, 6), act == 0 ? UNKNOWN : act == 3 ? 4 : act);
    }
    play.due(UNKNOWN, "then(5, 0, 1)", "moved(5)", "pair(5, 0)", "since(5, 0, 1, 6)");
    play.due(UNKNOWN, "then(MAX, 0, 1)", "moved(MAX)", "pair(MAX, 0)", "since(MAX, 0, 1, 6)");
    play.due(UNKNOWN, "then(MIN, 0, 1)", "moved(MIN)", "pair(MIN, 0)", "since(MIN, 0, 1, 6)");
    play.due(UNKNOWN, "then(-1, 0, 1)", "moved(-1)", "pair(-1, 0)", "since(-1, 0, 1, 6)");
  }

  private static void actsThatAreNone() {
    Play.sentence("(those that are refused, or that change nothing, are none)");
    Play play = Play.of("line(0, 1, -5, false)", "line(1, 0, 5, false)").due("acts()", 2);
    play.due("price(0, -5)", -5).due("price(1, 5)", 5).due("acts()", 2).due("then(2, 0, 1)", -5).due("then(3, 0, 1)", UNKNOWN);
    play.due(STATE, "price(1, 4)", "back(0)", "line(1, 0, 4, false)", "line(1, 1, 4, false)").due("acts()", 2);
    play.due(BAD, "price(1, 100)", "line(1, 0, 100, false)").due(UNKNOWN, "price(2, 4)", "cut(2)", "back(2)").due("acts()", 2);
    play.after("cut(0)").due("acts()", 3).due("cut(0)", STATE).due("price(0, -5)", -5).due("acts()", 3);
    play.after("price(0, -50)").due("acts()", 4).due("price(0, -50)", -50).due("back(0)", STATE).due("acts()", 4);
    play.after("marks(3)", "marks(0)", "hits(2)", "worst()", "without(0, 1, 0)", "about(0, 0, 1)").due("acts()", 4);
    Play.sentence("an act that changes a LINE is one, though it MOVES no PAIR");
    play.due("moved(4)", 0).due("pair(4, 0)", NONE).due("then(4, 1, 0)", 5);
  }

  private static void fourHundredActs() {
    Play.sentence("FULL: 400 acts; the 400th is taken, of each kind");
    worn(399).due("line(0, 1, 9, false)", 2).due("acts()", 400).due("line(0, 1, 9, false)", FULL).due("count(1)", 3);
    worn(399).due("price(1, 9)", 7).due("acts()", 400).due("price(1, 8)", FULL).due("told(1, 2)", 9);
    worn(399).due("price(0, 9)", 6).due("acts()", 400).due("price(0, 8)", FULL).due("far(0, 1)", 9);
    worn(399).due("cut(0)", 0).due("acts()", 400).due("back(0)", FULL).due("count(2)", 0).due("far(0, 1)", NONE);
    worn(399).due("back(1)", 2).due("acts()", 400).due("cut(1)", FULL).due("count(2)", 2).due("far(1, 0)", 7);
    Play.sentence("FULL: 400 acts; the 401st of each kind is refused");
    Play play = worn(400).due(FULL, "line(0, 1, 9, false)", "price(0, 9)", "price(1, 9)", "cut(0)", "back(1)");
    play.due("acts()", 400).due("count(1)", 2).due("count(2)", 1).due("told(0, 2)", 5).due("told(1, 2)", 7);
    play.due("told(0, 4)", 1).due("told(1, 4)", 0).due("far(0, 1)", 5).due("far(1, 0)", NONE);
    Play.sentence("the same: no act, so there is room for it");
    play.due("price(0, 5)", 5).due("price(1, 7)", 7).due("acts()", 400);
    Play.sentence("FULL: 400 acts; none are left behind posts");
    play.due("posts(2)", 2).due("acts()", 0).due("line(0, 1, 9, false)", 0).due("cut(0)", 0).due("acts()", 2);
  }

  private static void pastIsKept() {
    Play.sentence("AS OF act t: as it was behind it, for all of 400");
    Play play = worn(400);
    for (int act = 4; act <= 400; act += 9) {
      play.due(Play.call("then", act, 0, 1), 5 + act % 2);
    }
    play.due("then(0, 0, 1)", NONE).due("then(1, 0, 1)", 6).due("then(2, 1, 0)", 7).due("then(3, 1, 0)", NONE);
    play.due("then(399, 0, 1)", 6).due("then(400, 0, 1)", 5).due("then(401, 0, 1)", UNKNOWN);
    play.due("moved(400)", 1).due("moved(401)", UNKNOWN).due("pair(400, 0)", 1).due("pair(400, 1)", NONE);
    play.due("pair(401, 0)", UNKNOWN);
    play.due("moved(4)", 1).due("moved(3)", 1).due("since(399, 0, 1, 5)", 400).due("since(400, 0, 1, 5)", 400);
    play.due("since(401, 0, 1, 5)", UNKNOWN).due("since(400, 0, 1, 4)", NONE).due("since(3, 1, 0, 1000)", NONE);
    play.due("since(1, 1, 0, 7)", 2);
  }

  private static void asOfNought() {
    Play.sentence("AS OF act t (0: no LINES)");
    new Play().due("then(0, 0, 1)", NONE).due("then(0, 1, 0)", NONE).due("then(0, 0, 0)", 0).due("then(0, 1, 1)", 0);
    Play play = row(10, 3).due(NONE, "then(0, 0, 1)", "then(0, 9, 8)", "then(0, 0, 9)").due("then(0, 9, 9)", 0);
    play.due("then(1, 0, 1)", 3).due("then(1, 1, 2)", NONE).due("then(9, 0, 9)", 27).due("then(8, 0, 9)", NONE);
    play.after("posts(10)").due("then(0, 0, 1)", NONE).due("then(1, 0, 1)", UNKNOWN);
  }

  private static void moved() {
    Play.sentence("A PAIR a, b is MOVED by an act, if FAR from a to b is another one behind it (also NONE)");
    Play play = Play.of("posts(3)", "line(0, 1, 5, false)").due("moved(1)", 1).due("pair(1, 0)", 1).due("pair(1, 1)", NONE);
    play.after("line(1, 2, 1, false)").due("moved(2)", 2).due("pair(2, 0)", 2).due("pair(2, 1)", 12);
    play.after("price(0, 4)").due("moved(3)", 2).due("pair(3, 0)", 1).due("pair(3, 1)", 2).due("pair(3, 2)", NONE);
    play.after("line(0, 1, 4, false)").due("moved(4)", 0).due("pair(4, 0)", NONE);
    play.after("cut(0)").due("moved(5)", 0).after("cut(2)").due("moved(6)", 2).due("pair(6, 0)", 1).due("pair(6, 1)", 2);
    play.after("price(0, 9)").due("moved(7)", 0).after("back(0)").due("moved(8)", 2).due("then(8, 0, 2)", 10);
    play.after("line(2, 0, -10, false)").due("moved(9)", 3).due("pair(9, 0)", 10).due("pair(9, 1)", 20);
    play.due("pair(9, 2)", 21).due("pair(9, 3)", NONE).due("then(9, 2, 2)", 0);
    Play.sentence("a PAIR is MOVED by the act that did it, though a later one moves it back");
    play.after("cut(3)").due("moved(10)", 3).due("moved(9)", 3).due("moved(1)", 1).due("pair(1, 0)", 1);
  }

  private static void pairs() {
    Play.sentence("pair: The i-th of these, by a, then b: 10 a + b; NONE");
    Play play = posts(10).after("line(9, 8, 1, false)", "line(0, 1, 1, false)", "line(8, 0, 1, true)");
    play.due("pair(1, 0)", 98).due("pair(1, 1)", NONE).due("pair(2, 0)", 1).due("pair(2, 1)", NONE);
    int[] third = {8, 80, 81, 90, 91};
    play.due("moved(3)", third.length).due("pair(3, -1)", NONE).due("pair(3, MIN)", NONE).due("pair(3, MAX)", NONE);
    for (int i = 0; i < third.length; i++) {
      play.due(Play.call("pair", 3, i), third[i]);
    }
    play.due("pair(3, 5)", NONE).due("pair(4, 0)", UNKNOWN).due("pair(0, 0)", UNKNOWN);
    Play ten = chain(10, 1).after("line(9, 0, 1, false)").due("moved(10)", 45).due("pair(10, 0)", 10).due("pair(10, 1)", 20);
    ten.due("pair(10, 44)", 98).due("pair(10, 45)", NONE).after("cut(9)").due("moved(11)", 45).due("pair(11, 44)", 98);
  }

  private static void told() {
    Play.sentence("told: begins (0), ends (1), PRICE (2), both ways (3), THERE (4), LIFTED (5; NONE: it is not THERE)");
    Play play = Play.of("posts(10)", "line(9, 3, 99, true)", "line(2, 9, -50, false)");
    int[][] want = {{9, 3, 99, 1, 1, 49}, {2, 9, -50, 0, 1, 0}};
    for (int line = 0; line < 2; line++) {
      for (int what = 0; what < 6; what++) {
        play.due(Play.call("told", line, what), want[line][what]);
      }
      play.due(BAD, Play.call("told", line, -1), Play.call("told", line, 6), Play.call("told", line, 7));
      play.due(BAD, Play.call("told", line, Play.MIN), Play.call("told", line, Play.MAX));
    }
    play.after("cut(1)").due("told(1, 5)", NONE).due("told(1, 4)", 0).due("told(1, 2)", -50).due("told(1, 6)", BAD);
    play.due("told(1, 0)", 2).due("told(1, 1)", 9).due("told(0, 5)", 99).after("back(1)").due("told(1, 5)", 0);
  }

  private static void wayOfLines() {
    Play.sentence("way: LINE i of THE WAY; NONE: there is no WAY, or it has not so many");
    Play play = chain(10, 7);
    for (int i = 0; i < 9; i++) {
      play.due(Play.call("way", 0, 9, i), i);
    }
    play.due(NONE, "way(0, 9, 9)", "way(0, 9, 10)", "way(0, 9, -1)", "way(0, 9, MIN)", "way(0, 9, MAX)");
    play.due("way(8, 9, 0)", 8).due("way(8, 9, 1)", NONE).due(NONE, "way(9, 0, 0)", "way(9, 8, 0)", "way(9, 9, 0)");
    play.due("steps(0, 9)", 9).due("steps(8, 9)", 1).due("steps(9, 0)", NONE).due("steps(9, 9)", 0);
    play.after("cut(0)").due(NONE, "steps(0, 9)", "way(0, 9, 0)", "way(0, 9, 1)").due("way(1, 9, 7)", 8);
    new Play().due(NONE, "way(0, 1, 0)", "way(0, 0, 0)", "steps(0, 1)").due("steps(1, 1)", 0);
    Play.sentence("way: no LINE that is not THERE, though it is the first by number");
    for (int post = 0; post < 3; post++) {
      int other = (post + 1) % 3;
      Play gone = posts(3).after(Play.call("line", other, post, 1, false), Play.call("line", other, post, 1, true));
      gone.due(Play.call("way", other, post, 0), 0).after("cut(0)").due(Play.call("way", other, post, 0), 1);
      gone.after("back(0)").due(Play.call("way", other, post, 0), 0).due(Play.call("way", post, other, 0), 1);
    }
  }

  private static void without() {
    Play.sentence("without: FAR from a to b without a LINE; NONE");
    Play play = Play.of("posts(3)", "line(0, 1, 2, true)", "line(0, 1, 2, false)", "line(1, 2, 3, false)");
    play.due("without(0, 1, 0)", 2).due("without(0, 1, 1)", 2).due("without(1, 0, 0)", NONE).due("without(1, 0, 1)", 2);
    play.due("without(0, 2, 2)", NONE).due("without(0, 2, 0)", 5).due("without(0, 0, 0)", 0).due("without(2, 2, 2)", 0);
    play.after("cut(1)").due("without(0, 1, 1)", 2).due("without(0, 1, 0)", NONE).due("without(2, 0, 1)", NONE);
    play.due("far(0, 1)", 2).due("told(0, 4)", 1).due("acts()", 4);
    new Play().due(UNKNOWN, "without(0, 1, 0)", "without(0, 1, -1)");
  }

  private static void vital() {
    Play.sentence("A LINE is VITAL for a and b (to which there is a WAY), if FAR would be another one without it");
    new Play().due(NONE, "vital(0, 1, 0)", "vital(0, 0, 0)");
    Play play = Play.of("line(0, 1, 5, false)").due("vital(0, 1, 0)", 0).due("vital(0, 1, 1)", NONE);
    play.due(NONE, "vital(1, 0, 0)", "vital(0, 0, 0)", "vital(1, 1, 0)").after("line(0, 1, 6, false)").due("vital(0, 1, 0)", 0);
    play.after("price(1, 5)").due("vital(0, 1, 0)", NONE).after("price(1, 4)").due("vital(0, 1, 0)", 1);
    play.due("vital(0, 1, 1)", NONE).after("cut(1)").due("vital(0, 1, 0)", 0).after("cut(0)").due("vital(0, 1, 0)", NONE);
    Play.sentence("vital: The i-th LINE that is VITAL, by number; NONE");
    Play ten = posts(10);
    for (int post = 9; post > 0; post--) {
      ten.after(Play.call("line", post - 1, post, 1, post % 2 == 0));
    }
    for (int i = 0; i < 9; i++) {
      ten.due(Play.call("vital", 0, 9, i), i);
    }
    ten.due(NONE, "vital(0, 9, 9)", "vital(0, 9, -1)", "vital(0, 9, MIN)", "vital(0, 9, MAX)", "vital(9, 0, 0)");
    Play.sentence("VITAL, also where THE WAY is another one, and with like WAYS round a part of it");
    Play part = Play.of("posts(4)", "line(2, 3, 1, false)", "line(0, 1, 1, false)", "line(0, 1, 1, false)");
    part.after("line(1, 2, 1, false)").due("vital(0, 3, 0)", 0).due("vital(0, 3, 1)", 3).due("vital(0, 3, 2)", NONE);
    part.after("line(0, 2, 2, false)").due("vital(0, 3, 0)", 0).due("vital(0, 3, 1)", NONE);
  }

  private static void about() {
    Play.sentence("about: FAR without a POST (none of its LINES taken); NONE; STATE: it is a or b");
    Play play = Play.of("posts(4)", "line(0, 1, 1, false)", "line(1, 2, 1, false)", "line(0, 3, 9, true)", "line(3, 2, 9, true)");
    play.due("far(0, 2)", 2).due("about(0, 2, 1)", 18).due("about(0, 2, 3)", 2).due("about(2, 0, 1)", 18);
    play.due("about(2, 0, 3)", NONE).due("about(0, 1, 2)", 1).due("about(0, 0, 1)", 0).due("about(3, 3, 0)", 0);
    play.due(STATE, "about(0, 2, 0)", "about(0, 2, 2)", "about(0, 0, 0)", "about(3, 1, 3)", "about(3, 1, 1)");
    play.after("cut(3)").due("about(0, 2, 1)", NONE).due("about(0, 2, 3)", 2).due("far(0, 2)", 2);
    Play.sentence("about: none of its LINES taken, told from it or to it, one way or both");
    for (int told = 0; told < 4; told++) {
      Play each = posts(3).after(told % 2 == 0 ? "line(0, 1, 1, true)" : "line(1, 0, 1, true)");
      each.after(told / 2 == 0 ? "line(1, 2, 1, true)" : "line(2, 1, 1, true)").due("far(0, 2)", 2);
      each.due(NONE, "about(0, 2, 1)", "about(2, 0, 1)").due("about(0, 1, 2)", 1).due("about(1, 2, 0)", 1);
    }
    Play out = Play.of("posts(3)", "line(1, 0, 1, true)", "line(1, 2, 1, false)").due("about(0, 2, 1)", NONE);
    out.after("line(0, 2, 9, false)").due("about(0, 2, 1)", 9).due("far(0, 2)", 2);
    new Play().due(STATE, "about(0, 1, 0)", "about(0, 1, 1)", "about(1, 1, 1)").due("about(1, 1, 0)", 0);
    new Play().due(UNKNOWN, "about(0, 1, 2)", "about(0, 1, -1)");
  }

  private static void heights() {
    Play.sentence("THE HEIGHT of a POST is the least FAR to it from any POST (0 at most)");
    new Play().due(0, "height(0)", "height(1)").due(UNKNOWN, "height(2)", "height(-1)", "height(MIN)", "height(MAX)");
    Play play = Play.of("posts(3)", "line(0, 1, 1, false)", "line(2, 1, 5, false)").due(0, "height(0)", "height(1)", "height(2)");
    play.after("price(0, 0)").due("height(1)", 0).after("price(0, -1)").due("height(1)", -1).due("height(0)", 0);
    play.after("price(1, -2)").due("height(1)", -2).after("cut(1)").due("height(1)", -1).after("cut(0)").due("height(1)", 0);
    Play low = chain(10, -50);
    for (int post = 0; post < 10; post++) {
      low.due(Play.call("height", post), -50 * post);
    }
    low.due("height(10)", UNKNOWN).after("price(4, 99)").due("height(4)", -200).due("height(5)", -101).due("height(9)", -301);
  }

  private static void lifted() {
    Play.sentence("for each LINE that is THERE, LIFTED is 0 at least");
    Play low = chain(10, -50).due(0, "told(0, 5)", "told(4, 5)", "told(8, 5)");
    low.after("line(0, 9, 99, false)", "line(8, 9, 99, false)");
    low.due("told(9, 5)", 549).due("told(10, 5)", 149).after("cut(9)").due("told(9, 5)", NONE);
    Play.sentence("LIFTED, of one both ways the lesser one");
    Play both = Play.of("posts(3)", "line(0, 1, -50, false)", "line(1, 2, -49, false)", "line(0, 2, 99, true)");
    both.due("told(2, 5)", 0).due("height(2)", -99).after("line(2, 1, 99, true)", "line(1, 2, 99, true)");
    both.due("told(3, 5)", 50).due("told(4, 5)", 50).after("cut(1)").due("told(2, 5)", 99).due("told(3, 5)", 49);
  }

  private static void since() {
    Play.sentence("since: FAR is no more than a PRICE (-500 .. 1000)");
    Play play = Play.of("line(0, 1, 9, false)", "line(0, 1, 4, false)", "cut(1)", "cut(0)", "back(1)", "price(1, -50)");
    play.due(BAD, "since(1, 0, 1, -501)", "since(1, 0, 1, 1001)", "since(1, 0, 1, MIN)", "since(1, 0, 1, MAX)");
    play.due("since(1, 0, 1, -500)", NONE).due("since(1, 0, 1, 1000)", 1).due("since(1, 1, 0, 1000)", NONE);
    play.due("since(1, 0, 1, 9)", 1).due("since(1, 0, 1, 8)", 2).due("since(1, 0, 1, 4)", 2).due("since(1, 0, 1, 3)", 6);
    play.due("since(1, 0, 1, -50)", 6).due("since(1, 0, 1, -51)", NONE);
    Play.sentence("since: The first act from one on (1 .. acts()) AS OF which ..; NONE");
    play.due("since(2, 0, 1, 9)", 2).due("since(3, 0, 1, 9)", 3).due("since(3, 0, 1, 4)", 5).due("since(4, 0, 1, 1000)", 5);
    play.due("since(6, 0, 1, -50)", 6).due("since(6, 0, 1, -51)", NONE).due(UNKNOWN, "since(0, 0, 1, 9)", "since(7, 0, 1, 9)");
    play.due("since(1, 1, 1, 0)", 1).due("since(4, 0, 0, 0)", 4).due("since(1, 0, 0, -1)", NONE).due("since(6, 1, 1, 1000)", 6);
  }

  private static void marks() {
    Play.sentence("MARKS are a set of POSTS (as bits; none at first); BAD: a bit is no POST");
    new Play().due("count(4)", 0).due("marks(0)", 0);
    for (int n = 2; n <= 10; n++) {
      int all = (1 << n) - 1;
      Play play = posts(n).due("marks(0)", 0).due(Play.call("marks", all), 0).due("count(4)", n);
      play.due(BAD, Play.call("marks", all + 1), Play.call("marks", all + 2), Play.call("marks", 2 * all + 1));
      play.due(BAD, "marks(-1)", "marks(MIN)", "marks(MAX)", "marks(1024)", Play.call("marks", Play.MIN + 1));
      play.due(BAD, Play.call("marks", 1 << 30), Play.call("marks", -all)).due("count(4)", n);
      play.due(Play.call("marks", 1 << n - 1), all).due("count(4)", 1).due("marks(1)", 1 << n - 1).due("marks(1)", 1).due("marks(0)", 1);
    }
  }

  private static void near() {
    Play.sentence("NEAR is the least of FAR from a to m and from m to b together, of all m of MARKS; NONE: there is none");
    Play play = row(4, 2).after("line(0, 3, 1, false)").due(NONE, "near(0, 0)", "near(0, 3)", "near(3, 3)");
    play.after("marks(1)").due("near(0, 0)", 0).due("near(0, 3)", 1).due("near(3, 0)", 6).due("near(3, 3)", 7);
    play.due("near(1, 2)", 5).after("marks(2)").due("near(1, 2)", 2).due("near(0, 3)", 5).after("marks(9)").due("near(1, 2)", 5);
    play.after("marks(15)").due("near(1, 2)", 2).due("near(2, 2)", 0);
    Play.sentence("NEAR: NONE, where no WAY leads to a MARK, or from one");
    Play one = Play.of("posts(3)", "line(0, 1, 5, false)", "marks(1)").due("near(0, 1)", 5).due("near(0, 0)", 0);
    one.due(NONE, "near(1, 0)", "near(1, 1)", "near(0, 2)", "near(2, 0)").after("marks(2)").due("near(0, 1)", 5);
    one.due("near(0, 0)", NONE).due("near(1, 1)", 0).after("marks(4)").due(NONE, "near(0, 1)", "near(0, 0)").due("near(2, 2)", 0);
    one.after("marks(5)").due("near(0, 1)", 5).due("near(2, 1)", NONE);
  }

  private static void nearEnds() {
    Play.sentence("NEAR below 0, at its least and its greatest");
    Play low = chain(10, -50).after("marks(16)").due("near(0, 9)", -450).due("near(0, 4)", -200).due("near(5, 9)", NONE);
    low.after("line(0, 5, 0, false)").due("near(4, 5)", -50).due("near(0, 5)", -250);
    Play high = row(10, 99).after("marks(512)").due("near(0, 0)", 1782).due("near(0, 9)", 891).due("near(0, 1)", 1683);
    high.due("worst()", 1782).after("marks(513)").due("near(0, 0)", 0);
    Play under = Play.of("posts(3)", "line(0, 1, -9, false)", "line(1, 0, 9, false)", "marks(2)").due("near(0, 0)", 0);
    under.due("near(0, 1)", -9).due("near(1, 0)", 9).due("worst()", NONE).after("marks(6)").due("worst()", 0);
  }

  private static void worst() {
    Play.sentence("worst: The greatest of how much NEAR is above FAR, of all a, b (also of a POST to itself)");
    row(2, 7).after("marks(3)").due("worst()", 0).after("marks(1)").due("worst()", 14).after("marks(2)").due("worst()", 14);
    row(3, 1).after("marks(5)").due("worst()", 2).after("marks(2)").due("worst()", 2).after("marks(1)").due("worst()", 4);
    Play.sentence("worst: to which there is a WAY");
    Play.of("line(0, 1, 5, false)", "marks(3)").due("near(1, 0)", NONE).due("worst()", 0);
    Play.sentence("worst: (NONE: of one of these NEAR is NONE)");
    new Play().due("worst()", NONE).after("marks(1)").due("worst()", NONE).after("marks(2)").due("worst()", NONE);
    new Play().after("marks(3)").due("worst()", 0);
    row(10, 1).due("worst()", NONE).after("marks(1)").due("worst()", 18).after("cut(8)").due("worst()", NONE);
    Play last = row(10, 1).after("cut(8)", "marks(513)").due("worst()", 16).after("marks(511)").due("worst()", NONE);
    last.after("marks(1023)").due("worst()", 0).after("marks(1022)").due("worst()", 2);
  }

  private static void hitsOfOne() {
    Play.sentence("(so if k is 1, and such a WAY has one LINE, none does); NONE: no set does");
    new Play().due("hits(1)", 0);
    Play play = Play.of("posts(3)", "line(0, 1, 5, false)").due("hits(1)", NONE).due("hits(2)", 0);
    play.after("line(1, 2, 5, false)").due("hits(1)", NONE).due("hits(2)", 2).after("cut(0)", "cut(1)").due("hits(1)", 0);
    Play.sentence("HITS k (1 .. 9); BAD");
    Play ends = chain(10, 1).due(BAD, "hits(0)", "hits(10)", "hits(-1)", "hits(11)", "hits(MIN)", "hits(MAX)");
    ends.due("hits(1)", NONE).due("hits(9)", 2).due("acts()", 9).due("count(4)", 0);
    new Play().due(0, "hits(1)", "hits(2)", "hits(9)").due(BAD, "hits(0)", "hits(10)");
  }

  private static void hitsOfLength() {
    Play.sentence("each two unlike POSTS the WAY between which has k LINES or more");
    for (int n = 2; n <= 10; n++) {
      Play play = chain(n, 1);
      for (int k = 2; k <= 9; k++) {
        // One of each k - 1 posts that follow one another between the ends, the last ones as low as may be.
        int want = 0;
        for (int post = n - k; post >= 1; post -= k - 1) {
          want |= 1 << post;
        }
        play.due(Play.call("hits", k), want);
      }
    }
  }

  private static void hitsBetween() {
    Play.sentence("one of the set is on THE WAY, not at its ends");
    chain(3, 1).due("hits(2)", 2);
    Play both = row(3, 1).due("hits(2)", 2).after("line(0, 2, 2, false)").due("hits(2)", 2).after("line(2, 0, 2, false)");
    both.due("hits(2)", 0);
    Play.sentence("on THE WAY, which is one of like ones");
    Play like = Play.of("posts(4)", "line(0, 2, 1, false)", "line(0, 1, 1, false)", "line(1, 3, 1, false)", "line(2, 3, 1, false)");
    like.due("hits(2)", 4).after("line(0, 1, 0, false)", "price(4, 1)").due("hits(2)", 4).after("cut(0)").due("hits(2)", 2);
    Play.sentence("on THE WAY, there and back each by itself");
    Play round = Play.of("posts(4)", "line(0, 1, 1, false)", "line(1, 2, 1, false)", "line(2, 3, 1, false)", "line(3, 0, 1, false)");
    round.due("hits(3)", 5).due("hits(2)", 15).due("hits(4)", 0).due("hits(1)", NONE);
  }

  private static void hitsFewest() {
    Play.sentence("The fewest POSTS that HIT k; of like many the least number");
    Play least = Play.of("posts(8)", "line(3, 0, 1, false)", "line(5, 4, 1, false)", "line(0, 1, 1, false)");
    least.after("line(0, 2, 1, false)", "line(4, 1, 1, false)", "line(4, 2, 1, false)", "line(1, 6, 1, false)");
    least.after("line(2, 7, 1, false)").due("hits(3)", 0b00110).due("hits(4)", 0).due("hits(2)", 0b10111);
    least.after("cut(3)").due("hits(3)", 0b00110).after("back(3)", "cut(5)").due("hits(3)", 0b00011);
    Play few = Play.of("posts(7)", "line(6, 0, 1, false)", "line(0, 5, 1, false)", "line(5, 1, 1, false)");
    few.after("line(4, 2, 1, false)", "line(2, 5, 1, false)", "line(5, 3, 1, false)").due("hits(3)", 32);
    Play.sentence("as a set: none, one, all");
    new Play().due("hits(2)", 0);
    Play all = row(10, 1).after("line(9, 0, 1, true)").due("hits(2)", 1023).due("hits(6)", 0).due("hits(1)", NONE);
    all.due("hits(5)", 0b0000100011);
  }

  private static void count() {
    Play.sentence("count: 0 POSTS, 1 LINES, 2 that are THERE, 3 PAIRS to which there is a WAY, 4 MARKS (how many). BAD");
    Play play = new Play().due(BAD, "count(-1)", "count(5)", "count(6)", "count(MIN)", "count(MAX)");
    play.due("count(0)", 2).due(0, "count(1)", "count(2)", "count(3)", "count(4)");
    play.after("line(0, 1, 1, false)", "marks(2)").due(1, "count(1)", "count(2)", "count(3)", "count(4)");
    play.after("line(0, 1, 1, true)").due("count(3)", 2).after("cut(1)").due("count(1)", 2).due("count(2)", 1).due("count(3)", 1);
    Play ten = row(10, 1).after("marks(1023)").due("count(0)", 10).due("count(1)", 9).due("count(2)", 9);
    ten.due("count(3)", 90).due("count(4)", 10).after("cut(4)").due("count(3)", 40).due("count(5)", BAD);
    chain(10, 1).due("count(3)", 45).after("line(9, 0, 1, false)").due("count(3)", 90);
  }
}

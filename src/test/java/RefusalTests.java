import java.util.ArrayList;
import java.util.Arrays;
import java.util.Collections;
import java.util.List;

/** Each refusal, of several at once the one that is told first, and that what is refused changes nothing. */
public final class RefusalTests {
  private static final int UNKNOWN = Play.UNKNOWN;
  private static final int BAD = Play.BAD;
  private static final int STATE = Play.STATE;
  private static final int FULL = Play.FULL;

  public static void main(String[] args) {
    few(fewLines());
    fewQuestions(fewLines());
    fullOfLines();
    fullOfActs();
    fullOfBoth();
    Play.finish();
  }

  /** Lines 0 and 5 are not there; line 0 must not come back: with 1 and 4 it would make a ring of -1. */
  private static Standing fewLines() {
    return new Standing("posts(4)", "line(0, 1, 5, false)", "line(1, 2, -3, false)", "line(2, 3, 4, true)",
        "line(0, 2, 2, false)", "line(2, 0, -2, false)", "cut(0)", "price(0, 4)", "line(3, 1, 7, false)", "cut(5)",
        "marks(6)").asked(4, 6, 9)
        .then("line(0, 1, 99, false)", "price(3, 3)", "cut(3)", "back(3)", "back(5)", "marks(0)", "acts()",
            "posts(3)", "line(0, 1, -4, false)", "acts()");
  }

  private static void few(Standing few) {
    few.of("posts").refused(BAD, "posts(1)", "posts(11)", "posts(0)", "posts(MIN)", "posts(MAX)");
    few.of("line: UNKNOWN: a, b").refused(UNKNOWN, "line(-1, 1, 1, false)", "line(4, 1, 1, false)",
        "line(1, -1, 1, true)", "line(1, 4, 1, true)", "line(MIN, 1, 1, false)", "line(1, MAX, 1, false)");
    few.of("line: UNKNOWN ahead of BAD").refused(UNKNOWN, "line(4, 1, 100, false)", "line(1, 4, -51, false)",
        "line(-1, 1, -1, true)", "line(1, -1, 100, true)");
    few.of("line: UNKNOWN ahead of STATE").refused(UNKNOWN, "line(4, 4, 1, false)", "line(-1, -1, 100, true)");
    few.of("line: BAD: price").refused(BAD, "line(0, 1, 100, false)", "line(0, 1, -51, false)",
        "line(0, 1, -1, true)", "line(0, 1, 100, true)", "line(0, 1, MIN, false)", "line(0, 1, MAX, true)");
    few.of("line: BAD ahead of STATE").refused(BAD, "line(1, 1, 100, false)", "line(1, 1, -1, true)",
        "line(2, 0, -51, false)", "line(2, 0, -1, true)", "line(2, 2, -51, false)");
    few.of("line: STATE: a and b are one").refused(STATE, "line(0, 0, 99, false)", "line(3, 3, 0, true)",
        "line(1, 1, -50, false)", "line(2, 2, 5, true)");
    few.of("line: STATE: a RING would be below 0").refused(STATE, "line(2, 0, -3, false)", "line(0, 2, 1, false)",
        "line(0, 2, 1, true)", "line(2, 0, 1, true)", "line(2, 1, 2, false)", "line(3, 2, -5, false)");
    few.of("price: UNKNOWN").refused(UNKNOWN, "price(-1, 1)", "price(6, 1)", "price(40, 1)", "price(MIN, 1)", "price(MAX, 1)");
    few.of("price: UNKNOWN ahead of BAD").refused(UNKNOWN, "price(6, 100)", "price(-1, -51)");
    few.of("price: BAD").refused(BAD, "price(3, 100)", "price(0, -51)", "price(0, 100)", "price(2, 100)", "price(3, MAX)");
    few.of("price: BAD ahead of STATE").refused(BAD, "price(3, -51)", "price(4, -51)", "price(2, -1)", "price(2, -50)");
    few.of("price: STATE").refused(STATE, "price(3, 1)", "price(4, -3)", "price(3, -50)", "price(4, -50)");
    few.of("cut: UNKNOWN").refused(UNKNOWN, "cut(-1)", "cut(6)", "cut(40)", "cut(MIN)", "cut(MAX)");
    few.of("cut: STATE: it is not THERE").refused(STATE, "cut(0)", "cut(5)");
    few.of("back: UNKNOWN").refused(UNKNOWN, "back(-1)", "back(6)", "back(40)", "back(MIN)", "back(MAX)");
    few.of("back: STATE: it is THERE, or a RING would be below 0").refused(STATE, "back(1)", "back(2)", "back(4)", "back(0)");
    few.of("marks: BAD: a bit is no POST").refused(BAD, "marks(16)", "marks(17)", "marks(-1)", "marks(MIN)", "marks(1024)");
    few.inARow();
    few.questionsChangeNothing();
  }

  private static void fewQuestions(Standing few) {
    few.of("told: UNKNOWN; BAD").refused(UNKNOWN, "told(-1, 0)", "told(6, 0)", "told(MAX, 5)");
    few.of("told: UNKNOWN ahead of BAD").refused(UNKNOWN, "told(6, 6)", "told(-1, -1)", "told(MIN, MAX)");
    few.of("told: BAD").refused(BAD, "told(0, -1)", "told(5, 6)", "told(1, MIN)", "told(1, MAX)");
    few.of("UNKNOWN: a, b").refused(UNKNOWN, "far(4, 0)", "far(0, 4)", "far(-1, 0)", "far(0, -1)", "steps(4, 4)",
        "steps(-1, 0)", "way(0, 4, 0)", "way(-1, 0, -1)", "vital(4, 0, 0)", "vital(0, -1, -1)", "near(4, 0)", "near(0, -1)");
    few.of("without: UNKNOWN").refused(UNKNOWN, "without(4, 0, 0)", "without(0, 4, 0)", "without(0, 1, 6)",
        "without(0, 1, -1)", "without(1, 1, 6)", "without(4, 4, 40)");
    few.of("about: UNKNOWN").refused(UNKNOWN, "about(4, 0, 1)", "about(0, 4, 1)", "about(0, 1, 4)", "about(0, 1, -1)");
    few.of("about: UNKNOWN ahead of STATE").refused(UNKNOWN, "about(4, 0, 0)", "about(0, 4, 0)", "about(0, 4, 4)",
        "about(4, 0, 4)", "about(4, 4, 4)", "about(-1, 1, -1)", "about(-1, 1, 1)");
    few.of("about: STATE: it is a or b").refused(STATE, "about(0, 1, 0)", "about(0, 1, 1)", "about(2, 2, 2)");
    few.of("height: UNKNOWN").refused(UNKNOWN, "height(4)", "height(-1)", "height(MIN)", "height(MAX)");
    few.of("moved, pair: UNKNOWN").refused(UNKNOWN, "moved(0)", "moved(10)", "moved(-1)", "pair(0, 0)", "pair(10, 0)", "pair(-1, -1)");
    few.of("then: UNKNOWN: a, b, act (0 .. acts())").refused(UNKNOWN, "then(10, 0, 1)", "then(-1, 0, 1)",
        "then(0, 4, 1)", "then(0, 1, 4)", "then(9, -1, 1)", "then(10, 4, 4)");
    few.of("since: UNKNOWN").refused(UNKNOWN, "since(0, 0, 1, 5)", "since(10, 0, 1, 5)", "since(1, 4, 1, 5)", "since(1, 0, -1, 5)");
    few.of("since: UNKNOWN ahead of BAD").refused(UNKNOWN, "since(0, 0, 1, 1001)", "since(10, 0, 1, -501)",
        "since(1, 4, 1, 1001)", "since(1, 0, 4, -501)", "since(-1, -1, -1, MAX)");
    few.of("since: BAD").refused(BAD, "since(1, 0, 1, 1001)", "since(9, 0, 1, -501)", "since(1, 0, 0, MIN)", "since(1, 0, 0, MAX)");
    few.of("hits, count: BAD").refused(BAD, "hits(0)", "hits(10)", "hits(-1)", "hits(MAX)", "count(-1)", "count(5)", "count(MIN)");
    few.inARow();
  }

  private static void fullOfLines() {
    Standing full = new Standing("posts(3)", "line(0, 1, -5, false)", "line(1, 2, 9, true)");
    for (int line = 2; line < 40; line++) {
      full.begun("line(0, 1, -5, false)");
    }
    full.begun("cut(39)", "marks(4)").asked(3, 40, 41)
        .then("line(0, 1, 1, false)", "price(39, 7)", "back(39)", "acts()", "marks(0)", "posts(2)", "line(0, 1, 1, true)");
    full.of("line: FULL: 40 LINES").refused(FULL, "line(1, 0, 5, false)", "line(0, 2, 1, false)", "line(0, 1, 5, true)");
    full.of("line: UNKNOWN ahead of FULL").refused(UNKNOWN, "line(3, 0, 1, false)", "line(0, -1, 100, true)", "line(3, 3, 1, false)");
    full.of("line: BAD ahead of FULL").refused(BAD, "line(0, 1, 100, false)", "line(1, 1, 100, false)",
        "line(1, 0, -51, false)", "line(0, 1, -1, true)");
    full.of("line: STATE ahead of FULL").refused(STATE, "line(1, 1, 1, false)", "line(1, 0, 4, false)",
        "line(0, 1, 4, true)", "line(2, 0, -5, false)");
    full.of("UNKNOWN: LINE 40").refused(UNKNOWN, "price(40, 1)", "cut(40)", "back(40)", "told(40, 0)", "without(0, 1, 40)");
    full.inARow();
    full.questionsChangeNothing();
  }

  /** Lines 1 and 3 are not there; line 1 must not come back: with 0 it would make a ring of -1. */
  private static void fullOfActs() {
    Standing full = new Standing("posts(3)", "line(0, 1, 6, false)", "line(1, 0, 5, false)", "cut(1)", "price(1, -7)",
        "line(1, 2, 3, true)", "line(2, 0, 9, false)", "cut(3)", "line(1, 0, 20, false)");
    for (int act = 9; act <= 400; act++) {
      full.begun(Play.call("price", 2, 3 + act % 2));
    }
    full.begun("marks(5)").asked(3, 5, 400)
        .then("price(2, 3)", "price(1, -7)", "acts()", "marks(0)", "posts(2)", "line(0, 1, 1, true)", "acts()");
    full.of("line: FULL: 400 acts").refused(FULL, "line(1, 0, -6, false)", "line(0, 2, 1, true)", "line(2, 0, -9, false)");
    full.of("line: UNKNOWN ahead of FULL").refused(UNKNOWN, "line(3, 0, 1, false)", "line(0, 3, 100, false)", "line(-1, -1, 1, true)");
    full.of("line: BAD ahead of FULL").refused(BAD, "line(0, 1, 100, false)", "line(0, 1, -1, true)", "line(1, 1, 100, false)");
    full.of("line: STATE ahead of FULL").refused(STATE, "line(1, 1, 1, false)", "line(1, 0, -7, false)", "line(2, 0, -10, false)");
    full.of("price: FULL: 400 acts").refused(FULL, "price(0, 7)", "price(1, -8)", "price(2, 4)", "price(4, -6)");
    full.of("price: UNKNOWN ahead of FULL").refused(UNKNOWN, "price(5, 1)", "price(-1, 1)", "price(5, 100)");
    full.of("price: BAD ahead of FULL").refused(BAD, "price(0, 100)", "price(1, -51)", "price(2, -1)", "price(4, -51)");
    full.of("price: STATE ahead of FULL").refused(STATE, "price(4, -7)", "price(0, -21)");
    full.of("cut: FULL: 400 acts").refused(FULL, "cut(0)", "cut(2)", "cut(4)");
    full.of("cut: UNKNOWN ahead of FULL").refused(UNKNOWN, "cut(5)", "cut(-1)");
    full.of("cut: STATE ahead of FULL").refused(STATE, "cut(1)", "cut(3)");
    full.of("back: FULL: 400 acts").refused(FULL, "back(3)");
    full.of("back: UNKNOWN ahead of FULL").refused(UNKNOWN, "back(5)", "back(-1)");
    full.of("back: STATE ahead of FULL").refused(STATE, "back(0)", "back(2)", "back(1)");
    full.of("UNKNOWN: act 401").refused(UNKNOWN, "moved(401)", "pair(401, 0)", "then(401, 0, 1)", "since(401, 0, 1, 5)");
    full.inARow();
    full.questionsChangeNothing();
  }

  private static void fullOfBoth() {
    Standing full = new Standing("posts(2)");
    for (int line = 0; line < 40; line++) {
      full.begun("line(0, 1, 5, false)");
    }
    for (int act = 41; act <= 400; act++) {
      full.begun(Play.call("price", 39, 5 + act % 2));
    }
    full.asked(2, 40, 400).then("acts()", "posts(2)", "line(0, 1, 5, false)");
    full.of("line: FULL: 40 LINES, or 400 acts").refused(FULL, "line(0, 1, 5, false)", "line(1, 0, 0, true)");
    full.of("STATE ahead of FULL").refused(STATE, "line(1, 0, -6, false)", "line(1, 1, 0, false)", "back(39)");
    full.of("FULL: 400 acts").refused(FULL, "price(39, 7)", "cut(39)");
    full.inARow();
  }

  /** How an object stands behind some calls, and all that it can be asked then. */
  private static final class Standing {
    private static final int MOST_CALLS = 512;

    private final List<String> built = new ArrayList<>();
    private final List<String> questions = new ArrayList<>();
    private final List<String> refused = new ArrayList<>();
    private final List<Integer> answers = new ArrayList<>();
    private String[] later = {};

    Standing(String... calls) {
      begun(calls);
    }

    Standing begun(String... calls) {
      built.addAll(Arrays.asList(calls));
      return this;
    }

    Standing of(String sentence) {
      Play.sentence(sentence);
      return this;
    }

    /** What can be asked of so many posts, lines and acts, with one more of each, which there is not. */
    Standing asked(int posts, int lines, int acts) {
      ask("count", 5);
      questions.addAll(Arrays.asList("acts()", "ring()", "worst()"));
      ask("hits", 10);
      ask("height", posts + 1);
      for (String name : new String[] {"far", "steps", "near"}) {
        ask(name, posts + 1, posts);
      }
      ask("way", posts, posts, 4);
      ask("vital", posts, posts, 3);
      ask("about", posts, posts, posts);
      ask("told", lines + 1, 6);
      ask("without", posts, posts, Math.min(lines + 1, 7));
      ask("moved", acts + 2);
      ask("then", acts + 2, posts, posts);
      ask("pair", Math.min(acts + 2, 60), 4);
      ask("since", Math.min(acts + 2, 15), posts, posts, 12);
      List<String> none = Collections.emptyList();
      answers.addAll(answersBehind(none));
      return this;
    }

    /** Calls that would tell what no question does: what they answer must not hang on a refused call. */
    Standing then(String... calls) {
      later = calls;
      return this;
    }

    void refused(int want, String... calls) {
      for (String call : calls) {
        refused.add(call);
        build().due(call, want);
        compare(Collections.singletonList(call));
      }
    }

    void inARow() {
      of("What is refused changes nothing: " + refused.size() + " in a row");
      compare(refused);
    }

    void questionsChangeNothing() {
      of("a question changes nothing");
      int most = (MOST_CALLS - built.size()) / 2;
      for (int first = 0; first < questions.size(); first += most) {
        int end = Math.min(first + most, questions.size());
        Play play = build();
        for (int i = end - 1; i >= first; i--) {
          play.due(questions.get(i), answers.get(i));
        }
        for (int i = first; i < end; i++) {
          play.due(questions.get(i), answers.get(i));
        }
      }
    }

    private Play build() {
      return Play.of(built.toArray(new String[0]));
    }

    private void compare(List<String> calls) {
      List<Integer> got = answersBehind(calls);
      for (int i = 0; i < got.size(); i++) {
        if (!got.get(i).equals(answers.get(i))) {
          Play.miss("behind " + calls + " " + questions.get(i) + " answered " + got.get(i) + ", before " + answers.get(i));
        }
      }
      if (!laterBehind(calls).equals(laterBehind(Collections.emptyList()))) {
        Play.miss("behind " + calls + " " + Arrays.toString(later) + " answered " + laterBehind(calls));
      }
    }

    private List<Integer> answersBehind(List<String> calls) {
      List<Integer> got = new ArrayList<>();
      Play play = null;
      int room = 0;
      for (String question : questions) {
        if (room == 0) {
          play = behind(calls);
          room = MOST_CALLS - built.size() - calls.size();
        }
        got.add(play.answer(question));
        room--;
      }
      return got;
    }

    private List<Integer> laterBehind(List<String> calls) {
      List<Integer> got = new ArrayList<>();
      Play play = behind(calls);
      for (String each : later) {
        got.add(play.answer(each));
      }
      return got;
    }

    private Play behind(List<String> calls) {
      Play play = build();
      for (String each : calls) {
        play.answer(each);
      }
      return play;
    }

    private void ask(String name, int... ends) {
      int[] at = new int[ends.length];
      for (int i = 0; i < at.length && ends[i] > 0; ) {
        Object[] given = new Object[at.length];
        for (int k = 0; k < at.length; k++) {
          given[k] = at[k];
        }
        questions.add(Play.call(name, given));
        for (i = 0; i < at.length && ++at[i] == ends[i]; i++) {
          at[i] = 0;
        }
      }
    }
  }
}

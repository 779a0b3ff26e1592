/**
 * What the tests of single sentences share. A test has a sentence of the document as its name, and
 * keeps each object below 512 calls: two ways to a state are compared on new objects again and again.
 */
final class Checks {
  static final int INVALID = -1, NOT_POSSIBLE = -2, LIMIT = -3, NOT_FOUND = -4;
  static final int LOW = Integer.MIN_VALUE, HIGH = Integer.MAX_VALUE;
  private static final int FACTS = 48 + 30 + 40 + 16 + 4 + 5 * 20 * 4;
  private static String sentence = "";
  private static int tests = 0;
  private static int wrong = 0;

  private Checks() {
  }

  /** A run of calls that leads an object into a state. */
  interface Way {
    void go(CupEye x);
  }

  /** A single call, and what it answers. */
  interface Call {
    int ask(CupEye x);
  }

  /** A call with one number that has a range. */
  interface Ranged {
    int ask(int value);
  }

  static void test(String name, Runnable body) {
    sentence = name;
    tests++;
    body.run();
  }

  static void due(String what, double got, double want) {
    if (got != want) {
      wrong++;
      System.out.println("'" + sentence + "', " + what + ": answered " + got + ", due is " + want);
    }
  }

  static void end() {
    System.out.println(wrong == 0 ? "all " + tests + " sentences hold" : wrong + " answers are not as due");
    if (wrong != 0) {
      System.exit(1);
    }
  }

  static void type(CupEye x, String text) {
    for (char sign : text.toCharArray()) {
      x.append(sign);
    }
  }

  static CupEye typed(String text) {
    CupEye x = new CupEye();
    type(x, text);
    return x;
  }

  /** With a rule that every apple meets. */
  static CupEye allTo(int lane) {
    CupEye x = new CupEye();
    x.rule(0, 50, 0, 9, lane);
    return x;
  }

  /** As many apples, 100 and more in weight, in the box of a lane; the belt is empty. */
  static CupEye filled(int lane, int apples) {
    CupEye x = allTo(lane);
    x.set(CupEye.FILL, 20);
    for (int i = 0; i < apples; i++) {
      x.lay(100 + i, 50, 0);
      x.pass(1);
    }
    x.pass(12);
    return x;
  }

  static CupEye withRules(int number) {
    CupEye x = new CupEye();
    for (int i = 0; i < number; i++) x.rule(i, 60 + i, i, i, i % 4);
    return x;
  }

  /** What is within the range is not refused as out of it; what is outside is. */
  static void range(String what, int least, int most, Ranged call) {
    for (int value : new int[] {least, least + 1, most - 1, most}) {
      due(what + " " + value + " is refused", call.ask(value) == INVALID ? 1 : 0, 0);
    }
    for (int value : new int[] {least - 1, most + 1, LOW, LOW + 1, HIGH - 1, HIGH}) {
      due(what + " " + value, call.ask(value), INVALID);
    }
  }

  /** All that can be looked at: fewer than 300 calls, if there are not over 35 apples in the boxes. */
  static double[] facts(CupEye x) {
    double[] all = new double[FACTS];
    int n = 0;
    for (int i = 0; i < 48; i++) all[n++] = x.cup(i / 4, i % 4);
    for (int i = 0; i < 30; i++) all[n++] = x.box(i / 6, i % 6);
    for (int i = 0; i < 40; i++) all[n++] = x.ruleOf(i / 5, i % 5);
    for (int i = 0; i < 16; i++) all[n++] = x.count(i);
    all[n++] = x.right();
    all[n++] = x.fault(0);
    all[n++] = x.fault(1);
    all[n++] = x.lane(100, 50, 5, 0);
    for (int lane = 0; lane < 5; lane++) {
      for (int apple = 0; apple < x.box(lane, 0) && apple < 20; apple++) {
        for (int what = 0; what < 4; what++) all[n++] = x.apple(lane, apple, what);
      }
    }
    return all;
  }

  private static void undo(CupEye x, int times) {
    for (int i = 0; i < times; i++) x.undo();
  }

  private static void restart(CupEye x) {
    x.undo();
    x.restore();
  }

  private static void runPad(CupEye x) {
    x.pass(1);
    x.run();
  }

  /** Brings to light what looks can't tell: the pad's characters, the history and the snapshot. */
  private static final Way[] ENDS = {
    x -> { }, x -> undo(x, 1), x -> undo(x, 2), x -> undo(x, 3), x -> undo(x, 4), x -> undo(x, 5),
    x -> x.restore(), Checks::restart, x -> x.rules(), Checks::runPad,
  };

  /** The two ways lead to the same state: also to the same pad, history and snapshot. */
  static void same(String what, Way one, Way other) {
    for (int end = 0; end < ENDS.length; end++) {
      double[] some = factsAfter(one, ENDS[end]);
      double[] others = factsAfter(other, ENDS[end]);
      for (int i = 0; i < FACTS; i++) {
        if (some[i] != others[i]) due(what + ", end " + end + ", fact " + i, some[i], others[i]);
      }
    }
  }

  private static double[] factsAfter(Way way, Way end) {
    CupEye x = new CupEye();
    way.go(x);
    end.go(x);
    return facts(x);
  }

  /** In this state the call answers with the error, and changes nothing. */
  static void refused(String what, Way state, Call call, int error) {
    CupEye x = new CupEye();
    state.go(x);
    due(what, call.ask(x), error);
    same(what, y -> {
      state.go(y);
      call.ask(y);
    }, state);
  }
}

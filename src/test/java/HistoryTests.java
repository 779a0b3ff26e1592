import java.util.ArrayList;
import java.util.List;

/** What is refused and changes nothing; what is a change; what undo, save and restore take back and leave. */
public final class HistoryTests {
  private static final int INVALID = Checks.INVALID, NOT_POSSIBLE = Checks.NOT_POSSIBLE;
  private static final int LIMIT = Checks.LIMIT, NOT_FOUND = Checks.NOT_FOUND;
  private static final int LOW = Checks.LOW, HIGH = Checks.HIGH;
  private static final String APPLES = "w100r60b1,&w60r0b9,x,w200r5b0";
  private static final String RULES = "w70r10b8>2,w60r0b9>1";

  private static void test(String sentence, Runnable body) {
    Checks.test(sentence, body);
  }

  private static void due(String what, double got, double want) {
    Checks.due(what, got, want);
  }

  // ---- states

  private static void fresh(CupEye x) {
  }

  /** Something of everything: rules, a dry lane, settings, cups, boxes, all tallies, a snapshot, a full history. */
  private static void busy(CupEye x) {
    x.rule(0, 100, 50, 5, 0);
    x.rule(1, 60, 20, 9, 1);
    x.water(0);
    x.set(CupEye.FILL, 1);
    x.lay(150, 80, 2);
    x.pass(1);
    x.lay(151, 81, 3);
    x.pass(2);
    x.lay(160, 90, 0);
    x.lay(161, 91, 1);
    x.pass(12);
    x.empty(0);
    x.lay(152, 82, 4);
    x.pass(2);
    x.lay(70, 30, 8);
    x.save();
    x.pass(1);
    x.set(CupEye.BIAS, -3);
    x.set(CupEye.GLOW, 3);
    x.lay(120, 55, 0);
    Checks.type(x, "w50r0b0");
  }

  /**
   * Apples in all boxes but the rest. With the next tick an apple falls into a dry lane, one runs over, one falls out,
   * and a double is graded.
   */
  private static void brink(CupEye x) {
    for (int lane = 3; lane >= 0; lane--) x.rule(3 - lane, 100 + 50 * lane, 0, 9, lane);
    x.set(CupEye.FILL, 2);
    Checks.type(x, "w250r1b1,w200r2b2,w150r3b3,w100r4b4,w101r5b5");
    x.run();
    x.pass(8);
    x.water(1);
    x.lay(50, 9, 9);
    x.pass(8);
    Checks.type(x, "w151r6b6,x,w102r7b7");
    x.run();
    x.save();
    x.lay(61, 6, 6);
    x.lay(62, 7, 7);
    Checks.type(x, "w50r0b0");
  }

  /** The same state with an empty history: four changes are undone again. */
  private static Checks.Way withoutHistory(Checks.Way state) {
    return x -> {
      state.go(x);
      for (int i = 0; i < 4; i++) x.water(3);
      for (int i = 0; i < 4; i++) x.undo();
    };
  }

  /** Two apples below the eye, eight rules, sixty characters. */
  private static void full(CupEye x) {
    for (int i = 0; i < 8; i++) x.rule(i, 60 + i, i, i, i % 4);
    x.lay(100, 0, 0);
    x.lay(101, 0, 0);
    for (int i = 0; i < 30; i++) Checks.type(x, i == 29 ? "xx" : "x,");
  }

  private static void applesTyped(CupEye x) {
    busy(x);
    x.clear();
    Checks.type(x, APPLES);
  }

  private static void rulesTyped(CupEye x) {
    busy(x);
    x.clear();
    Checks.type(x, RULES);
  }

  private static final Checks.Way[] STATES = {HistoryTests::fresh, HistoryTests::busy, HistoryTests::full};
  private static final String[] STATE_NAMES = {"new: ", "busy: ", "full: "};

  // ---- refusals

  private static void refused(String what, Checks.Call call, int error) {
    for (int i = 0; i < STATES.length; i++) Checks.refused(STATE_NAMES[i] + what, STATES[i], call, error);
  }

  /** Arguments out of their ranges, in any state; also where another error would apply. */
  private static void refusedArguments() {
    for (int out : new int[] {49, 301, LOW, HIGH}) {
      refused("lay, weight " + out, x -> x.lay(out, 50, 5), INVALID);
      refused("rule, weight " + out, x -> x.rule(0, out, 50, 5, 0), INVALID);
    }
    for (int out : new int[] {-1, 101, LOW, HIGH}) {
      refused("lay, red " + out, x -> x.lay(100, out, 5), INVALID);
      refused("rule, red " + out, x -> x.rule(0, 100, out, 5, 0), INVALID);
    }
    for (int out : new int[] {-1, 10, LOW, HIGH}) {
      refused("lay, bruise " + out, x -> x.lay(100, 50, out), INVALID);
      refused("rule, bruise " + out, x -> x.rule(0, 100, 50, out, 0), INVALID);
    }
    for (int out : new int[] {-1, 4, LOW, HIGH}) {
      refused("rule, lane " + out, x -> x.rule(0, 100, 50, 5, out), INVALID);
      refused("water, lane " + out, x -> x.water(out), INVALID);
    }
    for (int out : new int[] {-1, 9, LOW, HIGH}) {
      refused("rule, place " + out, x -> x.rule(out, 100, 50, 5, 0), INVALID);
      refused("drop " + out, x -> x.drop(out), INVALID);
    }
    for (int out : new int[] {0, 31, -1, LOW, HIGH}) refused("pass " + out, x -> x.pass(out), INVALID);
    for (int out : new int[] {-1, 5, LOW, HIGH}) refused("empty " + out, x -> x.empty(out), INVALID);
    for (int out : new int[] {-1, 3, LOW, HIGH}) refused("set, what " + out, x -> x.set(out, 5), INVALID);
    for (int out : new int[] {-21, 21, LOW, HIGH}) refused("set, BIAS " + out, x -> x.set(0, out), INVALID);
    for (int out : new int[] {-1, 10, LOW, HIGH}) refused("set, GLOW " + out, x -> x.set(1, out), INVALID);
    for (int out : new int[] {0, 21, LOW, HIGH}) refused("set, FILL " + out, x -> x.set(2, out), INVALID);
    for (int out : new int[] {32, 127, LOW, HIGH}) refused("append " + out, x -> x.append(out), INVALID);
    refused("fault 2", x -> x.fault(2), INVALID);
    refused("cup 12", x -> x.cup(12, 0), INVALID);
    refused("apple -1", x -> x.apple(4, -1, 0), INVALID);
    refused("box 5", x -> x.box(5, 0), INVALID);
    refused("ruleOf 8", x -> x.ruleOf(8, 0), INVALID);
    refused("lane, way 2", x -> x.lane(100, 50, 5, 2), INVALID);
    refused("misses 8", x -> x.misses(8, 100, 50, 5), INVALID);
    refused("count 16", x -> x.count(16), INVALID);
    refused("ifPassed 31", x -> x.ifPassed(31, 0), INVALID);
    refused("tightest, enough 0", x -> x.tightest(0, 0), INVALID);
  }

  private static void refusals() {
    test("A call that returns an error changes nothing: INVALID_ARGUMENT", HistoryTests::refusedArguments);
    test("A call that returns an error changes nothing: NOT_POSSIBLE", () -> {
      Checks.refused("rules, an empty pad", HistoryTests::fresh, x -> x.rules(), NOT_POSSIBLE);
      Checks.refused("run, an empty pad", HistoryTests::fresh, x -> x.run(), NOT_POSSIBLE);
      Checks.refused("undo, no state", HistoryTests::fresh, x -> x.undo(), NOT_POSSIBLE);
      Checks.refused("restore, no snapshot", HistoryTests::fresh, x -> x.restore(), NOT_POSSIBLE);
      Checks.refused("restore, no snapshot", HistoryTests::full, x -> x.restore(), NOT_POSSIBLE);
      Checks.refused("rules, apples on the pad", HistoryTests::busy, x -> x.rules(), NOT_POSSIBLE);
      Checks.refused("rules, apples on the pad", HistoryTests::applesTyped, x -> x.rules(), NOT_POSSIBLE);
      Checks.refused("rules, a fault at the end", HistoryTests::full, x -> x.rules(), NOT_POSSIBLE);
      Checks.refused("run, rules on the pad", HistoryTests::rulesTyped, x -> x.run(), NOT_POSSIBLE);
      Checks.refused("rules, the last part has a fault", x -> {
        rulesTyped(x);
        x.append(',');
      }, x -> x.rules(), NOT_POSSIBLE);
      Checks.refused("run, the last part has a fault", x -> {
        applesTyped(x);
        x.pass(1);
        x.append('!');
      }, x -> x.run(), NOT_POSSIBLE);
      Checks.refused("undo, all is undone", x -> {
        busy(x);
        for (int i = 0; i < 4; i++) x.undo();
      }, x -> x.undo(), NOT_POSSIBLE);
    });
    test("A call that returns an error changes nothing: LIMIT_REACHED", () -> {
      Checks.refused("lay", HistoryTests::full, x -> x.lay(100, 50, 5), LIMIT);
      Checks.refused("rule", HistoryTests::full, x -> x.rule(0, 100, 50, 5, 0), LIMIT);
      Checks.refused("rule", HistoryTests::full, x -> x.rule(8, 100, 50, 5, 0), LIMIT);
      Checks.refused("append", HistoryTests::full, x -> x.append('x'), LIMIT);
      Checks.refused("run", HistoryTests::applesTyped, x -> x.run(), LIMIT);
    });
    test("A call that returns an error changes nothing: NOT_FOUND", () -> {
      Checks.refused("fault", HistoryTests::applesTyped, x -> x.fault(0), NOT_FOUND);
      Checks.refused("fault", HistoryTests::rulesTyped, x -> x.fault(1), NOT_FOUND);
      Checks.refused("cup", HistoryTests::busy, x -> x.cup(0, 1), NOT_FOUND);
      Checks.refused("cup", HistoryTests::fresh, x -> x.cup(11, 3), NOT_FOUND);
      Checks.refused("apple", HistoryTests::busy, x -> x.apple(4, 3, 0), NOT_FOUND);
      Checks.refused("box", HistoryTests::fresh, x -> x.box(4, 3), NOT_FOUND);
      Checks.refused("box", HistoryTests::fresh, x -> x.box(4, 4), NOT_FOUND);
      Checks.refused("ifPassed", HistoryTests::fresh, x -> x.ifPassed(30, 3), NOT_FOUND);
      Checks.refused("tightest", HistoryTests::busy, x -> x.tightest(0, 20), NOT_FOUND);
    });
  }

  private static void severalErrors() {
    test("If several errors apply to a call, INVALID_ARGUMENT is returned rather than [...] LIMIT_REACHED,", () -> {
      Checks.refused("lay", HistoryTests::full, x -> x.lay(301, 101, 10), INVALID);
      Checks.refused("rule, place", HistoryTests::full, x -> x.rule(9, 100, 50, 5, 0), INVALID);
      Checks.refused("rule, lane", HistoryTests::full, x -> x.rule(8, 100, 50, 5, 4), INVALID);
      Checks.refused("append", HistoryTests::full, x -> x.append(127), INVALID);
    });
    test("INVALID_ARGUMENT rather than NOT_FOUND,", () -> {
      Checks.refused("fault", HistoryTests::applesTyped, x -> x.fault(2), INVALID);
      Checks.refused("cup", HistoryTests::fresh, x -> x.cup(12, 3), INVALID);
      Checks.refused("apple", HistoryTests::fresh, x -> x.apple(0, 0, 4), INVALID);
      Checks.refused("apple", HistoryTests::fresh, x -> x.apple(0, -1, 0), INVALID);
      Checks.refused("box", HistoryTests::fresh, x -> x.box(5, 3), INVALID);
      Checks.refused("ifPassed", HistoryTests::fresh, x -> x.ifPassed(0, 3), INVALID);
      Checks.refused("tightest", HistoryTests::busy, x -> x.tightest(0, 21), INVALID);
      Checks.refused("tightest", HistoryTests::busy, x -> x.tightest(2, 20), INVALID);
    });
    test("NOT_POSSIBLE rather than LIMIT_REACHED,", () -> {
      Checks.refused("run, rules on the pad and apples below the eye", HistoryTests::rulesTyped, x -> x.run(),
          NOT_POSSIBLE);
      Checks.refused("run, a fault and a full cup", HistoryTests::full, x -> x.run(), NOT_POSSIBLE);
    });
    test("If there is no rule of a certain number, this is INVALID_ARGUMENT.", () -> {
      for (int i : new int[] {-1, 2, 8, LOW, HIGH}) {
        Checks.refused("drop " + i, HistoryTests::busy, x -> x.drop(i), INVALID);
        Checks.refused("ruleOf " + i, HistoryTests::busy, x -> x.ruleOf(i, 0), INVALID);
        Checks.refused("misses " + i, HistoryTests::busy, x -> x.misses(i, 100, 50, 5), INVALID);
        Checks.refused("tightest " + i, HistoryTests::busy, x -> x.tightest(i, 1), INVALID);
      }
      Checks.refused("drop, no rule at all", HistoryTests::fresh, x -> x.drop(0), INVALID);
    });
  }

  // ---- changes

  /** Each kind of change, so that there is something for it to do in the busy state. */
  private static final Checks.Call[] CHANGES = {
    x -> x.lay(60, 6, 6), x -> x.pass(1), x -> x.pass(30), x -> x.rule(0, 60, 6, 6, 3), x -> x.rule(2, 60, 6, 6, 3),
    x -> x.drop(0), x -> x.drop(1), x -> x.water(0), x -> x.water(3), x -> x.empty(0), x -> x.empty(4),
    x -> x.set(CupEye.BIAS, 20), x -> x.set(CupEye.GLOW, 9), x -> x.set(CupEye.FILL, 20), x -> x.restore(),
  };

  private static final Checks.Call[] NO_CHANGES = {
    x -> x.append('x'), x -> x.clear(), x -> x.fault(0), x -> x.fault(1), x -> x.cup(0, 3), x -> x.apple(4, 0, 3),
    x -> x.box(0, 2), x -> x.ruleOf(0, 4), x -> x.lane(100, 50, 5, 0), x -> x.lane(100, 50, 5, 1),
    x -> x.misses(0, 100, 50, 5), x -> x.count(15), x -> (int) x.right(), x -> x.ifPassed(30, 2), x -> x.tightest(0, 1),
    x -> x.save(),
  };

  private static CupEye led(Checks.Way... ways) {
    CupEye x = new CupEye();
    for (Checks.Way way : ways) way.go(x);
    return x;
  }

  private static void changes() {
    test("The changes are the calls of lay, pass, rule, drop, water, empty, set, rules, run and restore"
        + " that return no error.", () -> {
          for (int i = 0; i < CHANGES.length; i++) {
            CupEye x = led(HistoryTests::busy);
            x.undo();
            due("no error of change " + i, CHANGES[i].ask(x) >= 0 ? 1 : 0, 1);
            due("states after change " + i, x.count(15), 4);
          }
          CupEye rules = led(HistoryTests::rulesTyped);
          rules.undo();
          rules.rules();
          due("states after rules", rules.count(15), 4);
          CupEye run = led(HistoryTests::applesTyped);
          run.undo();
          due("one falls", run.run(), 1);
          due("states after run", run.count(15), 4);
        });
    test("(append, clear, looks, what would be, save and undo are no changes)", () -> {
      for (int i = 0; i < NO_CHANGES.length; i++) {
        CupEye x = led(HistoryTests::busy);
        x.undo();
        NO_CHANGES[i].ask(x);
        due("states after call " + i, x.count(15), 3);
        double[] before = Checks.facts(led(HistoryTests::busy, y -> y.undo(), y -> y.undo()));
        x.undo();
        double[] after = Checks.facts(x);
        boolean onPad = i < 2;
        for (int k = 0; k < before.length && !onPad; k++) due("call " + i + ", fact " + k, after[k], before[k]);
      }
    });
    test("each change records everything before it [...] (also if nothing is different then),", () -> {
      CupEye x = new CupEye();
      due("an empty box", x.empty(2), 0);
      due("states", x.count(15), 1);
      due("the value that it has", x.set(CupEye.FILL, 10), 10);
      due("states", x.count(15), 2);
      x.save();
      due("the state that it is", x.restore(), 0);
      due("states", x.count(15), 3);
      due("undone", x.undo(), 2);
      due("undone", x.undo(), 1);
      due("undone", x.undo(), 0);
      x.rule(0, 50, 0, 0, 0);
      Checks.type(x, "w50r0b0>0");
      due("the rules that there are", x.rules(), 1);
      due("states", x.count(15), 2);
    });
    test("A history of at most 4 states is kept: [...] if there are 5 states then, the oldest one is dropped.", () -> {
      for (int number = 0; number <= 9; number++) {
        CupEye x = new CupEye();
        for (int i = 1; i <= number; i++) x.set(CupEye.GLOW, i);
        int kept = Math.min(4, number);
        due("states", x.count(15), kept);
        for (int i = 1; i <= kept; i++) {
          due("left", x.undo(), kept - i);
          int then = number - i;
          due("the state before", x.count(12), then == 0 ? 1 : then);
        }
        due("none is left", x.undo(), NOT_POSSIBLE);
        due("the oldest that was kept", x.count(12), number <= 4 ? 1 : number - 4);
      }
    });
    test("(undone states make room: changes and undos in turn)", () -> {
      for (int first = 1; first <= 6; first++) {
        for (int back = 0; back <= Math.min(first, 4); back++) {
          for (int more = 0; more <= 6; more++) mixed(first, back, more);
        }
      }
    });
  }

  /** Some changes, some of them undone, and more changes: against a list of values. */
  private static void mixed(int first, int back, int more) {
    CupEye x = new CupEye();
    List<Integer> states = new ArrayList<>();
    int value = 10;
    for (int i = 0; i < first + more; i++) {
      if (i == first) {
        for (int k = 0; k < back; k++) {
          value = states.remove(states.size() - 1);
          due("undo", x.undo(), states.size());
        }
      }
      states.add(value);
      if (states.size() > 4) states.remove(0);
      value = i + 1;
      x.set(CupEye.FILL, value);
    }
    due("value", x.count(13), value);
    due("states", x.count(15), states.size());
    while (!states.isEmpty()) {
      value = states.remove(states.size() - 1);
      due("undo", x.undo(), states.size());
      due("value before", x.count(13), value);
    }
    due("no more", x.undo(), NOT_POSSIBLE);
  }

  // ---- undo, save, restore

  private static void undo() {
    test("undo: Undoes the latest change: everything but the pad and the snapshot is as it was before it.", () -> {
      for (int i = 0; i < 2 * CHANGES.length; i++) {
        Checks.Call change = CHANGES[i / 2];
        Checks.Way state = withoutHistory(i % 2 == 0 ? HistoryTests::busy : HistoryTests::brink);
        Checks.same("change " + i / 2 + " and undo", x -> {
          state.go(x);
          change.ask(x);
          x.undo();
        }, state);
      }
      Checks.Way cleared = x -> {
        busy(x);
        x.undo();
        x.clear();
      };
      Checks.same("rules and undo", x -> {
        rulesTyped(x);
        x.undo();
        x.rules();
        x.undo();
      }, cleared);
      Checks.same("run and undo", x -> {
        applesTyped(x);
        x.undo();
        x.run();
        x.undo();
      }, cleared);
    });
    test("undo: (what one tick brings: a bruise, an apple that runs over, one that falls out, a graded double)", () -> {
      CupEye x = led(HistoryTests::brink);
      int[] before = {2, 0, 0, 0, 5};
      int[] after = {2, 1, 1, 1, 7};
      for (int i = 0; i < 2; i++) {
        int[] told = i == 0 ? before : after;
        due("apples in the box 0", x.box(0, 0), told[0]);
        for (int what = 7; what <= 9; what++) due("count(" + what + ")", x.count(what), told[what - 6]);
        due("in boxes", x.count(4), told[4]);
        if (i == 0) due("fall", x.pass(1), 2);
      }
      x.undo();
      for (int what = 7; what <= 9; what++) due("undone, count(" + what + ")", x.count(what), before[what - 6]);
      due("undone, in boxes", x.count(4), before[4]);
    });
    test("undo: (a box that was emptied and filled anew has its first apples again)", () -> {
      int[] weights = {110, 160, 210, 260, 60};
      for (int box = 0; box < 5; box++) {
        int lane = box;
        Checks.Call[] steps = {x -> x.pass(1), x -> x.empty(lane), x -> x.lay(weights[lane], 77, 7), x -> x.pass(12)};
        for (int back = 1; back <= 4; back++) {
          int left = 4 - back;
          int times = back;
          Checks.same("box " + box + ", " + back + " undone", x -> {
            withoutHistory(HistoryTests::brink).go(x);
            for (Checks.Call step : steps) step.ask(x);
            for (int i = 0; i < times; i++) x.undo();
          }, x -> {
            withoutHistory(HistoryTests::brink).go(x);
            for (int i = 0; i < left; i++) steps[i].ask(x);
          });
        }
      }
    });
    test("undo: but the pad and the snapshot", () -> {
      CupEye x = new CupEye();
      x.lay(100, 50, 5);
      Checks.type(x, "x");
      x.save();
      x.undo();
      due("the pad stays", x.count(14), 1);
      due("what is on it, too", x.fault(0), NOT_FOUND);
      due("nothing is on the belt", x.count(2), 0);
      due("the snapshot stays", x.restore(), 1);
      CupEye y = typedAndRun("x,x");
      due("what run took from the pad does not come back", y.undo(), 0);
      due("the pad is empty", y.count(14), 0);
    });
    test("undo: Returns how many states the history has then; NOT_POSSIBLE if it has none.", () -> {
      CupEye x = new CupEye();
      due("a new object", x.undo(), NOT_POSSIBLE);
      for (int i = 0; i < 5; i++) x.water(0);
      for (int left = 3; left >= 0; left--) due("left", x.undo(), left);
      due("none", x.undo(), NOT_POSSIBLE);
      due("water after one change, which can't be undone any more", x.box(0, 5), 0);
      x.water(0);
      due("one again", x.undo(), 0);
    });
    test("undo: (a restore is undone, and an undone one can be done again)", () -> {
      Checks.same("restore and undo", x -> {
        busy(x);
        x.undo();
        x.restore();
        x.undo();
      }, x -> {
        busy(x);
        x.undo();
      });
      CupEye x = led(HistoryTests::busy);
      due("on the belt", x.count(2), 2);
      due("restored", x.restore(), 1);
      x.undo();
      due("undone", x.count(2), 2);
      due("restored again", x.restore(), 1);
    });
  }

  private static CupEye typedAndRun(String text) {
    CupEye x = new CupEye();
    Checks.type(x, text);
    x.run();
    return x;
  }

  private static void save() {
    test("save: Takes a snapshot of everything but the pad and the history, in place of the one that was.", () -> {
      CupEye x = new CupEye();
      x.lay(100, 0, 0);
      x.save();
      x.lay(101, 0, 0);
      x.save();
      x.pass(12);
      due("the second one", x.restore(), 2);
      due("its apples", x.cup(0, 2), 201);
      x.undo();
      x.undo();
      x.undo();
      x.undo();
      due("the first one is gone", x.restore(), 2);
    });
    test("save: (changes of nothing else, and the pad stays)", () -> {
      CupEye x = led(HistoryTests::busy);
      double[] before = Checks.facts(x);
      CupEye y = led(HistoryTests::busy);
      y.save();
      double[] after = Checks.facts(y);
      for (int i = 0; i < before.length; i++) due("fact " + i, after[i], before[i]);
    });
    test("save: Returns how many apples are on the belt.", () -> {
      CupEye x = new CupEye();
      due("an empty belt", x.save(), 0);
      for (int i = 0; i < 12; i++) {
        x.lay(100, 0, 0);
        due("odd", x.save(), 2 * i + 1);
        x.lay(100, 0, 0);
        due("even", x.save(), 2 * i + 2);
        if (i < 11) x.pass(1);
      }
      x.pass(1);
      due("apples in boxes don't count", x.save(), 22);
    });
  }

  /** Upsets all that a state has: other apples are in all boxes and on the belt, and every tally has grown. */
  private static void upset(CupEye x) {
    x.pass(30);
    x.set(CupEye.BIAS, 20);
    x.set(CupEye.GLOW, 9);
    x.set(CupEye.FILL, 1);
    for (int box = 0; box < 5; box++) x.empty(box);
    for (int lane = 0; lane < 4; lane++) {
      x.water(lane);
      x.rule(0, 50, 0, 9, lane);
      x.lay(240 + lane, 90, lane);
      x.pass(1);
      x.lay(245 + lane, 91, lane);
      x.pass(1);
      x.drop(0);
    }
    x.lay(250, 92, 1);
    x.lay(251, 93, 2);
    x.pass(12);
    x.rule(0, 60, 6, 6, 3);
    x.drop(1);
    x.lay(60, 6, 6);
  }

  /** Five restores make the histories the same, too. */
  private static void restoredAgain(Checks.Way state) {
    Checks.Way plain = x -> {
      state.go(x);
      x.save();
      for (int i = 0; i < 5; i++) x.restore();
    };
    Checks.same("upset, then restored", x -> {
      state.go(x);
      x.save();
      upset(x);
      for (int i = 0; i < 5; i++) x.restore();
    }, plain);
    Checks.same("upset after it was restored", x -> {
      state.go(x);
      x.save();
      x.restore();
      upset(x);
      for (int i = 0; i < 5; i++) x.restore();
    }, plain);
    Checks.same("undone to the start, then restored", x -> {
      state.go(x);
      x.save();
      for (int i = 0; i < 5; i++) x.undo();
      for (int i = 0; i < 5; i++) x.restore();
    }, plain);
  }

  private static void restore() {
    test("restore: Restores the snapshot, which stays.", () -> {
      for (Checks.Way state : new Checks.Way[] {HistoryTests::busy, HistoryTests::brink}) restoredAgain(state);
    });
    test("restore: (the snapshot has neither the pad nor the history)", () -> {
      CupEye x = new CupEye();
      x.water(0);
      x.water(1);
      Checks.type(x, "x");
      x.save();
      x.clear();
      Checks.type(x, "w50");
      x.water(2);
      x.restore();
      due("the pad stays", x.count(14), 3);
      due("what is on it, too", x.fault(0), 3);
      due("states", x.count(15), 4);
      due("water again", x.box(2, 5), 1);
      due("undone", x.undo(), 3);
      due("without water", x.box(2, 5), 0);
    });
    test("restore: Returns how many apples are on the belt then; NOT_POSSIBLE if there is none.", () -> {
      CupEye x = new CupEye();
      due("a new object", x.restore(), NOT_POSSIBLE);
      x.lay(100, 0, 0);
      x.undo();
      due("without a snapshot", x.restore(), NOT_POSSIBLE);
      x.save();
      due("an empty belt", x.restore(), 0);
      for (int i = 0; i < 12; i++) {
        x.lay(100, 0, 0);
        x.lay(100, 0, 0);
        if (i < 11) x.pass(1);
      }
      x.save();
      x.pass(30);
      due("a full belt", x.restore(), 24);
      due("on the belt", x.count(2), 24);
      due("doubles", x.count(3), 12);
    });
    test("restore: (the tallies so far go back with it)", () -> {
      CupEye x = led(HistoryTests::busy);
      double[] before = Checks.facts(x);
      CupEye y = led(HistoryTests::busy);
      y.save();
      upset(y);
      y.restore();
      double[] after = Checks.facts(y);
      for (int i = 0; i < before.length; i++) due("fact " + i, after[i], before[i]);
      for (int what = 6; what <= 10; what++) due("busy: count(" + what + ") is above 0", x.count(what) > 0 ? 1 : 0, 1);
    });
  }

  public static void main(String[] args) {
    refusals();
    severalErrors();
    changes();
    undo();
    save();
    restore();
    Checks.end();
  }
}

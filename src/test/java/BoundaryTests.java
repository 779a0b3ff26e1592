/** Each sentence of the promises 1 to 23 that names a boundary, told for itself; HistoryTests has the other promises. */
public final class BoundaryTests {
  private static final int INVALID = Checks.INVALID, NOT_POSSIBLE = Checks.NOT_POSSIBLE;
  private static final int LIMIT = Checks.LIMIT, NOT_FOUND = Checks.NOT_FOUND;
  private static final int LOW = Checks.LOW, HIGH = Checks.HIGH;

  private static void test(String sentence, Runnable body) {
    Checks.test(sentence, body);
  }

  private static void due(String what, double got, double want) {
    Checks.due(what, got, want);
  }

  // ---- promises 1 to 13: the belt, rules, lanes, settings, texts

  private static void newObject() {
    test("CupEye(): Creates an empty belt without rules.", () -> {
      CupEye x = new CupEye();
      int[] counts = {0, 0, 0, 0, 0, 0, 0, 0, 0, 0, 0, 20, 1, 10, 0, 0, INVALID};
      for (int i = 0; i < counts.length; i++) due("count(" + i + ")", x.count(i), counts[i]);
      for (int place = 0; place < 12; place++) due("apples in cup " + place, x.cup(place, 0), 0);
      for (int box = 0; box < 5; box++) due("apples in box " + box, x.box(box, 0), 0);
      due("no rule", x.ruleOf(0, 0), INVALID);
    });
    test("An object is used for at most 512 calls after it has been made;", () -> {
      CupEye x = new CupEye();
      for (int i = 0; i < 170; i++) {
        x.lay(50 + i, i % 101, i % 10);
        x.lay(51 + i, i % 101, i % 10);
        x.pass(1);
      }
      due("the 511th", x.pass(12), 22);
      due("the 512th", x.box(4, 0), 340);
      CupEye y = new CupEye();
      for (int i = 0; i < 511; i++) y.pass(30);
      due("the 512th", y.count(1), 511 * 30);
    });
    test("(objects share nothing)", () -> {
      CupEye x = new CupEye();
      x.rule(0, 50, 0, 9, 0);
      x.lay(50, 0, 0);
      x.append('x');
      x.save();
      CupEye y = new CupEye();
      for (int what : new int[] {0, 2, 14, 15}) due("count(" + what + ")", y.count(what), 0);
      due("no snapshot", y.restore(), NOT_POSSIBLE);
    });
  }

  private static void belt() {
    test("lay: Returns how many apples the cup has then; INVALID_ARGUMENT; LIMIT_REACHED if it has two.", () -> {
      CupEye x = new CupEye();
      due("one", x.lay(50, 0, 0), 1);
      due("two", x.lay(300, 100, 9), 2);
      due("has two", x.lay(50, 0, 0), LIMIT);
      due("has two, and out of range", x.lay(49, 0, 0), INVALID);
      due("has two, and out of range", x.lay(50, 101, 0), INVALID);
      due("has two, and out of range", x.lay(50, 0, 10), INVALID);
      x.pass(1);
      due("the next cup", x.lay(50, 0, 0), 1);
    });
    test("pass: ticks: 1 to 30", () -> {
      Checks.range("ticks", 1, 30, v -> new CupEye().pass(v));
      for (int ticks : new int[] {1, 2, 29, 30}) {
        CupEye x = new CupEye();
        x.pass(ticks);
        due("ticks", x.count(1), ticks);
      }
    });
    test("pass: Returns how many apples fall into boxes in them, that of the rest, too;", () -> {
      CupEye x = new CupEye();
      due("an empty belt", x.pass(30), 0);
      x.rule(0, 100, 0, 9, 0);
      for (int i = 0; i < 12; i++) {
        x.lay(50 + 5 * i, 0, 0);
        x.lay(50 + 5 * i, 0, 0);
        if (i < 11) x.pass(1);
      }
      due("a full belt, one tick", x.pass(1), 2);
      due("and all others", x.pass(11), 22);
      x.lay(100, 0, 0);
      x.pass(1);
      x.lay(99, 0, 0);
      due("into a lane and into the rest", x.pass(12), 2);
      due("one of them into the lane", x.box(0, 0), 1);
      x.lay(100, 0, 0);
      due("up to the tick before", x.pass(1), 0);
      due("in its tick", x.pass(1), 1);
    });
  }

  private static void ruleAndDrop() {
    test("rule: place: ahead of which rule, or the number of rules: behind the last one", () -> {
      for (int rules = 0; rules < 8; rules++) {
        int number = rules;
        for (int place = 0; place <= rules; place++) {
          CupEye x = Checks.withRules(rules);
          due("then", x.rule(place, 200, 99, 9, 3), rules + 1);
          for (int i = 0; i <= rules; i++) {
            int old = i < place ? i : i - 1;
            due("weight", x.ruleOf(i, 0), i == place ? 200 : 60 + old);
            due("red", x.ruleOf(i, 1), i == place ? 99 : old);
            due("bruise", x.ruleOf(i, 2), i == place ? 9 : old);
            due("lane", x.ruleOf(i, 3), i == place ? 3 : old % 4);
          }
        }
        for (int place : new int[] {-1, rules + 1, LOW, HIGH}) {
          due("no such place", Checks.withRules(number).rule(place, 200, 99, 9, 3), INVALID);
        }
      }
    });
    test("rule: Returns how many rules there are then; INVALID_ARGUMENT; LIMIT_REACHED if there are 8.", () -> {
      CupEye x = new CupEye();
      for (int i = 1; i <= 8; i++) due("rule " + i, x.rule(0, 50, 0, 0, 0), i);
      for (int place = 0; place <= 8; place++) due("full", x.rule(place, 50, 0, 0, 0), LIMIT);
      int[][] bad = {{-1, 50, 0, 0, 0}, {9, 50, 0, 0, 0}, {0, 49, 0, 0, 0}, {0, 50, 101, 0, 0}, {0, 50, 0, 10, 0},
        {0, 50, 0, 0, 4}};
      for (int[] b : bad) due("full, and out of range", x.rule(b[0], b[1], b[2], b[3], b[4]), INVALID);
      due("still eight", x.count(0), 8);
      x.drop(7);
      due("room again", x.rule(7, 50, 0, 0, 0), 8);
    });
    test("drop: Returns how many are left; INVALID_ARGUMENT.", () -> {
      for (int rules = 0; rules <= 8; rules++) {
        for (int i : new int[] {-1, rules, LOW, HIGH}) due("no such rule", Checks.withRules(rules).drop(i), INVALID);
        for (int out = 0; out < rules; out++) {
          CupEye x = Checks.withRules(rules);
          due("left", x.drop(out), rules - 1);
          for (int i = 0; i + 1 < rules; i++) {
            int old = i < out ? i : i + 1;
            due("weight", x.ruleOf(i, 0), 60 + old);
            due("red", x.ruleOf(i, 1), old);
            due("bruise", x.ruleOf(i, 2), old);
            due("lane", x.ruleOf(i, 3), old % 4);
          }
          due("one fewer", x.ruleOf(rules - 1, 0), INVALID);
        }
      }
      CupEye last = Checks.allTo(1);
      due("none is left", last.drop(0), 0);
      due("all go to the rest", last.lane(300, 100, 0, 0), 4);
    });
  }

  private static void lanesAndSettings() {
    test("water: Returns 1 if it has water then, otherwise 0; INVALID_ARGUMENT.", () -> {
      Checks.range("lane", 0, 3, v -> new CupEye().water(v));
      for (int lane = 0; lane < 4; lane++) {
        CupEye x = new CupEye();
        for (int i = 0; i < 4; i++) {
          due("water", x.water(lane), i % 2);
          for (int box = 0; box < 5; box++) due("box " + box, x.box(box, 5), box == lane ? i % 2 : 1);
        }
      }
    });
    test("empty: Returns how many apples it had; INVALID_ARGUMENT.", () -> {
      Checks.range("lane", 0, 4, v -> new CupEye().empty(v));
      for (int lane = 0; lane < 5; lane++) {
        CupEye x = new CupEye();
        due("an empty box", x.empty(lane), 0);
        due("none taken out", x.count(10), 0);
      }
      for (int lane = 0; lane < 4; lane++) {
        CupEye x = Checks.filled(lane, 20);
        due("another box", x.empty((lane + 1) % 4), 0);
        due("a full box", x.empty(lane), 20);
        due("taken out", x.count(10), 20);
        due("no apple", x.box(lane, 0), 0);
        due("no apple", x.apple(lane, 0, 0), NOT_FOUND);
        due("again", x.empty(lane), 0);
        x.lay(60, 0, 0);
        due("falls", x.pass(12), 1);
        due("the first one anew", x.apple(lane, 0, 0), 60);
      }
    });
    test("set: what: 0 to 2", () -> {
      Checks.range("what", 0, 2, v -> new CupEye().set(v, 5));
      for (int what : new int[] {-1, 3, LOW, HIGH}) due("and a value out of every range", new CupEye().set(what, 99), INVALID);
    });
    test("set: Returns the value before, 20 added to it for BIAS; INVALID_ARGUMENT.", () -> {
      CupEye x = new CupEye();
      int[][] told = {{0, -20, 20}, {0, 20, 0}, {0, 0, 40}, {0, 0, 20}, {1, 9, 1}, {1, 0, 9}, {1, 1, 0}, {2, 20, 10},
        {2, 1, 20}, {2, 10, 1}, {2, 10, 10}};
      for (int[] t : told) due("set(" + t[0] + ", " + t[1] + ")", x.set(t[0], t[1]), t[2]);
    });
  }

  private static void padCalls() {
    test("append: code: the character code, 33 to 126", () -> {
      Checks.range("code", 33, 126, v -> new CupEye().append(v));
      for (int code = 33; code <= 126; code++) {
        CupEye x = new CupEye();
        x.append(code);
        due("apples with code " + code, x.fault(0), code == 'x' ? NOT_FOUND : code == 'w' ? 1 : 0);
        due("rules with code " + code, x.fault(1), code == 'w' ? 1 : 0);
      }
    });
    test("append: Returns the length of the pad then; INVALID_ARGUMENT; LIMIT_REACHED if it has 60 characters.", () -> {
      CupEye x = new CupEye();
      for (int i = 1; i <= 60; i++) due("character " + i, x.append(33 + i), i);
      due("full", x.append(33), LIMIT);
      due("full", x.append(126), LIMIT);
      for (int code : new int[] {32, 127, LOW, HIGH}) due("full, and out of range", x.append(code), INVALID);
    });
    test("clear: Returns the length that it had.", () -> {
      CupEye x = new CupEye();
      due("empty", x.clear(), 0);
      x.append('x');
      due("one", x.clear(), 1);
      due("empty again", x.clear(), 0);
      due("its length", x.count(14), 0);
      Checks.type(x, "w50r0b0,");
      due("what was typed", x.clear(), 8);
      Checks.type(x, "w50");
      due("nothing is left of the text before", x.fault(0), 3);
    });
    test("fault: Returns the fault; INVALID_ARGUMENT; NOT_FOUND if it has none.", () -> {
      for (String text : new String[] {"", "x", "w50r0b0>0", "!"}) {
        for (int way : new int[] {-1, 2, LOW, HIGH}) due("way " + way, Checks.typed(text).fault(way), INVALID);
      }
      CupEye x = Checks.typed("w50r0b0");
      due("as apples", x.fault(0), NOT_FOUND);
      due("as rules", x.fault(1), 7);
      Checks.type(x, ">0");
      due("as apples", x.fault(0), 7);
      due("as rules", x.fault(1), NOT_FOUND);
      due("as rules again", x.fault(1), NOT_FOUND);
      due("the pad stays", x.count(14), 9);
    });
  }

  private static void rulesOfPad() {
    test("rules: Makes the rules of the pad the rules, in place of all that there are, and empties the pad.", () -> {
      CupEye x = Checks.withRules(8);
      Checks.type(x, "w300r100b0>3");
      due("one in place of eight", x.rules(), 1);
      int[] one = {300, 100, 0, 3, 0};
      for (int what = 0; what < 5; what++) due("its numbers", x.ruleOf(0, what), one[what]);
      due("no second one", x.ruleOf(1, 0), INVALID);
      due("the pad", x.count(14), 0);
      Checks.type(x, "w50r0b0>0,w51r1b1>1,w52r2b2>2,w53r3b3>3,w54r4b4>0,w55r5b5>1");
      due("a full pad but one character", x.count(14), 59);
      due("six in place of one", x.rules(), 6);
      for (int i = 0; i < 6; i++) {
        due("weight", x.ruleOf(i, 0), 50 + i);
        due("red and bruise", x.ruleOf(i, 1) * 10 + x.ruleOf(i, 2), 11 * i);
        due("lane", x.ruleOf(i, 3), i % 4);
      }
      due("no seventh one", x.ruleOf(6, 0), INVALID);
    });
    test("rules: NOT_POSSIBLE if the pad has a fault, read as rules;", () -> {
      String[] bad = {"", "x", "w50r0b0", "w50r0b0>", "w50r0b0>4", "w50r0b0>0,", "w50r0b0>0!", "w49r0b0>0",
        "w50r0b0>0,w50r0b0"};
      for (String text : bad) {
        CupEye x = Checks.typed(text);
        due("'" + text + "'", x.rules(), NOT_POSSIBLE);
        due("the pad stays", x.count(14), text.length());
        due("no rule", x.count(0), 0);
      }
    });
  }

  private static void runOfPad() {
    test("run: for each part an apple is laid (none for \"x\"), and a tick passes,", () -> {
      CupEye x = Checks.typed("x");
      due("nothing falls", x.run(), 0);
      due("a tick", x.count(1), 1);
      due("no apple", x.count(6), 0);
      CupEye y = Checks.typed("w50r0b0,x,w300r100b9");
      y.run();
      due("ticks", y.count(1), 3);
      due("laid", y.count(6), 2);
      due("the first", y.cup(3, 2), 50);
      due("none", y.cup(2, 0), 0);
      due("the last", y.cup(1, 2), 300);
      due("below the eye", y.cup(0, 0), 0);
      due("all of them are graded", y.cup(3, 1) + y.cup(1, 1), 8);
    });
    test("run: but not ahead of a part with \"&\", whose apple comes into the same cup ahead of that tick.", () -> {
      CupEye x = Checks.typed("w50r0b0,&w60r0b0");
      due("nothing falls", x.run(), 0);
      due("one tick", x.count(1), 1);
      due("a double", x.cup(1, 2), 110);
      due("graded", x.count(8), 1);
      due("to the rest", x.cup(1, 1), 4);
      CupEye y = Checks.typed("w50r0b0,&w60r0b0,w70r0b0,&w80r0b0");
      y.run();
      due("two ticks", y.count(1), 2);
      due("the first double", y.cup(2, 2), 110);
      due("the second double", y.cup(1, 2), 150);
      y.pass(12);
      for (int i = 0; i < 4; i++) due("in their order", y.apple(4, i, 0), 50 + 10 * i);
    });
    test("run: The pad is emptied. This is one change.", () -> {
      CupEye x = Checks.typed("w50r0b0,x,w60r0b0,&w70r0b0");
      x.run();
      due("the pad", x.count(14), 0);
      due("states", x.count(15), 1);
      due("undone", x.undo(), 0);
      for (int what = 1; what <= 10; what++) due("count(" + what + ")", x.count(what), 0);
    });
    test("run: Returns how many apples fall into boxes in it;", () -> {
      CupEye x = Checks.allTo(0);
      Checks.type(x, "w50r0b0,w51r0b0,w52r0b0,&w53r0b0,x");
      due("two of a lane", x.run(), 2);
      Checks.type(x, "x,x,x,x,x,x,x,x,x");
      due("not yet the double", x.run(), 0);
      Checks.type(x, "x,x");
      due("the double", x.run(), 2);
    });
    test("run: NOT_POSSIBLE if the pad has a fault, read as apples;", () -> {
      for (String text : new String[] {"", "w50r0b0>0", "w50r0b", "x,", "&w50r0b0", "x,&w50r0b0", "w301r0b0", "x!"}) {
        CupEye x = Checks.typed(text);
        due("'" + text + "'", x.run(), NOT_POSSIBLE);
        x.lay(50, 0, 0);
        due("'" + text + "', and apples below the eye", x.run(), NOT_POSSIBLE);
        due("the pad stays", x.count(14), text.length());
        due("no tick", x.count(1), 0);
      }
    });
    test("run: LIMIT_REACHED if the cup below the eye has apples already.", () -> {
      for (String text : new String[] {"x", "w50r0b0", "x,w50r0b0,&w50r0b0"}) {
        for (int apples = 1; apples <= 2; apples++) {
          CupEye x = Checks.typed(text);
          for (int i = 0; i < apples; i++) x.lay(60, 0, 0);
          due("'" + text + "'", x.run(), LIMIT);
          due("the pad stays", x.count(14), text.length());
          due("no tick", x.count(1), 0);
          x.pass(1);
          due("another cup may have some", x.run(), 0);
        }
      }
    });
  }

  // ---- promises 14 to 23: looks, and what would be

  private static void cupAndApple() {
    test("cup: what: 0: how many apples it has; 1: the lane to which it is graded, NOT_FOUND if it is not graded"
        + " (or empty); 2: the weights of its apples together;", () -> {
          Checks.range("what", 0, 3, v -> Checks.typed("").cup(0, v));
          CupEye x = Checks.allTo(3);
          int[] empty = {0, NOT_FOUND, 0, NOT_FOUND};
          for (int i = 0; i < 48; i++) due("an empty cup", x.cup(i / 4, i % 4), empty[i % 4]);
          x.lay(300, 0, 0);
          int[] below = {1, NOT_FOUND, 300, 8};
          for (int i = 0; i < 4; i++) due("one below the eye", x.cup(0, i), below[i]);
          x.lay(300, 0, 0);
          int[] two = {2, NOT_FOUND, 600, 12};
          for (int i = 0; i < 4; i++) due("two below the eye", x.cup(0, i), two[i]);
          x.pass(1);
          int[] graded = {2, 4, 600, 11};
          for (int i = 0; i < 4; i++) due("two graded", x.cup(1, i), graded[i]);
          x.lay(50, 0, 0);
          x.pass(7);
          int[] single = {1, 3, 50, 1};
          for (int i = 0; i < 4; i++) due("one graded", x.cup(7, i), single[i]);
          x.pass(1);
          for (int i = 0; i < 4; i++) due("after the drop", x.cup(8, i), empty[i]);
          for (int place : new int[] {-1, 12}) {
            for (int what : new int[] {-1, 4}) due("both wrong", x.cup(place, what), INVALID);
          }
        });
    test("cup: 3: in how many ticks from now on its apples fall into a box, if no box got full: 1 or more,"
        + " NOT_FOUND if it is empty; the cup below the eye by what the next tick would grade", () -> {
          for (int lane = 0; lane < 5; lane++) {
            CupEye x = new CupEye();
            if (lane < 4) x.rule(0, 50, 20, 2, lane);
            x.set(CupEye.BIAS, 20);
            x.set(CupEye.GLOW, 5);
            x.lay(50, 0, 4);
            int way = lane < 4 ? 2 + 2 * lane : 12;
            for (int place = 0; place < way; place++) {
              due("lane " + lane + ", place " + place, x.cup(place, 3), way - place);
              due("it falls then, and not before", x.ifPassed(way - place, 0), 1);
              if (way - place > 1) due("not before", x.ifPassed(way - place - 1, 0), 0);
              x.pass(1);
            }
            due("fallen", x.count(4), 1);
          }
          CupEye x = Checks.filled(0, 1);
          x.set(CupEye.FILL, 1);
          x.lay(50, 0, 0);
          due("as if it was not full", x.cup(0, 3), 2);
          x.pass(1);
          due("as if it was not full", x.cup(1, 3), 1);
          x.pass(1);
          due("ran over", x.cup(2, 3), 10);
        });
    test("apple: lane: 0 to 4; apple: from 0, in the order in which they fell in; what: 0 to 3", () -> {
      CupEye x = Checks.filled(2, 20);
      for (int i = 0; i < 20; i++) due("apple " + i, x.apple(2, i, 0), 100 + i);
      for (int what = 0; what < 4; what++) {
        int kind = what;
        Checks.range("lane", 0, 4, v -> new CupEye().apple(v, 0, kind));
      }
      Checks.range("what", 0, 3, v -> new CupEye().apple(0, 0, v));
    });
    test("apple: INVALID_ARGUMENT (also if apple is below 0); NOT_FOUND if there are not so many.", () -> {
      CupEye x = Checks.filled(2, 20);
      due("the last one", x.apple(2, 19, 0), 119);
      for (int apple : new int[] {20, 21, HIGH}) due("not so many", x.apple(2, apple, 0), NOT_FOUND);
      for (int box : new int[] {0, 1, 3, 4}) due("an empty box", x.apple(box, 0, 0), NOT_FOUND);
      for (int apple : new int[] {-1, LOW}) {
        due("below 0", x.apple(2, apple, 0), INVALID);
        due("below 0, in an empty box", x.apple(4, apple, 3), INVALID);
      }
      due("not so many, and what is wrong", x.apple(2, 20, 4), INVALID);
      due("not so many, and what is wrong", x.apple(2, HIGH, -1), INVALID);
      due("not so many, and no such box", x.apple(5, 0, 0), INVALID);
    });
    test("apple: 3: 1 if it is a wrong one, otherwise 0 (0 for the rest)", () -> {
      CupEye x = new CupEye();
      x.lay(100, 50, 5);
      x.pass(12);
      due("in the rest by the rules", x.apple(4, 0, 3), 0);
      x.rule(0, 50, 0, 9, 0);
      due("in the rest against them", x.apple(4, 0, 3), 0);
    });
  }

  private static void boxes() {
    test("box: what: 0: its apples; 1: their weights together; 2: wrong ones, 0 for the rest; 3: the least red in it,"
        + " NOT_FOUND if it is empty; 4: the greatest bruise in it, NOT_FOUND if it is empty;"
        + " 5: 1 if the lane has water, otherwise 0 (1 for the rest)", () -> {
          Checks.range("what", 0, 5, v -> new CupEye().box(0, v));
          Checks.range("lane", 0, 4, v -> new CupEye().box(v, 0));
          int[] empty = {0, 0, 0, NOT_FOUND, NOT_FOUND, 1};
          for (int i = 0; i < 30; i++) due("an empty box", new CupEye().box(i / 6, i % 6), empty[i % 6]);
          for (int lane = 0; lane < 5; lane++) {
            CupEye x = lane < 4 ? Checks.allTo(lane) : new CupEye();
            Checks.type(x, "w300r100b0,w50r0b9,w60r1b8");
            x.run();
            x.pass(9);
            int[] one = {1, 300, 0, 100, 0, 1};
            if (lane == 4) for (int i = 0; i < 6; i++) due("one", x.box(lane, i), one[i]);
            x.pass(12);
            int[] three = {3, 410, 0, 0, 9, 1};
            for (int i = 0; i < 6; i++) due("three", x.box(lane, i), three[i]);
            x.empty(lane);
            for (int i = 0; i < 6; i++) due("emptied", x.box(lane, i), empty[i]);
          }
        });
    test("(box: wrong ones, from none to all)", () -> {
      CupEye x = Checks.filled(1, 20);
      for (int least = 100; least <= 120; least++) {
        x.drop(0);
        x.rule(0, least, 0, 9, 1);
        due("wrong", x.box(1, 2), least - 100);
        due("in all", x.count(5), least - 100);
        due("right", x.right(), (120 - least) / 20.0);
      }
    });
  }

  private static void ruleLooks() {
    test("ruleOf: If there is no rule of a certain number, this is INVALID_ARGUMENT.", () -> {
      for (int rules = 0; rules <= 8; rules++) {
        CupEye x = Checks.withRules(rules);
        for (int i : new int[] {-1, rules, LOW, HIGH}) {
          due("ruleOf", x.ruleOf(i, 0), INVALID);
          due("misses", x.misses(i, 100, 50, 0), INVALID);
          due("tightest", x.tightest(i, 1), INVALID);
          due("drop", x.drop(i), INVALID);
        }
        if (rules > 0) due("the last one", x.ruleOf(rules - 1, 0), 59 + rules);
      }
      Checks.range("what", 0, 4, v -> Checks.withRules(1).ruleOf(0, v));
    });
    test("ruleOf: 4: 1 if no apple could come to it, as an earlier rule asks for no more in anything, otherwise 0", () -> {
      int[][] later = {{100, 50, 5, 1}, {99, 50, 5, 0}, {100, 49, 5, 0}, {100, 50, 6, 0}, {101, 51, 4, 1},
        {300, 100, 0, 1}, {300, 100, 6, 0}, {300, 49, 0, 0}, {99, 100, 0, 0}, {50, 0, 9, 0}};
      for (int[] r : later) {
        CupEye x = new CupEye();
        x.rule(0, 100, 50, 5, 0);
        x.rule(1, r[0], r[1], r[2], 0);
        due("the first never", x.ruleOf(0, 4), 0);
        due("the second", x.ruleOf(1, 4), r[3]);
        x.rule(1, 300, 100, 0, 1);
        due("with one between", x.ruleOf(2, 4), r[3]);
      }
      CupEye y = new CupEye();
      y.rule(0, 100, 50, 5, 0);
      y.rule(1, 50, 0, 9, 1);
      due("not by a later one", y.ruleOf(0, 4), 0);
      y.rule(2, 300, 100, 0, 2);
      y.drop(0);
      due("by what is the first now", y.ruleOf(1, 4), 1);
      y.drop(0);
      due("alone", y.ruleOf(0, 4), 0);
    });
    test("(ruleOf: two rules that together leave no apple hide nothing)", () -> {
      CupEye x = new CupEye();
      x.rule(0, 51, 0, 9, 0);
      x.rule(1, 50, 1, 9, 1);
      x.rule(2, 50, 0, 9, 2);
      for (int i = 0; i < 3; i++) due("rule " + i, x.ruleOf(i, 4), 0);
    });
  }

  private static void laneAndMisses() {
    test("lane: way: 0: told by the rules, from the first one on; 1: told from the last one on:"
        + " each rule that it meets tells the lane anew", () -> {
          Checks.range("way", 0, 1, v -> new CupEye().lane(100, 50, 5, v));
          CupEye x = new CupEye();
          for (int i = 0; i < 8; i++) x.rule(0, 100 + 10 * i, 5 * i, 9 - i, i % 4);
          for (int n = 0; n < 9; n++) {
            int want = n == 0 ? 4 : (n - 1) % 4;
            for (int way = 0; way < 2; way++) due("way " + way, x.lane(90 + 10 * n, 100, 0, way), want);
          }
        });
    test("lane: Returns the lane, 4 for the rest (the same for both); INVALID_ARGUMENT.", () -> {
      CupEye x = new CupEye();
      x.rule(0, 100, 100, 0, 3);
      x.set(CupEye.BIAS, 20);
      x.set(CupEye.GLOW, 9);
      for (int way = 0; way < 2; way++) {
        due("as it would be seen", x.lane(100, 80, 8, way), 3);
        due("not red enough", x.lane(100, 79, 8, way), 4);
        due("bruised", x.lane(100, 80, 9, way), 4);
      }
      due("all wrong", x.lane(49, 101, 10, 2), INVALID);
    });
    test("misses: Returns 0 if it meets it; otherwise the sum of: 1 if it weighs too little; 2 if it is not red enough;"
        + " 4 if it is bruised too much;", () -> {
          CupEye x = new CupEye();
          x.rule(0, 50, 0, 9, 0);
          x.rule(1, 100, 50, 5, 0);
          for (int sum = 0; sum < 8; sum++) {
            int weight = (sum & 1) == 0 ? 100 : 99;
            int red = (sum & 2) == 0 ? 50 : 49;
            int bruise = (sum & 4) == 0 ? 5 : 6;
            due("sum " + sum, x.misses(1, weight, red, bruise), sum);
            due("the rule of all", x.misses(0, weight, red, bruise), 0);
          }
          x.set(CupEye.BIAS, -20);
          due("as it would be seen", x.misses(1, 100, 69, 5), 2);
          due("as it would be seen", x.misses(1, 100, 70, 5), 0);
        });
  }

  private static void countAndRight() {
    test("count: what: 0 to 15; INVALID_ARGUMENT.", () -> Checks.range("what", 0, 15, v -> new CupEye().count(v)));
    test("count: 2: apples on the belt; 3: doubles on the belt; 4: apples in all boxes; 6: apples laid;"
        + " 8: doubles that were graded;", () -> {
          CupEye x = new CupEye();
          x.lay(50, 0, 0);
          x.lay(50, 0, 0);
          due("not graded yet", x.count(8), 0);
          x.pass(1);
          due("graded", x.count(8), 1);
          x.pass(10);
          due("only once", x.count(8), 1);
          due("on the belt", x.count(2) * 10 + x.count(3), 21);
          x.pass(1);
          due("no more", x.count(2) * 10 + x.count(3), 0);
          due("in boxes", x.count(4), 2);
          due("laid", x.count(6), 2);
          x.empty(4);
          due("not in boxes", x.count(4), 0);
          due("taken out", x.count(10), 2);
          due("laid all the same", x.count(6), 2);
        });
    test("count: 14: the length of the pad; 15: states in the history", () -> {
      CupEye x = new CupEye();
      for (int i = 0; i <= 6; i++) {
        due("states", x.count(15), Math.min(i, 4));
        x.water(0);
      }
      Checks.type(x, "xyz");
      due("length", x.count(14), 3);
    });
    test("right: Returns the apples in the boxes of lanes that are not wrong, as a double, divided by all of them;"
        + " 1.0 without any.", () -> {
          due("a new object", new CupEye().right(), 1.0);
          CupEye rest = new CupEye();
          rest.lay(50, 0, 0);
          rest.pass(12);
          due("only in the rest", rest.right(), 1.0);
          for (int lane = 0; lane < 4; lane++) {
            CupEye x = Checks.filled(lane, 3);
            due("all", x.right(), 1.0);
            x.drop(0);
            due("none", x.right(), 0.0);
            x.rule(0, 101, 0, 9, lane);
            due("two of three", x.right(), 2.0 / 3.0);
            x.lay(60, 0, 0);
            x.pass(12);
            due("the rest does not count", x.right(), 2.0 / 3.0);
            x.empty(lane);
            due("emptied", x.right(), 1.0);
          }
          CupEye one = Checks.filled(3, 1);
          due("one alone, right", one.right(), 1.0);
          one.drop(0);
          due("one alone, wrong", one.right(), 0.0);
          CupEye full = new CupEye();
          for (int lane = 0; lane < 4; lane++) {
            full.rule(0, 50, 0, 9, lane);
            for (int i = 0; i < 10; i++) {
              full.lay(100 + i, 0, 0);
              full.pass(1);
            }
            full.pass(8);
          }
          due("four full boxes, the last one right", full.right(), 0.25);
          full.rule(0, 109, 0, 9, 0);
          due("one of ten right, and nine of ten", full.right(), (1 + 9) / 40.0);
        });
  }

  private static void ifPassed() {
    test("ifPassed: ticks: 1 to 30; what: 0 to 3; INVALID_ARGUMENT.", () -> {
      for (int what = 0; what < 4; what++) {
        int kind = what;
        Checks.range("ticks", 1, 30, v -> new CupEye().ifPassed(v, kind));
      }
      Checks.range("what", 0, 3, v -> new CupEye().ifPassed(1, v));
      int[] empty = {0, 0, 0, NOT_FOUND};
      for (int i = 0; i < 4; i++) due("an empty belt", new CupEye().ifPassed(30, i), empty[i]);
    });
    test("ifPassed: 3: in which of these ticks, from 1 on, the first one would run over, NOT_FOUND if none would", () -> {
      for (int lane = 0; lane < 4; lane++) {
        CupEye x = Checks.filled(lane, 1);
        x.set(CupEye.FILL, 1);
        x.lay(100, 0, 0);
        int way = 2 + 2 * lane;
        for (int place = 0; place < way; place++) {
          int left = way - place;
          due("in its tick", x.ifPassed(left, 3), left);
          due("one of them", x.ifPassed(left, 1), 1);
          if (left > 1) due("not before", x.ifPassed(left - 1, 3), NOT_FOUND);
          if (left > 1) due("none before", x.ifPassed(left - 1, 1), 0);
          due("the most ticks", x.ifPassed(30, 3), left);
          x.pass(1);
        }
        due("ran over already", x.ifPassed(30, 3), NOT_FOUND);
        due("ran over already", x.ifPassed(30, 1), 0);
        due("it still falls", x.ifPassed(30, 0), 1);
      }
    });
    test("ifPassed: 0: how many apples would fall into boxes in them; 2: how many wrong ones there would be then;", () -> {
      CupEye x = new CupEye();
      x.rule(0, 50, 10, 9, 0);
      x.set(CupEye.BIAS, 10);
      for (int i = 0; i < 12; i++) {
        x.lay(100, 0, 0);
        x.lay(100, 0, 0);
        if (i < 11) x.pass(1);
      }
      for (int ticks = 1; ticks <= 30; ticks++) due("would fall", x.ifPassed(ticks, 0), Math.min(24, 2 * ticks));
      x.pass(12);
      x.lay(100, 9, 0);
      due("not yet", x.ifPassed(1, 2), 0);
      due("a wrong one", x.ifPassed(2, 2), 1);
      x.pass(2);
      due("there already", x.ifPassed(1, 2), 1);
      x.set(CupEye.BIAS, 0);
      x.lay(100, 10, 9);
      due("none more", x.ifPassed(30, 2), 1);
    });
    test("what would be; nothing is changed", () -> {
      Checks.Way state = x -> {
        x.rule(0, 50, 0, 9, 0);
        x.set(CupEye.FILL, 1);
        x.lay(100, 0, 0);
        x.pass(1);
        x.lay(101, 0, 0);
        x.append('x');
        x.save();
      };
      Checks.same("ifPassed and tightest", state, x -> {
        state.go(x);
        for (int what = 0; what < 4; what++) x.ifPassed(30, what);
        x.tightest(0, 1);
        x.tightest(0, 20);
      });
    });
  }

  private static void tightest() {
    test("tightest: enough: 1 to 20", () -> {
      Checks.range("enough", 1, 20, v -> Checks.withRules(1).tightest(0, v));
      due("no rule, and enough is wrong", new CupEye().tightest(0, 0), INVALID);
      due("no rule, and none would be found", new CupEye().tightest(0, 20), INVALID);
    });
    test("tightest: Returns the greatest least red, 0 to 100, that the rule could have,", () -> {
      for (int red : new int[] {0, 1, 50, 99, 100}) {
        for (int bound : new int[] {0, 50, 100}) {
          CupEye x = new CupEye();
          x.rule(0, 50, bound, 9, 2);
          x.lay(100, red, 0);
          due("red " + red + ", whatever it has now", x.tightest(0, 1), red);
          due("it still has it", x.ruleOf(0, 1), bound);
        }
      }
      CupEye x = new CupEye();
      x.rule(0, 50, 100, 9, 2);
      x.rule(1, 50, 0, 9, 2);
      x.lay(100, 0, 0);
      due("by another rule of its lane", x.tightest(0, 1), 100);
    });
    test("tightest: so that at least so many of the apples that are alone in their cups on the belt"
        + " (wherever, and whatever they are graded to) would have its lane by the rules,", () -> {
          CupEye x = new CupEye();
          x.rule(0, 51, 100, 9, 0);
          for (int i = 0; i < 12; i++) {
            x.lay(100, 10 + i, 0);
            if (i < 11) x.pass(1);
          }
          for (int enough = 1; enough <= 12; enough++) due("enough " + enough, x.tightest(0, enough), 22 - enough);
          due("there are not so many", x.tightest(0, 13), NOT_FOUND);
          due("there are not so many", x.tightest(0, 20), NOT_FOUND);
          x.lay(100, 100, 0);
          due("the one below the eye is not alone", x.tightest(0, 12), NOT_FOUND);
          due("the others are", x.tightest(0, 11), 10);
          x.pass(12);
          due("an empty belt", x.tightest(0, 1), NOT_FOUND);
        });
    test("tightest: (at least so many: more may come with that red)", () -> {
      CupEye x = new CupEye();
      x.rule(0, 50, 0, 9, 3);
      for (int red : new int[] {70, 40, 40, 40}) {
        x.lay(100, red, 0);
        x.pass(1);
      }
      due("one", x.tightest(0, 1), 70);
      for (int enough = 2; enough <= 4; enough++) due("enough " + enough, x.tightest(0, enough), 40);
      due("five", x.tightest(0, 5), NOT_FOUND);
    });
    test("tightest: as they would be seen now;", () -> {
      CupEye x = new CupEye();
      x.rule(0, 50, 50, 0, 0);
      x.lay(100, 50, 3);
      due("too bruised", x.tightest(0, 1), NOT_FOUND);
      x.set(CupEye.GLOW, 4);
      int[][] told = {{-20, 30}, {0, 50}, {20, 70}};
      for (int[] t : told) {
        x.set(CupEye.BIAS, t[0]);
        due("BIAS " + t[0], x.tightest(0, 1), t[1]);
      }
      CupEye y = new CupEye();
      y.rule(0, 50, 50, 9, 0);
      y.lay(100, 90, 0);
      y.set(CupEye.BIAS, 20);
      due("at most 100", y.tightest(0, 1), 100);
      y.undo();
      y.undo();
      y.lay(100, 10, 0);
      y.set(CupEye.BIAS, -20);
      due("at least 0", y.tightest(0, 1), 0);
    });
    test("tightest: NOT_FOUND if there is none.", () -> {
      CupEye x = new CupEye();
      x.rule(0, 101, 0, 9, 0);
      x.lay(100, 100, 0);
      due("too light", x.tightest(0, 1), NOT_FOUND);
      x.rule(0, 50, 0, 9, 1);
      x.rule(2, 50, 0, 9, 0);
      due("an earlier rule of another lane takes it", x.tightest(2, 1), NOT_FOUND);
      due("the earlier one itself", x.tightest(0, 1), 100);
    });
  }

  public static void main(String[] args) {
    newObject();
    belt();
    ruleAndDrop();
    lanesAndSettings();
    padCalls();
    rulesOfPad();
    runOfPad();
    cupAndApple();
    boxes();
    ruleLooks();
    laneAndMisses();
    countAndRight();
    ifPassed();
    tightest();
    Checks.end();
  }
}

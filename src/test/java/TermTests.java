/** Each sentence of the document's terms that names a boundary, told for itself. */
public final class TermTests {
  private static final int INVALID = Checks.INVALID, LIMIT = Checks.LIMIT, NOT_FOUND = Checks.NOT_FOUND;
  private static final int HIGH = Checks.HIGH;

  private static void test(String sentence, Runnable body) {
    Checks.test(sentence, body);
  }

  private static void due(String what, double got, double want) {
    Checks.due(what, got, want);
  }

  private static void constants() {
    test("The constants", () -> {
      int[] told = {CupEye.INVALID_ARGUMENT, CupEye.NOT_POSSIBLE, CupEye.LIMIT_REACHED, CupEye.NOT_FOUND, CupEye.BIAS,
        CupEye.GLOW, CupEye.FILL};
      int[] want = {-1, -2, -3, -4, 0, 1, 2};
      for (int i = 0; i < want.length; i++) due("constant " + i, told[i], want[i]);
    });
  }

  // ---- apples

  private static void apples() {
    test("An apple has a weight, 50 to 300, a red, 0 to 100, and a bruise, 0 to 9.", () -> {
      Checks.range("lay, weight", 50, 300, v -> new CupEye().lay(v, 50, 5));
      Checks.range("lay, red", 0, 100, v -> new CupEye().lay(100, v, 5));
      Checks.range("lay, bruise", 0, 9, v -> new CupEye().lay(100, 50, v));
      Checks.range("lane, weight", 50, 300, v -> new CupEye().lane(v, 50, 5, 0));
      Checks.range("lane, red", 0, 100, v -> new CupEye().lane(100, v, 5, 1));
      Checks.range("lane, bruise", 0, 9, v -> new CupEye().lane(100, 50, v, 0));
      Checks.range("misses, weight", 50, 300, v -> Checks.withRules(1).misses(0, v, 50, 5));
      Checks.range("misses, red", 0, 100, v -> Checks.withRules(1).misses(0, 100, v, 5));
      Checks.range("misses, bruise", 0, 9, v -> Checks.withRules(1).misses(0, 100, 50, v));
    });
    test("(the least and the greatest of all three are kept as they are)", () -> {
      int[][] ends = {{50, 0, 0}, {50, 0, 9}, {50, 100, 0}, {50, 100, 9}, {300, 0, 0}, {300, 0, 9}, {300, 100, 0},
        {300, 100, 9}};
      for (int[] end : ends) {
        CupEye x = Checks.allTo(0);
        x.lay(end[0], end[1], end[2]);
        due("weight on the belt", x.cup(0, 2), end[0]);
        x.pass(2);
        for (int what = 0; what < 3; what++) due("in the box", x.apple(0, 0, what), end[what]);
      }
    });
    test("The eye sees of an apple its weight as it is,", () -> {
      CupEye x = new CupEye();
      x.rule(0, 300, 0, 9, 0);
      for (int bias = -20; bias <= 20; bias += 20) {
        x.set(CupEye.BIAS, bias);
        for (int red = 0; red <= 100; red += 10) {
          due("299", x.misses(0, 299, red, 9) & 1, 1);
          due("300", x.misses(0, 300, red, 9) & 1, 0);
        }
      }
    });
    test("its red as the red and BIAS together, but at least 0 and at most 100,", () -> {
      CupEye x = new CupEye();
      x.rule(0, 50, 0, 9, 0);
      x.rule(1, 50, 1, 9, 1);
      x.rule(2, 50, 100, 9, 2);
      x.set(CupEye.BIAS, -20);
      for (int red : new int[] {0, 19, 20}) {
        due("seen as 0, red " + red, x.misses(0, 50, red, 0), 0);
        due("seen as 0, red " + red, x.misses(1, 50, red, 0), 2);
      }
      due("seen as 1", x.misses(1, 50, 21, 0), 0);
      due("seen as 80", x.misses(2, 50, 100, 0), 2);
      x.set(CupEye.BIAS, 20);
      due("seen as 99", x.misses(2, 50, 79, 0), 2);
      for (int red : new int[] {80, 81, 100}) due("seen as 100, red " + red, x.misses(2, 50, red, 0), 0);
      due("seen as 20", x.misses(1, 50, 0, 0), 0);
    });
    test("and its bruise as it is, if that is at least GLOW, otherwise as 0.", () -> {
      for (int glow = 0; glow <= 9; glow++) {
        CupEye x = new CupEye();
        for (int most = 0; most <= 7; most++) x.rule(most, 50, 0, most, 0);
        x.set(CupEye.GLOW, glow);
        for (int bruise = 0; bruise <= 9; bruise++) {
          for (int most = 0; most <= 7; most++) {
            boolean meets = bruise < glow || bruise <= most;
            due("glow " + glow + ", bruise " + bruise, x.misses(most, 50, 0, bruise), meets ? 0 : 4);
          }
        }
      }
    });
  }

  // ---- rules

  private static void rules() {
    test("There are at most 8 rules, numbered from 0 in their order.", () -> {
      CupEye x = Checks.withRules(7);
      due("the eighth", x.rule(7, 67, 7, 7, 3), 8);
      due("the ninth", x.rule(8, 68, 8, 8, 0), LIMIT);
      for (int i = 0; i < 8; i++) due("rule " + i, x.ruleOf(i, 0), 60 + i);
      due("no rule 8", x.ruleOf(8, 0), INVALID);
    });
    test("A rule has a least weight, 50 to 300, a least red, 0 to 100, a greatest bruise, 0 to 9, and a lane, 0 to 3.",
        () -> {
          Checks.range("weight", 50, 300, v -> new CupEye().rule(0, v, 50, 5, 0));
          Checks.range("red", 0, 100, v -> new CupEye().rule(0, 100, v, 5, 0));
          Checks.range("bruise", 0, 9, v -> new CupEye().rule(0, 100, 50, v, 0));
          Checks.range("lane", 0, 3, v -> new CupEye().rule(0, 100, 50, 5, v));
          int[][] ends = {{50, 0, 0, 0}, {300, 100, 9, 3}, {50, 100, 0, 3}, {300, 0, 9, 0}, {300, 100, 0, 1}};
          for (int[] end : ends) {
            CupEye x = new CupEye();
            x.rule(0, end[0], end[1], end[2], end[3]);
            for (int what = 0; what < 4; what++) due("kept", x.ruleOf(0, what), end[what]);
          }
        });
    test("An apple meets a rule, if its weight and its red are at least the least ones,"
        + " and its bruise is at most the greatest one.", () -> {
          CupEye x = new CupEye();
          x.rule(0, 100, 50, 5, 2);
          int[][] told = {{100, 50, 5, 2}, {99, 50, 5, 4}, {100, 49, 5, 4}, {100, 50, 6, 4}, {101, 51, 4, 2},
            {300, 100, 0, 2}, {50, 0, 9, 4}};
          for (int[] t : told) {
            for (int way = 0; way < 2; way++) due("lane", x.lane(t[0], t[1], t[2], way), t[3]);
          }
        });
    test("The lane of an apple is that of the first rule that it meets;", () -> {
      CupEye x = new CupEye();
      x.rule(0, 300, 100, 0, 3);
      x.rule(1, 100, 50, 5, 1);
      x.rule(2, 50, 0, 9, 0);
      x.rule(3, 50, 0, 9, 2);
      for (int way = 0; way < 2; way++) {
        due("all four", x.lane(300, 100, 0, way), 3);
        due("three", x.lane(299, 100, 0, way), 1);
        due("the last two", x.lane(99, 100, 0, way), 0);
      }
    });
    test("without such a rule it is the rest (the lane 4).", () -> {
      CupEye x = new CupEye();
      for (int way = 0; way < 2; way++) due("no rule at all", x.lane(300, 100, 0, way), 4);
      x.rule(0, 51, 0, 9, 0);
      for (int way = 0; way < 2; way++) due("none that it meets", x.lane(50, 100, 0, way), 4);
      x.lay(50, 100, 0);
      x.pass(1);
      due("graded to the rest", x.cup(1, 1), 4);
    });
  }

  // ---- the belt

  private static void cups() {
    test("The belt has 12 cups at the places 0 to 11;", () -> {
      for (int what = 0; what < 4; what++) {
        int kind = what;
        Checks.range("place", 0, 11, v -> new CupEye().cup(v, kind));
      }
      CupEye x = new CupEye();
      for (int i = 0; i < 12; i++) {
        x.lay(100 + i, 0, 0);
        if (i < 11) x.pass(1);
      }
      for (int place = 0; place < 12; place++) due("twelve apples", x.cup(place, 2), 111 - place);
      due("on the belt", x.count(2), 12);
    });
    test("the place 0 is below the eye, and apples are laid into the cup there.", () -> {
      CupEye x = new CupEye();
      x.lay(100, 0, 0);
      x.pass(1);
      x.lay(60, 0, 0);
      due("below the eye", x.cup(0, 2), 60);
      due("not into another one", x.cup(1, 2), 100);
    });
    test("A cup has no, one or two apples; with two it is a double.", () -> {
      CupEye x = new CupEye();
      for (int apples = 0; apples <= 2; apples++) {
        due("apples", x.cup(0, 0), apples);
        due("doubles", x.count(3), apples == 2 ? 1 : 0);
        due("the next one", x.lay(100, 0, 0), apples == 2 ? LIMIT : apples + 1);
      }
      due("still two", x.cup(0, 0), 2);
      CupEye full = new CupEye();
      for (int i = 0; i < 12; i++) {
        full.lay(100, 0, 0);
        full.lay(100, 0, 0);
        if (i < 11) full.pass(1);
      }
      due("twelve doubles", full.count(3), 12);
      due("their apples", full.count(2), 24);
      due("full", full.lay(100, 0, 0), LIMIT);
      due("two fall out", full.pass(1), 2);
      due("room again", full.lay(100, 0, 0), 1);
    });
  }

  private static void ticks() {
    test("A tick: first the cup at the place 0, if it has apples, is graded:", () -> {
      CupEye x = Checks.allTo(3);
      x.pass(1);
      due("an empty cup is not", x.cup(1, 1), NOT_FOUND);
      x.lay(100, 0, 0);
      due("not yet", x.cup(0, 1), NOT_FOUND);
      x.pass(1);
      due("now", x.cup(1, 1), 3);
      x.drop(0);
      x.pass(1);
      due("not anew", x.cup(2, 1), 3);
    });
    test("with one apple by what the eye sees of it, a double to the rest.", () -> {
      CupEye x = new CupEye();
      x.rule(0, 50, 50, 3, 3);
      x.set(CupEye.BIAS, 10);
      x.set(CupEye.GLOW, 6);
      int[][] told = {{40, 5, 3}, {39, 5, 4}, {40, 6, 4}};
      for (int[] t : told) {
        x.lay(50, t[0], t[1]);
        x.pass(1);
        due("red " + t[0] + ", bruise " + t[1], x.cup(1, 1), t[2]);
      }
      x.lay(50, 100, 0);
      x.lay(50, 100, 0);
      x.pass(1);
      due("both would meet the rule", x.cup(1, 1), 4);
    });
    test("Then the belt moves: each cup goes to the next place, and the one at the place 11 comes to the place 0, empty:"
        + " whatever was in it falls out into the rest.", () -> {
          CupEye x = new CupEye();
          x.lay(70, 7, 7);
          x.lay(71, 8, 8);
          for (int place = 1; place <= 11; place++) {
            due("nothing falls", x.pass(1), 0);
            due("left its place", x.cup(place - 1, 0), 0);
            due("next place", x.cup(place, 2), 141);
          }
          x.lay(90, 9, 9);
          due("both fall out", x.pass(1), 2);
          due("empty", x.cup(0, 0), 0);
          due("not graded", x.cup(0, 1), NOT_FOUND);
          due("no weight", x.cup(0, 2), 0);
          due("the next cup took its place", x.cup(1, 2), 90);
          due("the end is empty", x.cup(11, 0), 0);
          due("in the rest", x.box(4, 1), 141);
          due("nothing is left to fall", x.pass(10), 0);
        });
    test("Then the lanes drop, from 0 to 3: the lane k drops at the place 2 + 2 * k:"
        + " if a cup there is graded to this lane, its apple falls into the box of the lane;", () -> {
          for (int lane = 0; lane < 4; lane++) {
            CupEye x = Checks.allTo(lane);
            x.lay(100, 50, 5);
            for (int place = 1; place < 2 + 2 * lane; place++) {
              due("no drop on the way of lane " + lane, x.pass(1), 0);
              due("there", x.cup(place, 0), 1);
            }
            due("drop of lane " + lane, x.pass(1), 1);
            for (int box = 0; box < 5; box++) due("box " + box, x.box(box, 0), box == lane ? 1 : 0);
            due("nothing on the belt", x.count(2), 0);
            due("its cup is not graded", x.cup(2 + 2 * lane, 1), NOT_FOUND);
          }
        });
    test("(all four lanes may drop in one tick)", () -> {
      CupEye x = new CupEye();
      for (int lane = 3; lane >= 0; lane--) {
        x.rule(0, 50, 0, 9, lane);
        x.lay(100 + lane, 0, 0);
        due("falls", x.pass(2), lane == 0 ? 4 : 0);
      }
      for (int lane = 0; lane < 4; lane++) due("in box " + lane, x.apple(lane, 0, 0), 100 + lane);
    });
  }

  private static void fullBoxes() {
    test("but if the box has as many apples as FILL, the apple runs over:", () -> {
      for (int lane = 0; lane < 4; lane++) {
        for (int fill : new int[] {1, 2, 19, 20}) {
          CupEye x = Checks.filled(lane, fill - 1);
          x.set(CupEye.FILL, fill);
          x.lay(200, 0, 0);
          due("the last one that has room", x.pass(12), 1);
          due("in the box", x.box(lane, 0), fill);
          x.lay(201, 0, 0);
          due("the first without", x.pass(11), 0);
          due("ran over", x.count(7), 1);
          due("the box is as it was", x.box(lane, 0), fill);
        }
      }
    });
    test("it stays in the cup, which is graded to the rest from now on.", () -> {
      CupEye x = Checks.filled(1, 1);
      x.set(CupEye.FILL, 1);
      x.lay(200, 0, 0);
      x.pass(3);
      due("the lane, ahead of its place", x.cup(3, 1), 1);
      x.pass(1);
      due("the rest, at its place", x.cup(4, 1), 4);
      due("the apple", x.cup(4, 2), 200);
      x.empty(1);
      x.set(CupEye.FILL, 20);
      due("for good", x.pass(7), 0);
      due("at the end", x.cup(11, 2), 200);
    });
    test("(Cups that are graded to the rest go on to the place 11 and fall out there with the next tick.)", () -> {
      for (int lane = 0; lane < 4; lane++) {
        CupEye x = Checks.filled(lane, 1);
        x.set(CupEye.FILL, 1);
        x.lay(200, 3, 2);
        due("not up to the place 11", x.pass(11), 0);
        due("at the place 11", x.cup(11, 0), 1);
        due("with the next tick", x.pass(1), 1);
        due("in the rest", x.apple(4, 0, 0), 200);
      }
    });
    test("(a box with more apples than FILL is full, too; one apple fewer than FILL leaves room)", () -> {
      CupEye x = Checks.filled(0, 5);
      x.set(CupEye.FILL, 4);
      x.lay(200, 0, 0);
      due("more than FILL", x.pass(2), 0);
      x.set(CupEye.FILL, 5);
      x.lay(200, 0, 0);
      due("as many as FILL", x.pass(2), 0);
      x.set(CupEye.FILL, 6);
      x.lay(200, 0, 0);
      due("one fewer", x.pass(2), 1);
      due("two ran over", x.count(7), 2);
    });
    test("The box of the rest has room for all, and is soft.", () -> {
      CupEye x = new CupEye();
      x.set(CupEye.FILL, 1);
      for (int lane = 0; lane < 4; lane++) x.water(lane);
      for (int i = 0; i < 30; i++) {
        x.lay(100 + i, 0, i % 10);
        x.lay(200 + i, 0, i % 10);
        x.pass(1);
      }
      x.pass(12);
      due("sixty", x.box(4, 0), 60);
      due("none ran over", x.count(7), 0);
      due("no bruise", x.count(9), 0);
      for (int i = 0; i < 60; i++) {
        due("weight", x.apple(4, i, 0), 100 + i / 2 + 100 * (i % 2));
        due("as bruised as before", x.apple(4, i, 2), i / 2 % 10);
      }
    });
  }

  private static void drops() {
    test("An apple that falls into the box of a lane without water gets 1 more bruise, but at most 9"
        + " (only one that gets more is counted).", () -> {
          int[][] told = {{0, 1, 1}, {1, 2, 1}, {8, 9, 1}, {9, 9, 0}};
          for (int lane = 0; lane < 4; lane++) {
            for (int[] t : told) {
              CupEye x = Checks.allTo(lane);
              x.water(lane);
              x.lay(100, 50, t[0]);
              x.pass(12);
              due("bruise " + t[0], x.apple(lane, 0, 2), t[1]);
              due("counted", x.count(9), t[2]);
              due("the rest of it stays", x.apple(lane, 0, 0) * 1000 + x.apple(lane, 0, 1), 100050);
            }
          }
        });
    test("(with water none, nor an apple that runs over or lies in a box when the water goes out)", () -> {
      CupEye x = Checks.allTo(0);
      x.lay(100, 50, 3);
      x.pass(2);
      x.water(0);
      due("in the box already", x.apple(0, 0, 2), 3);
      x.set(CupEye.FILL, 1);
      x.lay(100, 50, 4);
      x.pass(12);
      due("ran over", x.apple(4, 0, 2), 4);
      for (int lane = 1; lane < 4; lane++) x.water(lane);
      x.water(0);
      x.empty(0);
      x.lay(100, 50, 5);
      x.pass(2);
      due("the other lanes are dry", x.apple(0, 0, 2), 5);
      due("none is counted", x.count(9), 0);
    });
    test("A wrong apple is one in the box of a lane that would not have come to this lane by the rules of now,", () -> {
      CupEye x = Checks.allTo(1);
      x.lay(100, 50, 5);
      x.pass(4);
      due("right", x.apple(1, 0, 3), 0);
      int[][] rules = {{100, 50, 5, 0}, {101, 50, 5, 1}, {100, 51, 5, 1}, {100, 50, 4, 1}};
      for (int[] r : rules) {
        x.drop(0);
        x.rule(0, r[0], r[1], r[2], 1);
        due("meets it or not", x.apple(1, 0, 3), r[3]);
      }
      x.drop(0);
      due("without rules", x.apple(1, 0, 3), 1);
      x.rule(0, 50, 0, 9, 0);
      x.rule(1, 50, 0, 9, 1);
      due("another lane is ahead", x.apple(1, 0, 3), 1);
      x.rule(0, 50, 0, 9, 1);
      due("its lane is ahead, by another rule", x.apple(1, 0, 3), 0);
    });
    test("if it was seen as it truly is now (without bias, all of its bruise).", () -> {
      CupEye x = new CupEye();
      x.rule(0, 50, 50, 5, 0);
      x.set(CupEye.BIAS, 1);
      x.set(CupEye.GLOW, 9);
      int[][] told = {{49, 5, 1}, {50, 5, 0}, {50, 6, 1}, {50, 8, 1}};
      for (int[] t : told) {
        x.lay(100, t[0], t[1]);
        x.pass(2);
      }
      x.set(CupEye.BIAS, -20);
      for (int i = 0; i < 4; i++) due("apple " + i, x.apple(0, i, 3), told[i][2]);
      x.set(CupEye.BIAS, 0);
      x.set(CupEye.GLOW, 1);
      x.water(0);
      x.lay(100, 50, 5);
      x.pass(2);
      due("bruised by its drop", x.apple(0, 4, 3), 1);
    });
  }

  // ---- settings

  private static void settings() {
    test("(In parentheses: range; first value.) BIAS (-20 to 20; 0), GLOW (0 to 9; 1), FILL (1 to 20; 10).", () -> {
      CupEye x = new CupEye();
      due("first BIAS", x.count(11), 20);
      due("first GLOW", x.count(12), 1);
      due("first FILL", x.count(13), 10);
      int[][] ranges = {{-20, 20}, {0, 9}, {1, 20}};
      for (int what = 0; what < 3; what++) {
        int kind = what;
        Checks.range("setting " + what, ranges[what][0], ranges[what][1], v -> new CupEye().set(kind, v));
        for (int value = ranges[what][0]; value <= ranges[what][1]; value++) {
          x.set(what, value);
          due("setting " + what, x.count(11 + what), what == 0 ? value + 20 : value);
        }
      }
      due("the others stay", x.count(11) * 10 + x.count(12), 409);
    });
    test("(the first FILL lets ten in)", () -> {
      CupEye x = Checks.allTo(2);
      for (int i = 0; i < 11; i++) {
        x.lay(100, 0, 0);
        x.pass(1);
      }
      due("five are on the belt", x.pass(12), 5);
      due("ten are in", x.box(2, 0), 10);
      due("one is in the rest", x.box(4, 0), 1);
    });
    test("Each lane has water (at first all have).", () -> {
      CupEye x = new CupEye();
      for (int box = 0; box < 5; box++) due("box " + box, x.box(box, 5), 1);
      x.water(2);
      for (int box = 0; box < 5; box++) due("box " + box, x.box(box, 5), box == 2 ? 0 : 1);
    });
  }

  // ---- texts

  private static void faultIs(int way, String text, int want) {
    due("fault(" + way + ") of '" + text + "'", Checks.typed(text).fault(way), want);
  }

  /** The fault of a number between its sign and the next one, by all numbers that there are. */
  private static void checkNumbers(int way, String before, String behind, int least, int most) {
    for (String ahead : new String[] {"", "0", "00"}) {
      for (int i = 0; i <= 1010; i++) checkNumber(way, before, ahead + i, behind, least, most);
    }
    checkNumber(way, before, "", behind, least, most);
    checkNumber(way, before, "" + HIGH, behind, least, most);
    checkNumber(way, before, "4294967396", behind, least, most);
  }

  private static void checkNumber(int way, String before, String number, String behind, int least, int most) {
    String tried = number + behind.charAt(0);
    int good = 0;
    for (int n = least; n <= most; n++) {
      String told = "" + n + behind.charAt(0);
      int same = 0;
      while (same < tried.length() && same < told.length() && tried.charAt(same) == told.charAt(same)) same++;
      good = Math.max(good, same);
    }
    faultIs(way, before + number + behind, good == tried.length() ? NOT_FOUND : before.length() + good);
  }

  private static void pad() {
    test("There is a pad of at most 60 characters, initially empty.", () -> {
      CupEye x = new CupEye();
      due("empty", x.count(14), 0);
      for (int i = 1; i <= 60; i++) due("character " + i, x.append('w'), i);
      due("full", x.append('w'), LIMIT);
      due("its length", x.count(14), 60);
      due("cleared", x.clear(), 60);
      due("room again", x.append('w'), 1);
    });
    test("Apples: one or more parts with \",\" between two: \"w\" and a weight, \"r\" and a red, \"b\" and a bruise;"
        + " or \"x\" (no apple);", () -> {
          String[] good = {"x", "w50r0b0", "w300r100b9", "x,x", "x,w50r0b0", "w50r0b0,x", "w50r0b0,w50r0b0", "x,x,x,x"};
          for (String text : good) faultIs(0, text, NOT_FOUND);
          faultIs(0, ",x", 0);
          faultIs(0, "x,", 2);
          faultIs(0, "x,,x", 2);
          faultIs(0, "x;x", 1);
          faultIs(0, "xw", 1);
          faultIs(0, "w50r0b0x", 7);
          faultIs(0, "w50r0b0w", 7);
          faultIs(0, "w50,", 3);
          faultIs(0, "w50b0", 3);
          faultIs(0, "w50r0,", 5);
          faultIs(0, "r50", 0);
          faultIs(0, "W50", 0);
          faultIs(0, "w-5", 1);
          faultIs(0, "w50r0b0>1", 7);
        });
    test("or \"&\" and an apple as before (it comes into the same cup as the one ahead of it; so it is not the first part,"
        + " and there are no two such parts one behind the other, nor one behind \"x\").", () -> {
          faultIs(0, "w50r0b0,&w50r0b0", NOT_FOUND);
          faultIs(0, "w50r0b0,&w50r0b0,w50r0b0,&w50r0b0", NOT_FOUND);
          faultIs(0, "x,w50r0b0,&w50r0b0,x", NOT_FOUND);
          faultIs(0, "&", 0);
          faultIs(0, "&w50r0b0", 0);
          faultIs(0, "x,&", 2);
          faultIs(0, "w50r0b0,x,&w50r0b0", 10);
          faultIs(0, "w50r0b0,&w50r0b0,&w50r0b0", 17);
          faultIs(0, "w50r0b0,&w50r0b0,x,&", 19);
          faultIs(0, "w50r0b0,&x", 9);
          faultIs(0, "w50r0b0,&&", 9);
          faultIs(0, "w50r0b0,&,", 9);
          faultIs(0, "w50r0b0&", 7);
          faultIs(0, "w50r0b0,&", 9);
        });
    test("Rules: one or more rules with \",\" between two: \"w\" and a least weight, \"r\" and a least red,"
        + " \"b\" and a greatest bruise, \">\" and a lane 0 to 3.", () -> {
          String[] good = {"w50r0b0>0", "w300r100b9>3", "w50r0b0>0,w300r100b9>3"};
          for (String text : good) faultIs(1, text, NOT_FOUND);
          faultIs(1, "w50r0b0", 7);
          faultIs(1, "w50r0b0,", 7);
          faultIs(1, "w50r0b0>", 8);
          faultIs(1, "w50r0b0>4", 8);
          faultIs(1, "w50r0b0>,", 8);
          faultIs(1, "w50r0b0>00", 9);
          faultIs(1, "w50r0b0>0,", 10);
          faultIs(1, "w50r0b0>0,,", 10);
          faultIs(1, "w50r0b0>0,x", 10);
          faultIs(1, "w50r0b0>0,&", 10);
          faultIs(1, "x", 0);
          faultIs(1, ">", 0);
        });
  }

  /** A way, a beginning without a fault, and the characters that may follow it. */
  private static final String[][] NEXT = {
    {"0", "", "wx"}, {"1", "", "w"}, {"0", "w", "12356789"}, {"0", "w1", "0123456789"}, {"0", "w2", "0123456789"},
    {"0", "w3", "0"}, {"0", "w30", "0"}, {"0", "w300", "r"}, {"0", "w5", "0123456789"}, {"0", "w50", "r"},
    {"0", "w99", "r"}, {"0", "w10", "0123456789"}, {"0", "w29", "0123456789"}, {"0", "w100", "r"}, {"1", "w299", "r"},
    {"0", "w50r", "0123456789"}, {"0", "w50r0", "b"}, {"0", "w50r1", "0123456789b"}, {"0", "w50r9", "0123456789b"},
    {"0", "w50r10", "0b"}, {"0", "w50r11", "b"}, {"1", "w50r99", "b"}, {"0", "w50r100", "b"},
    {"0", "w50r0b", "0123456789"}, {"0", "w50r0b0", ","}, {"1", "w50r0b0", ">"}, {"0", "w50r0b9", ","},
    {"0", "w50r0b0,", "wx&"}, {"0", "w50r0b0,&", "w"}, {"0", "w50r0b0,&w5", "0123456789"},
    {"0", "w50r0b0,&w50r0b0", ","}, {"0", "w50r0b0,&w50r0b0,", "wx"}, {"0", "x", ","}, {"0", "x,", "wx"},
    {"0", "x,w50r0b0,", "wx&"}, {"1", "w50r0b0>", "0123"}, {"1", "w50r0b0>3", ","}, {"1", "w50r0b0>0,", "w"},
  };

  private static void nextCharacters() {
    test("The fault of the pad [...] is the position, from 0, of the first character that is wrong:"
        + " (each character behind each kind of beginning)", () -> {
          for (String[] next : NEXT) {
            int way = next[0].charAt(0) - '0';
            for (char sign = 33; sign <= 126; sign++) {
              CupEye x = Checks.typed(next[1] + sign);
              int at = next[1].length();
              boolean right = next[2].indexOf(sign) >= 0;
              int fault = x.fault(way);
              boolean due = right ? fault == at + 1 || fault == NOT_FOUND : fault == at;
              due("fault(" + way + ") = " + fault + " of '" + next[1] + sign + "' is possible", due ? 1 : 0, 1);
            }
          }
        });
    test("(clear leaves nothing of a longer text)", () -> {
      CupEye x = Checks.typed("w123r100b9>3,w50r0b0>0");
      x.clear();
      due("empty", x.fault(0), 0);
      Checks.type(x, "w12");
      due("digits", x.fault(0), 3);
      Checks.type(x, "3");
      due("digits", x.fault(1), 4);
      Checks.type(x, "r100b9");
      due("as apples", x.fault(0), NOT_FOUND);
      due("as rules", x.fault(1), 10);
      Checks.type(x, ">3");
      due("one rule", x.rules(), 1);
      due("only one", x.count(0), 1);
    });
    test("(run leaves nothing of a longer text)", () -> {
      CupEye x = Checks.typed("w50r0b0,&w60r0b0");
      x.run();
      Checks.type(x, "w70r0b0");
      x.run();
      due("ticks", x.count(1), 2);
      due("its apple", x.cup(1, 2), 70);
      due("not laid twice", x.count(6), 3);
    });
  }

  private static void numbersAndFaults() {
    test("Weights are numbers 50 to 300, reds 0 to 100, bruises 0 to 9; numbers have no needless 0 ahead.", () -> {
      checkNumbers(0, "w", "r0b0", 50, 300);
      checkNumbers(0, "w99r", "b0", 0, 100);
      checkNumbers(0, "w99r9b", ",x", 0, 9);
      checkNumbers(0, "w99r9b9,&w", "r0b0", 50, 300);
      checkNumbers(1, "w", "r0b0>0", 50, 300);
      checkNumbers(1, "w99r", "b0>0", 0, 100);
      checkNumbers(1, "w99r9b", ">0", 0, 9);
      checkNumbers(1, "w99r9b9>", ",w50r0b0>0", 0, 3);
    });
    test("The fault of the pad [...] is the position, from 0, of the first character that is wrong:"
        + " no pad of that kind, of any length, begins with the characters before it and this character;", () -> {
          faultIs(0, "!", 0);
          faultIs(0, "!x!", 0);
          faultIs(0, "x!!", 1);
          faultIs(0, "w30r", 3);
          faultIs(0, "w31", 2);
          String full = "w50r0b0,x,x,x,x,x,x,x,x,x,x,x,x,x,x,x,x,x,x,x,x,x,x,x,x,x,x";
          faultIs(0, full + "!", 59);
          faultIs(0, full.substring(0, 58) + "w!", 59);
          // It could go on in a longer pad.
          faultIs(0, full.substring(0, 58) + "w1", 60);
          faultIs(0, full.substring(0, 58) + "w4", 59);
          faultIs(0, full + ",", 60);
        });
    test("if there is none, and the pad is not complete (also if it is empty), the length of the pad.", () -> {
      for (int way = 0; way < 2; way++) {
        faultIs(way, "", 0);
        String text = way == 0 ? "w123r100b9,&w50r0b0" : "w123r100b9>3,w50r0b0>0";
        boolean[] whole = new boolean[text.length() + 1];
        whole[text.length()] = true;
        whole[way == 0 ? 10 : 12] = true;
        for (int end = 0; end <= text.length(); end++) faultIs(way, text.substring(0, end), whole[end] ? NOT_FOUND : end);
      }
      CupEye x = Checks.typed("x");
      x.clear();
      due("empty again", x.fault(0), 0);
    });
  }

  public static void main(String[] args) {
    constants();
    apples();
    rules();
    cups();
    ticks();
    fullBoxes();
    drops();
    settings();
    pad();
    nextCharacters();
    numbersAndFaults();
    Checks.end();
  }
}

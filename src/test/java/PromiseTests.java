/** For each promise of the document: ordinary inputs, the edges that it names, and wrong inputs. */
public final class PromiseTests {
  private static final int INVALID = -1, NOT_POSSIBLE = -2, LIMIT = -3, NOT_FOUND = -4;
  private static final int LOW = Integer.MIN_VALUE, HIGH = Integer.MAX_VALUE;
  private static int promise = 0;
  private static int wrong = 0;

  private static void due(String what, double got, double want) {
    if (got != want) {
      wrong++;
      System.out.println("promise " + promise + ", " + what + ": answered " + got + ", due is " + want);
    }
  }

  private static void type(CupEye x, String text) {
    x.clear();
    for (char sign : text.toCharArray()) {
      x.append(sign);
    }
  }

  private static void faultIs(int way, String text, int want) {
    CupEye x = new CupEye();
    type(x, text);
    due("fault(" + way + ") of '" + text + "'", x.fault(way), want);
    due("length after the fault of '" + text + "'", x.count(14), text.length());
  }

  /** All looks in one number each, to tell whether anything changed. */
  private static int[] looks(CupEye x) {
    int[] all = new int[12 * 4 + 5 * 6 + 8 * 5 + 16 + 5 * 4 * 4 + 2];
    int n = 0;
    for (int i = 0; i < 12 * 4; i++) all[n++] = x.cup(i / 4, i % 4);
    for (int i = 0; i < 5 * 6; i++) all[n++] = x.box(i / 6, i % 6);
    for (int i = 0; i < 8 * 5; i++) all[n++] = x.ruleOf(i / 5, i % 5);
    for (int i = 0; i < 16; i++) all[n++] = x.count(i);
    for (int i = 0; i < 5 * 4 * 4; i++) all[n++] = x.apple(i / 16, i / 4 % 4, i % 4);
    all[n++] = x.fault(0);
    all[n++] = x.fault(1);
    return all;
  }

  private static void unchanged(String what, CupEye x, int[] before) {
    int[] after = looks(x);
    for (int i = 0; i < before.length; i++) {
      if (before[i] != after[i]) {
        due(what + " changed look " + i, after[i], before[i]);
      }
    }
  }

  /** A belt with rules, apples in cups and boxes, and a pad. */
  private static CupEye busy() {
    CupEye x = new CupEye();
    x.rule(0, 100, 50, 3, 0);
    x.rule(1, 60, 20, 9, 1);
    x.lay(150, 80, 2);
    x.pass(2);
    x.lay(70, 30, 8);
    x.pass(1);
    x.lay(200, 60, 1);
    x.lay(201, 61, 1);
    x.pass(1);
    x.lay(120, 55, 0);
    type(x, "w50r0b0");
    return x;
  }

  private static void newObject() {
    CupEye x = new CupEye();
    int[] counts = {0, 0, 0, 0, 0, 0, 0, 0, 0, 0, 0, 20, 1, 10, 0, 0};
    for (int i = 0; i < counts.length; i++) due("count(" + i + ")", x.count(i), counts[i]);
    for (int p = 0; p < 12; p++) {
      due("cup", x.cup(p, 0), 0);
      due("grade", x.cup(p, 1), NOT_FOUND);
      due("weights", x.cup(p, 2), 0);
      due("ticks", x.cup(p, 3), NOT_FOUND);
    }
    for (int l = 0; l < 5; l++) {
      due("box", x.box(l, 0), 0);
      due("water", x.box(l, 5), 1);
      due("apple", x.apple(l, 0, 0), NOT_FOUND);
    }
    due("ruleOf", x.ruleOf(0, 0), INVALID);
    due("right", x.right(), 1.0);
    due("undo", x.undo(), NOT_POSSIBLE);
    due("restore", x.restore(), NOT_POSSIBLE);
    due("fault", x.fault(0), 0);
    due("fault", x.fault(1), 0);
    CupEye other = new CupEye();
    other.lay(50, 0, 0);
    due("no state is shared", x.count(2), 0);
  }

  private static void lay() {
    CupEye x = new CupEye();
    int[][] bad = {{49, 0, 0}, {301, 0, 0}, {50, -1, 0}, {50, 101, 0}, {50, 0, -1}, {50, 0, 10},
      {LOW, 0, 0}, {HIGH, 0, 0}, {50, LOW, 0}, {50, HIGH, 0}, {50, 0, LOW}, {50, 0, HIGH}};
    for (int[] b : bad) due("wrong input", x.lay(b[0], b[1], b[2]), INVALID);
    due("nothing changed", x.count(15), 0);
    due("the least", x.lay(50, 0, 0), 1);
    due("the most", x.lay(300, 100, 9), 2);
    due("weights", x.cup(0, 2), 350);
    due("full", x.lay(60, 1, 1), LIMIT);
    due("full and wrong", x.lay(49, 1, 1), INVALID);
    due("laid", x.count(6), 2);
    due("doubles", x.count(3), 1);
    due("states", x.count(15), 2);
    due("not graded yet", x.cup(0, 1), NOT_FOUND);
    x.pass(1);
    due("a new cup", x.lay(60, 1, 1), 1);
    due("on the belt", x.count(2), 3);
  }

  private static void pass() {
    CupEye x = new CupEye();
    for (int ticks : new int[] {0, 31, -1, LOW, HIGH}) due("wrong input", x.pass(ticks), INVALID);
    due("nothing changed", x.count(15), 0);
    due("an empty belt", x.pass(30), 0);
    due("ticks", x.count(1), 30);
    due("one change", x.count(15), 1);

    x = new CupEye();
    x.lay(101, 10, 1);
    x.lay(102, 20, 2);
    due("a double goes round", x.pass(11), 0);
    due("it is at the end", x.cup(11, 0), 2);
    due("both fall out", x.pass(1), 2);
    due("first", x.apple(4, 0, 0), 101);
    due("second", x.apple(4, 1, 0), 102);
    due("doubles graded", x.count(8), 1);

    x = new CupEye();
    for (int i = 0; i < 4; i++) {
      x.lay(110 + i, 10, 1);
      x.lay(120 + i, 20, 2);
      x.pass(1);
    }
    due("doubles in several ticks", x.pass(11), 8);
    for (int i = 0; i < 8; i++) due("in their order", x.apple(4, i, 0), 110 + i / 2 + 10 * (i % 2));

    for (int lane = 0; lane < 4; lane++) {
      x = new CupEye();
      x.rule(0, 50, 0, 9, lane);
      x.lay(100, 50, 5);
      due("not yet at lane " + lane, x.pass(1 + 2 * lane), 0);
      due("there at lane " + lane, x.pass(1), 1);
      due("in its box", x.box(lane, 0), 1);
      due("its cup is empty", x.cup(2 + 2 * lane, 0), 0);
      due("and not graded", x.cup(2 + 2 * lane, 1), NOT_FOUND);
    }
    x = new CupEye();
    x.rule(0, 50, 0, 9, 2);
    x.lay(100, 50, 5);
    x.pass(1);
    x.drop(0);
    due("the grade stays without the rule", x.pass(5), 1);
    due("in the box of the lane", x.box(2, 0), 1);
  }

  private static void passRunsOver() {
    CupEye x = new CupEye();
    x.rule(0, 50, 0, 9, 1);
    x.set(2, 1);
    x.lay(100, 1, 1);
    x.pass(1);
    x.lay(110, 2, 2);
    x.pass(1);
    due("the first falls", x.pass(2), 1);
    due("the second runs over", x.pass(1), 0);
    due("ran over", x.count(7), 1);
    due("graded to the rest", x.cup(4, 1), 4);
    due("still in its cup", x.cup(4, 2), 110);
    due("in ticks", x.cup(4, 3), 8);
    x.set(2, 20);
    due("it goes on", x.pass(7), 0);
    due("to the end", x.pass(1), 1);
    due("into the rest", x.apple(4, 0, 0), 110);

    x = new CupEye();
    x.rule(0, 50, 0, 9, 0);
    for (int i = 0; i < 3; i++) {
      x.lay(100, 1, 1);
      x.pass(1);
    }
    x.pass(2);
    x.set(2, 1);
    x.lay(100, 1, 1);
    x.pass(2);
    due("over full boxes let nothing in", x.box(0, 0), 3);
    due("ran over", x.count(7), 1);
  }

  private static void rule() {
    CupEye x = new CupEye();
    int[][] bad = {{-1, 50, 0, 0, 0}, {1, 50, 0, 0, 0}, {0, 49, 0, 0, 0}, {0, 301, 0, 0, 0}, {0, 50, -1, 0, 0},
      {0, 50, 101, 0, 0}, {0, 50, 0, -1, 0}, {0, 50, 0, 10, 0}, {0, 50, 0, 0, -1}, {0, 50, 0, 0, 4},
      {LOW, 50, 0, 0, 0}, {HIGH, 50, 0, 0, 0}, {0, 50, 0, 0, HIGH}, {0, 50, 0, 0, LOW}};
    for (int[] b : bad) due("wrong input", x.rule(b[0], b[1], b[2], b[3], b[4]), INVALID);
    due("nothing changed", x.count(15), 0);
    due("first", x.rule(0, 50, 0, 0, 0), 1);
    due("behind", x.rule(1, 300, 100, 9, 3), 2);
    due("between", x.rule(1, 150, 40, 4, 2), 3);
    due("ahead", x.rule(0, 160, 41, 5, 1), 4);
    int[] weights = {160, 50, 150, 300};
    for (int i = 0; i < 4; i++) due("order", x.ruleOf(i, 0), weights[i]);
    for (int n = 5; n <= 8; n++) due("more", x.rule(0, 50, 0, 0, 0), n);
    due("full", x.rule(0, 50, 0, 0, 0), LIMIT);
    due("full, at the end", x.rule(8, 50, 0, 0, 0), LIMIT);
    due("full and wrong", x.rule(9, 50, 0, 0, 0), INVALID);
    due("still", x.count(0), 8);
  }

  private static void drop() {
    CupEye x = new CupEye();
    due("none", x.drop(0), INVALID);
    for (int i = 0; i < 8; i++) x.rule(i, 60 + i, i, i, i % 4);
    for (int i : new int[] {-1, 8, LOW, HIGH}) due("wrong input", x.drop(i), INVALID);
    due("in the midst", x.drop(3), 7);
    due("the last", x.drop(6), 6);
    due("the first", x.drop(0), 5);
    int[] left = {1, 2, 4, 5, 6};
    for (int i = 0; i < 5; i++) {
      due("weight", x.ruleOf(i, 0), 60 + left[i]);
      due("red", x.ruleOf(i, 1), left[i]);
      due("bruise", x.ruleOf(i, 2), left[i]);
      due("lane", x.ruleOf(i, 3), left[i] % 4);
    }
    due("no longer there", x.drop(5), INVALID);
  }

  private static void water() {
    CupEye x = new CupEye();
    for (int lane : new int[] {-1, 4, LOW, HIGH}) due("wrong input", x.water(lane), INVALID);
    due("nothing changed", x.count(15), 0);
    for (int lane = 0; lane < 4; lane++) {
      due("out", x.water(lane), 0);
      due("none", x.box(lane, 5), 0);
      due("in", x.water(lane), 1);
      due("some", x.box(lane, 5), 1);
    }
    x.rule(0, 50, 0, 9, 0);
    x.water(0);
    int[] bruises = {0, 8, 9};
    for (int b : bruises) {
      x.lay(100, 50, b);
      x.pass(2);
    }
    due("bruised", x.apple(0, 0, 2), 1);
    due("bruised", x.apple(0, 1, 2), 9);
    due("at most 9", x.apple(0, 2, 2), 9);
    due("only those that get more are counted", x.count(9), 2);
    x.water(0);
    x.lay(100, 50, 3);
    x.pass(2);
    due("soft in water", x.apple(0, 3, 2), 3);
    x.drop(0);
    x.water(0);
    x.lay(100, 50, 3);
    x.pass(12);
    due("the rest is soft", x.apple(4, 0, 2), 3);
    due("not counted", x.count(9), 2);
  }

  private static void empty() {
    CupEye x = new CupEye();
    for (int lane : new int[] {-1, 5, LOW, HIGH}) due("wrong input", x.empty(lane), INVALID);
    due("nothing changed", x.count(15), 0);
    due("nothing in it", x.empty(0), 0);
    due("a change all the same", x.count(15), 1);
    x.rule(0, 100, 0, 9, 3);
    for (int i = 0; i < 3; i++) {
      x.lay(100, 0, 0);
      x.pass(1);
    }
    x.lay(60, 0, 0);
    x.lay(61, 0, 0);
    x.pass(30);
    due("a lane", x.empty(3), 3);
    due("the rest", x.empty(4), 2);
    due("taken out", x.count(10), 5);
    due("in boxes", x.count(4), 0);
    due("again", x.empty(4), 0);
    x.lay(62, 0, 0);
    x.pass(12);
    due("filled anew", x.apple(4, 0, 0), 62);
  }

  private static void set() {
    CupEye x = new CupEye();
    int[][] bad = {{-1, 1}, {3, 1}, {LOW, 1}, {HIGH, 1}, {0, -21}, {0, 21}, {1, -1}, {1, 10}, {2, 0}, {2, 21},
      {0, LOW}, {0, HIGH}, {1, LOW}, {1, HIGH}, {2, LOW}, {2, HIGH}};
    for (int[] b : bad) due("wrong input", x.set(b[0], b[1]), INVALID);
    due("nothing changed", x.count(15), 0);
    due("bias", x.set(CupEye.BIAS, -20), 20);
    due("bias", x.set(CupEye.BIAS, 20), 0);
    due("bias", x.set(CupEye.BIAS, 5), 40);
    due("bias", x.count(11), 25);
    due("glow", x.set(CupEye.GLOW, 0), 1);
    due("glow", x.set(CupEye.GLOW, 9), 0);
    due("glow", x.count(12), 9);
    due("fill", x.set(CupEye.FILL, 1), 10);
    due("fill", x.set(CupEye.FILL, 20), 1);
    due("fill", x.count(13), 20);
    x.rule(0, 50, 0, 9, 0);
    for (int i = 0; i < 21; i++) {
      x.lay(100, 0, 0);
      x.pass(1);
    }
    x.pass(2);
    due("20 in the box", x.box(0, 0), 20);
    due("1 ran over", x.count(7), 1);
  }

  private static void append() {
    CupEye x = new CupEye();
    for (int code : new int[] {32, 127, 0, -1, 177, LOW, HIGH}) due("wrong input", x.append(code), INVALID);
    due("the least code", x.append(33), 1);
    due("the greatest code", x.append(126), 2);
    for (int n = 3; n <= 60; n++) due("more", x.append(65), n);
    due("full", x.append(65), LIMIT);
    due("full and wrong", x.append(32), INVALID);
    due("length", x.count(14), 60);
    due("no change", x.count(15), 0);
  }

  private static void clear() {
    CupEye x = new CupEye();
    due("empty", x.clear(), 0);
    type(x, "w50r0b0");
    due("length", x.clear(), 7);
    due("length then", x.count(14), 0);
    due("again", x.clear(), 0);
    due("no change", x.count(15), 0);
    type(x, "x");
    due("new text", x.fault(0), NOT_FOUND);
  }

  private static void fault() {
    CupEye x = new CupEye();
    for (int way : new int[] {-1, 2, LOW, HIGH}) due("wrong input", x.fault(way), INVALID);
    String[] good = {"x", "x,x", "w50r0b0", "w99r99b9", "w100r100b9", "w300r10b0", "w299r1b1,x", "w50r0b0,&w50r0b0",
      "w50r0b0,&w50r0b0,w50r0b0,&w50r0b0", "w50r0b0,&w50r0b0,x,w50r0b0"};
    for (String text : good) {
      faultIs(0, text, NOT_FOUND);
      for (int end = 0; end < text.length(); end++) {
        boolean whole = end > 0 && (text.charAt(end) == ',');
        faultIs(0, text.substring(0, end), whole ? NOT_FOUND : end);
      }
    }
    faultIs(0, "X", 0);
    faultIs(0, "xx", 1);
    faultIs(0, "x,", 2);
    faultIs(0, "x,,", 2);
    faultIs(0, "x,&", 2);
    faultIs(0, "&w50r0b0", 0);
    faultIs(0, "w50r0b0,&x", 9);
    faultIs(0, "w50r0b0,&&", 9);
    faultIs(0, "w50r0b0,&w50r0b0,&", 17);
    faultIs(0, "w4", 1);
    faultIs(0, "w0", 1);
    faultIs(0, "w31", 2);
    faultIs(0, "w301", 3);
    faultIs(0, "w3000", 4);
    faultIs(0, "w500", 3);
    faultIs(0, "w49", 1);
    faultIs(0, "w10r", 3);
    faultIs(0, "w30r", 3);
    faultIs(0, "w1", 2);
    faultIs(0, "wr", 1);
    faultIs(0, "w50b", 3);
    faultIs(0, "w50r00", 5);
    faultIs(0, "w50r01", 5);
    faultIs(0, "w50r101", 6);
    faultIs(0, "w50r1000", 7);
    faultIs(0, "w50r110", 6);
    faultIs(0, "w50rb", 4);
    faultIs(0, "w50r0b", 6);
    faultIs(0, "w50r0b10", 7);
    faultIs(0, "w50r0b00", 7);
    faultIs(0, "w50r0b0>0", 7);
    faultIs(1, "w50r0b0>0", NOT_FOUND);
    faultIs(1, "w300r100b9>3,w50r0b0>0", NOT_FOUND);
    faultIs(1, "w300r100b9>4", 11);
    faultIs(1, "w300r100b9>30", 12);
    faultIs(1, "w300r100b9>", 11);
    faultIs(1, "w300r100b9", 10);
    faultIs(1, "w300r100b9,", 10);
    faultIs(1, "w300r100b9>3,", 13);
    faultIs(1, "w300r100b9>3,x", 13);
    faultIs(1, "w300r100b9>3,&", 13);
    faultIs(1, "x", 0);
    faultIs(1, "w49r0b0>0", 1);
    faultIs(1, "w050r0b0>0", 1);
    type(x, "w50r0b0>0");
    type(x, "w50r0b");
    due("nothing is left of a longer text", x.fault(0), 6);
    type(x, "w50r0b0");
    due("nothing is left of a longer text", x.fault(1), 7);
    String full = "w50r0b0,w50r0b0,w50r0b0,w50r0b0,w50r0b0,w50r0b0,w50r0b0,x,x,";
    faultIs(0, full.substring(0, 59), NOT_FOUND);
    faultIs(0, full.substring(0, 60), 60);
    faultIs(0, full.substring(0, 58) + "w1", 60);
  }

  private static void rules() {
    CupEye x = new CupEye();
    x.rule(0, 70, 7, 7, 1);
    x.rule(0, 71, 7, 7, 1);
    x.rule(0, 72, 7, 7, 1);
    due("an empty pad", x.rules(), NOT_POSSIBLE);
    type(x, "w300r100b9>3,w50r0b0>0,");
    due("a fault", x.rules(), NOT_POSSIBLE);
    due("the pad stays", x.count(14), 23);
    due("the rules stay", x.count(0), 3);
    due("no change", x.count(15), 3);
    x.append('w');
    x.clear();
    type(x, "w300r100b9>3,w50r0b0>0");
    due("two rules", x.rules(), 2);
    due("the pad is empty", x.count(14), 0);
    due("a change", x.count(15), 4);
    int[][] told = {{300, 100, 9, 3, 0}, {50, 0, 0, 0, 0}};
    for (int i = 0; i < 10; i++) due("rule", x.ruleOf(i / 5, i % 5), told[i / 5][i % 5]);
    due("no third rule", x.ruleOf(2, 0), INVALID);
    x.undo();
    due("three again", x.count(0), 3);
    due("the pad is not undone", x.count(14), 0);
    type(x, "w50r0b0>0,w51r0b0>1,w52r0b0>2,w53r0b0>3,w54r0b0>0,w55r0b0>1");
    due("six rules", x.rules(), 6);
    due("the last one", x.ruleOf(5, 0), 55);
  }

  private static void run() {
    CupEye x = new CupEye();
    due("an empty pad", x.run(), NOT_POSSIBLE);
    x.rule(0, 100, 0, 9, 0);
    type(x, "w100r1b1,w60r2b2,&w61r3b3,x,w62r4b4");
    x.lay(50, 0, 0);
    due("apples below the eye", x.run(), LIMIT);
    due("the pad stays", x.count(14), 35);
    due("no change", x.count(15), 2);
    x.undo();
    due("an apple falls", x.run(), 1);
    due("one change", x.count(15), 2);
    due("the pad is empty", x.count(14), 0);
    due("a tick for each cup", x.count(1), 4);
    due("the double", x.cup(3, 0), 2);
    due("its weights", x.cup(3, 2), 121);
    due("no apple", x.cup(2, 0), 0);
    due("the last", x.cup(1, 2), 62);
    due("the first", x.apple(0, 0, 0), 100);
    due("laid", x.count(6), 4);
    due("undone at once", x.undo(), 1);
    due("nothing laid", x.count(6), 0);
    due("no tick", x.count(1), 0);
    due("nothing on the belt", x.count(2), 0);
    type(x, "w10");
    x.lay(50, 0, 0);
    due("a fault ahead of the limit", x.run(), NOT_POSSIBLE);
    x = new CupEye();
    x.lay(50, 0, 0);
    type(x, "x");
    due("no apple, but the cup has one", x.run(), LIMIT);
    x.pass(11);
    due("it falls out", x.run(), 1);
    x = new CupEye();
    type(x, "w60r2b2,&w61r3b3");
    x.run();
    type(x, "w62r4b4");
    x.run();
    due("nothing is left of a longer text", x.count(1), 2);
    type(x, "x,x,x,x,x,x,x,x,x,x,x");
    due("falls of several ticks", x.run(), 3);
  }

  private static void cup() {
    CupEye x = busy();
    int[][] bad = {{-1, 0}, {12, 0}, {0, -1}, {0, 4}, {LOW, 0}, {HIGH, 0}, {0, LOW}, {0, HIGH}};
    for (int[] b : bad) due("wrong input", x.cup(b[0], b[1]), INVALID);
    int[][] told = {{1, NOT_FOUND, 120, 2}, {2, 4, 401, 11}, {1, 1, 70, 2}, {0, NOT_FOUND, 0, NOT_FOUND}};
    for (int i = 0; i < 16; i++) due("cup " + i / 4 + " " + i % 4, x.cup(i / 4, i % 4), told[i / 4][i % 4]);
    x.lay(121, 0, 0);
    due("a double below the eye", x.cup(0, 3), 12);
    due("not graded", x.cup(0, 1), NOT_FOUND);
    for (int lane = 0; lane < 4; lane++) {
      x = new CupEye();
      x.rule(0, 50, 10, 9, lane);
      x.lay(50, 5, 0);
      due("the rest", x.cup(0, 3), 12);
      x.set(0, 5);
      for (int place = 0; place < 2 + 2 * lane; place++) {
        due("ticks to lane " + lane, x.cup(place, 3), 2 + 2 * lane - place);
        x.pass(1);
      }
      due("in the box", x.box(lane, 0), 1);
    }
    x = new CupEye();
    x.rule(0, 50, 0, 9, 0);
    x.set(2, 1);
    x.lay(50, 0, 0);
    x.pass(2);
    x.lay(51, 0, 0);
    due("as if no box was full", x.cup(0, 3), 2);
    x.pass(11);
    due("the last place", x.cup(11, 3), 1);
  }

  private static void apple() {
    CupEye x = new CupEye();
    x.rule(0, 100, 0, 9, 1);
    x.lay(110, 11, 1);
    x.pass(1);
    x.lay(120, 12, 2);
    x.pass(1);
    x.lay(99, 13, 3);
    x.pass(12);
    int[][] bad = {{-1, 0, 0}, {5, 0, 0}, {0, -1, 0}, {0, 0, -1}, {0, 0, 4}, {0, 99, 4}, {4, LOW, 0}, {HIGH, 0, 0}};
    for (int[] b : bad) due("wrong input", x.apple(b[0], b[1], b[2]), INVALID);
    due("an empty box", x.apple(0, 0, 0), NOT_FOUND);
    due("behind the last", x.apple(1, 2, 0), NOT_FOUND);
    due("far behind", x.apple(1, HIGH, 3), NOT_FOUND);
    int[][] told = {{110, 11, 1, 0}, {120, 12, 2, 0}};
    for (int i = 0; i < 8; i++) due("apple", x.apple(1, i / 4, i % 4), told[i / 4][i % 4]);
    int[] rest = {99, 13, 3, 0};
    for (int i = 0; i < 4; i++) due("rest", x.apple(4, 0, i), rest[i]);
    x.drop(0);
    due("wrong by the rules of now", x.apple(1, 0, 3), 1);
    x.rule(0, 50, 0, 9, 1);
    due("right again", x.apple(1, 0, 3), 0);
    due("the rest is never wrong", x.apple(4, 0, 3), 0);
  }

  private static void wrongOnes() {
    CupEye x = new CupEye();
    x.rule(0, 50, 50, 2, 0);
    x.set(0, 20);
    x.set(1, 5);
    x.lay(100, 30, 0);
    x.pass(2);
    x.lay(100, 60, 4);
    x.pass(2);
    x.lay(100, 60, 1);
    x.pass(2);
    due("not red enough in truth", x.apple(0, 0, 3), 1);
    due("too bruised in truth", x.apple(0, 1, 3), 1);
    due("right", x.apple(0, 2, 3), 0);
    due("wrong ones", x.box(0, 2), 2);
    due("in all", x.count(5), 2);
    due("right ones", x.right(), 1.0 / 3.0);
    x.water(0);
    x.lay(100, 60, 2);
    x.pass(2);
    due("bruised by the drop", x.apple(0, 3, 3), 1);
    x.rule(0, 50, 0, 9, 1);
    due("all of another lane", x.box(0, 2), 4);
  }

  private static void box() {
    CupEye x = new CupEye();
    int[][] bad = {{-1, 0}, {5, 0}, {0, -1}, {0, 6}, {LOW, 0}, {HIGH, 0}, {0, LOW}, {0, HIGH}};
    for (int[] b : bad) due("wrong input", x.box(b[0], b[1]), INVALID);
    int[] none = {0, 0, 0, NOT_FOUND, NOT_FOUND, 1};
    for (int l = 0; l < 5; l++) for (int i = 0; i < 6; i++) due("empty", x.box(l, i), none[i]);
    x.rule(0, 100, 0, 9, 2);
    x.water(2);
    type(x, "w100r20b4,w150r30b0,w200r40b2,w60r100b9,&w70r0b0,w80r5b3");
    x.run();
    x.pass(30);
    int[] lane = {3, 450, 0, 20, 5, 0};
    int[] rest = {3, 210, 0, 0, 9, 1};
    for (int i = 0; i < 6; i++) {
      due("lane " + i, x.box(2, i), lane[i]);
      due("rest " + i, x.box(4, i), rest[i]);
    }
    x.set(0, 1);
    x.drop(0);
    x.rule(0, 151, 0, 9, 2);
    due("wrong ones", x.box(2, 2), 2);
    due("none in the rest", x.box(4, 2), 0);
    x.empty(2);
    due("no least red", x.box(2, 3), NOT_FOUND);
  }

  private static void ruleOf() {
    CupEye x = new CupEye();
    x.rule(0, 100, 50, 5, 3);
    int[][] later = {{100, 50, 5, 1}, {300, 100, 0, 1}, {99, 100, 0, 0}, {300, 49, 0, 0}, {300, 100, 6, 0},
      {101, 51, 4, 1}};
    for (int[] r : later) {
      x.rule(1, r[0], r[1], r[2], 2);
      for (int i = 0; i < 3; i++) due("number", x.ruleOf(1, i), r[i]);
      due("lane", x.ruleOf(1, 3), 2);
      due("hidden", x.ruleOf(1, 4), r[3]);
      due("the first is not", x.ruleOf(0, 4), 0);
      x.drop(1);
    }
    for (int i : new int[] {-1, 1, LOW, HIGH}) due("no such rule", x.ruleOf(i, 0), INVALID);
    for (int i : new int[] {-1, 5, LOW, HIGH}) due("wrong input", x.ruleOf(0, i), INVALID);
    x = new CupEye();
    x.rule(0, 100, 0, 9, 0);
    x.rule(1, 50, 50, 9, 0);
    x.rule(2, 120, 20, 3, 0);
    x.rule(3, 60, 60, 9, 0);
    due("hidden by the first", x.ruleOf(2, 4), 1);
    due("hidden by the second", x.ruleOf(3, 4), 1);
    due("not by a later one", x.ruleOf(1, 4), 0);
  }

  private static void lane() {
    CupEye x = new CupEye();
    int[][] bad = {{49, 0, 0, 0}, {301, 0, 0, 0}, {50, -1, 0, 0}, {50, 101, 0, 0}, {50, 0, -1, 0}, {50, 0, 10, 0},
      {50, 0, 0, -1}, {50, 0, 0, 2}, {LOW, 0, 0, 0}, {50, HIGH, 0, 0}, {50, 0, 0, HIGH}};
    for (int[] b : bad) due("wrong input", x.lane(b[0], b[1], b[2], b[3]), INVALID);
    x.rule(0, 200, 50, 3, 3);
    x.rule(1, 100, 20, 3, 1);
    x.rule(2, 100, 20, 9, 0);
    for (int way = 0; way < 2; way++) {
      due("all", x.lane(200, 50, 3, way), 3);
      due("weight", x.lane(199, 50, 3, way), 1);
      due("red", x.lane(200, 49, 3, way), 1);
      due("bruise", x.lane(200, 50, 4, way), 0);
      due("none", x.lane(99, 50, 3, way), 4);
      x.set(0, 20);
      due("with bias", x.lane(200, 30, 3, way), 3);
      due("at most 100", x.lane(200, 100, 3, way), 3);
      x.set(0, -20);
      due("at least 0", x.lane(200, 5, 0, way), 4);
      x.rule(0, 200, 0, 0, 2);
      due("at least 0", x.lane(200, 5, 0, way), 2);
      x.drop(0);
      x.set(0, 0);
      x.set(1, 5);
      due("below the glow", x.lane(200, 50, 4, way), 3);
      due("from the glow on", x.lane(200, 50, 5, way), 0);
      x.set(1, 1);
    }
  }

  private static void misses() {
    CupEye x = new CupEye();
    due("no rule", x.misses(0, 50, 0, 0), INVALID);
    x.rule(0, 50, 0, 9, 0);
    x.rule(1, 100, 50, 5, 1);
    int[][] bad = {{-1, 50, 0, 0}, {2, 50, 0, 0}, {0, 49, 0, 0}, {0, 301, 0, 0}, {0, 50, -1, 0}, {0, 50, 101, 0},
      {0, 50, 0, -1}, {0, 50, 0, 10}, {LOW, 50, 0, 0}, {HIGH, 50, 0, 0}, {0, HIGH, 0, 0}};
    for (int[] b : bad) due("wrong input", x.misses(b[0], b[1], b[2], b[3]), INVALID);
    due("it meets it, though an earlier one too", x.misses(1, 100, 50, 5), 0);
    due("weight", x.misses(1, 99, 50, 5), 1);
    due("red", x.misses(1, 100, 49, 5), 2);
    due("weight and red", x.misses(1, 99, 49, 5), 3);
    due("bruise", x.misses(1, 100, 50, 6), 4);
    due("all", x.misses(1, 99, 49, 6), 7);
    x.set(0, 1);
    due("with bias", x.misses(1, 100, 49, 5), 0);
    x.set(1, 7);
    due("with glow", x.misses(1, 100, 49, 6), 0);
    due("with glow", x.misses(1, 100, 49, 7), 4);
  }

  private static void count() {
    CupEye x = busy();
    for (int what : new int[] {-1, 16, LOW, HIGH}) due("wrong input", x.count(what), INVALID);
    x.set(0, -3);
    x.set(1, 4);
    x.set(2, 7);
    x.set(2, 1);
    due("in a lane and none in the rest", x.count(4), 1);
    int[] told = {2, 4, 4, 1, 1, 0, 5, 0, 1, 0, 0, 17, 4, 1, 7, 4};
    for (int i = 0; i < told.length; i++) due("count(" + i + ")", x.count(i), told[i]);
    x.water(1);
    x.pass(2);
    x.lay(200, 90, 0);
    x.lay(201, 90, 0);
    due("two doubles", x.count(3), 2);
    x.pass(10);
    x.pass(2);
    due("in lanes and the rest", x.count(4), 7);
    x.empty(4);
    x.drop(0);
    int[] then = {1, 18, 0, 0, 2, 1, 7, 1, 2, 1, 5, 17, 4, 1, 7, 4};
    for (int i = 0; i < then.length; i++) due("then count(" + i + ")", x.count(i), then[i]);
  }

  private static void right() {
    CupEye x = new CupEye();
    x.lay(100, 50, 0);
    x.pass(12);
    due("only in the rest", x.right(), 1.0);
    x.rule(0, 50, 0, 9, 0);
    x.rule(0, 150, 0, 9, 1);
    type(x, "w100r0b0,w110r0b0,w120r0b0,w150r0b0,x,x,x,x");
    x.run();
    due("all right", x.right(), 1.0);
    x.drop(0);
    due("one wrong", x.right(), 0.75);
    CupEye y = new CupEye();
    y.rule(0, 50, 0, 9, 0);
    y.lay(100, 0, 0);
    y.pass(2);
    y.drop(0);
    due("one alone, and wrong", y.right(), 0.0);
    x.drop(0);
    due("all wrong", x.right(), 0.0);
    x.rule(0, 115, 0, 9, 0);
    due("one right", x.right(), 0.25);
    x.rule(0, 111, 0, 9, 1);
    due("another one right", x.right(), 0.25);
    x.empty(0);
    due("one alone", x.right(), 1.0);
    x.empty(1);
    due("without any", x.right(), 1.0);
  }

  private static void ifPassed() {
    CupEye x = new CupEye();
    int[][] bad = {{0, 0}, {31, 0}, {1, -1}, {1, 4}, {LOW, 0}, {HIGH, 0}, {1, LOW}, {1, HIGH}};
    for (int[] b : bad) due("wrong input", x.ifPassed(b[0], b[1]), INVALID);
    x.rule(0, 50, 50, 9, 1);
    x.set(2, 1);
    x.set(0, 10);
    type(x, "w100r45b0,w110r60b0,w120r70b0,x");
    x.run();
    due("fallen already", x.box(1, 0), 1);
    x.lay(130, 0, 0);
    x.lay(131, 0, 0);
    int[] before = looks(x);
    int[][] told = {{0, 1, 1, 1}, {0, 2, 1, 1}, {0, 2, 1, 1}};
    for (int i = 0; i < 12; i++) due("ticks " + (i / 4 + 1), x.ifPassed(i / 4 + 1, i % 4), told[i / 4][i % 4]);
    due("all fall", x.ifPassed(30, 0), 4);
    due("two fall", x.ifPassed(10, 0), 2);
    due("one falls", x.ifPassed(9, 0), 1);
    unchanged("ifPassed", x, before);
    x.set(2, 2);
    due("the next runs over later", x.ifPassed(30, 3), 2);
    due("only one", x.ifPassed(30, 1), 1);
    due("not yet", x.ifPassed(1, 3), NOT_FOUND);
    due("and none", x.ifPassed(1, 1), 0);
    x.set(2, 3);
    due("never", x.ifPassed(30, 3), NOT_FOUND);
    x.rule(0, 50, 65, 9, 2);
    due("wrong ones then", x.ifPassed(1, 2), 1);
    due("and later", x.ifPassed(2, 2), 2);
    x.pass(1);
    x.set(2, 1);
    x.pass(1);
    due("one ran over", x.count(7), 1);
    due("earlier ones are not counted", x.ifPassed(30, 1), 0);
    due("none of them is the first", x.ifPassed(30, 3), NOT_FOUND);
  }

  private static void tightest() {
    CupEye x = new CupEye();
    due("no rule", x.tightest(0, 1), INVALID);
    x.rule(0, 100, 10, 5, 2);
    int[][] bad = {{-1, 1}, {1, 1}, {0, 0}, {0, 21}, {LOW, 1}, {HIGH, 1}, {0, LOW}, {0, HIGH}};
    for (int[] b : bad) due("wrong input", x.tightest(b[0], b[1]), INVALID);
    due("no apple", x.tightest(0, 1), NOT_FOUND);
    type(x, "w100r40b0,w100r60b0,w99r90b0,w100r90b6,w100r99b0,&w100r99b0");
    x.run();
    x.lay(100, 50, 5);
    int[] before = looks(x);
    due("one", x.tightest(0, 1), 60);
    due("two, one of them below the eye", x.tightest(0, 2), 50);
    due("three", x.tightest(0, 3), 40);
    due("too light, too bruised, doubles", x.tightest(0, 4), NOT_FOUND);
    due("the most that may be asked for", x.tightest(0, 20), NOT_FOUND);
    unchanged("tightest", x, before);
    x.set(0, 20);
    due("with bias", x.tightest(0, 1), 80);
    x.set(1, 7);
    due("with glow", x.tightest(0, 1), 100);
    x.set(1, 1);
    x.set(0, -20);
    due("with bias", x.tightest(0, 1), 40);
    x.rule(1, 50, 0, 9, 2);
    due("another rule of its lane brings them", x.tightest(0, 4), 100);
    x.rule(0, 50, 30, 9, 1);
    due("an earlier rule takes all but one", x.tightest(1, 2), NOT_FOUND);
    due("this one comes by the other rule", x.tightest(1, 1), 100);
    due("the earlier rule itself", x.tightest(0, 5), 20);
    x = new CupEye();
    x.rule(0, 50, 100, 9, 0);
    x.lay(100, 0, 0);
    due("0 is a bound too", x.tightest(0, 1), 0);
    x.pass(3);
    due("graded to the rest, all the same", x.tightest(0, 1), 0);
  }

  private static void undo() {
    CupEye x = busy();
    x.save();
    looks(x);
    due("save, append, clear and looks are no changes", x.count(15), 4);
    x.undo();
    due("the apple is off", x.cup(0, 0), 0);
    due("the pad stays", x.count(14), 7);
    due("three left", x.count(15), 3);
    due("undo", x.undo(), 2);
    due("undo", x.undo(), 1);
    due("undo", x.undo(), 0);
    due("no more", x.undo(), NOT_POSSIBLE);
    due("four changes back", x.count(1), 2 + 1);
    due("laid then", x.count(6), 2);

    Runnable[] changes = new Runnable[10];
    final CupEye y = busy();
    int[] before = looks(y);
    changes[0] = () -> y.lay(60, 6, 6);
    changes[1] = () -> y.pass(30);
    changes[2] = () -> y.rule(1, 60, 6, 6, 3);
    changes[3] = () -> y.drop(0);
    changes[4] = () -> y.water(3);
    changes[5] = () -> y.empty(0);
    changes[6] = () -> y.set(0, 3);
    changes[7] = () -> y.set(1, 3);
    changes[8] = () -> y.set(2, 3);
    changes[9] = () -> y.restore();
    y.save();
    for (int i = 0; i < changes.length; i++) {
      changes[i].run();
      due("states after change " + i, y.count(15), 4);
      due("undo of change " + i, y.undo(), 3);
      int[] after = looks(y);
      for (int k = 0; k < after.length; k++) {
        boolean history = k == 12 * 4 + 5 * 6 + 8 * 5 + 15;
        if (!history) due("change " + i + " undone, look " + k, after[k], before[k]);
      }
    }
    tallies();
    CupEye z = new CupEye();
    for (int i = 1; i <= 7; i++) z.set(1, i);
    due("four states", z.count(15), 4);
    for (int i = 6; i >= 3; i--) {
      z.undo();
      due("the states in their order", z.count(12), i);
    }
    due("older ones are gone", z.undo(), NOT_POSSIBLE);
  }

  /** The tallies and what is in the boxes come back, too. */
  private static void tallies() {
    CupEye x = new CupEye();
    x.rule(0, 100, 0, 9, 0);
    x.water(0);
    x.set(2, 1);
    type(x, "w100r1b1,w101r1b1,w60r2b2,&w61r3b3,x,x,x,x,x,x,x,x,x,x,x");
    x.run();
    due("bruised, over, double, fallen", x.count(9) * 1000 + x.count(7) * 100 + x.count(8) * 10 + x.count(4), 1114);
    x.empty(0);
    x.empty(4);
    type(x, "w200r1b9,w201r9b1,w160r2b2,x,w90r2b2,&w91r3b3,x,x");
    x.run();
    due("another one", x.apple(0, 0, 0), 200);
    x.undo();
    x.undo();
    due("of the rest again", x.apple(4, 0, 0), 101);
    due("of the rest again", x.apple(4, 2, 0), 61);
    x.undo();
    due("of the lane again", x.apple(0, 0, 0), 100);
    due("bruised, over, double, fallen", x.count(9) * 1000 + x.count(7) * 100 + x.count(8) * 10 + x.count(4), 1114);
    x.undo();
    for (int i = 1; i <= 10; i++) due("tally " + i, x.count(i), 0);
  }

  private static void save() {
    CupEye x = new CupEye();
    due("an empty belt", x.save(), 0);
    x.lay(60, 6, 6);
    x.lay(61, 6, 6);
    due("apples on the belt", x.save(), 2);
    due("no change", x.count(15), 2);
    x.pass(12);
    x.undo();
    x.undo();
    x.undo();
    due("it is not undone, and in place of the first one", x.restore(), 2);
  }

  private static void restore() {
    CupEye x = busy();
    due("none", x.restore(), NOT_POSSIBLE);
    due("no change", x.count(15), 4);
    x.save();
    int[] before = looks(x);
    x.pass(30);
    x.rule(0, 77, 7, 7, 2);
    x.water(0);
    x.set(0, 9);
    x.set(1, 9);
    x.set(2, 9);
    x.empty(4);
    x.lay(90, 9, 9);
    x.clear();
    x.append('x');
    due("apples on the belt", x.restore(), 4);
    due("the pad stays", x.count(14), 1);
    due("a change", x.count(15), 4);
    type(x, "w50r0b0");
    unchanged("restoring", x, before);
    x.undo();
    due("undone", x.count(2), 1);
    due("undone", x.count(10), 2);
    due("it stays", x.restore(), 4);
    x.lay(91, 9, 9);
    due("and is not touched", x.restore(), 4);
    due("in any way", x.cup(0, 0), 1);
  }

  /** Errors change nothing, whatever the state. */
  private static void errors() {
    CupEye x = busy();
    x.lay(122, 0, 0);
    while (x.count(0) < 8) x.rule(0, 50, 0, 0, 0);
    x.clear();
    while (x.count(14) < 60) x.append('x');
    int[] before = looks(x);
    x.lay(100, 0, 0);
    x.lay(0, 0, 0);
    x.pass(0);
    x.rule(0, 50, 0, 0, 0);
    x.rule(9, 50, 0, 0, 0);
    x.drop(8);
    x.water(4);
    x.empty(5);
    x.set(2, 0);
    x.append(65);
    x.append(32);
    x.rules();
    x.run();
    x.restore();
    unchanged("an error", x, before);
  }

  /** As many apples as 512 calls can lay into the rest. */
  private static void longest() {
    CupEye x = new CupEye();
    for (int i = 0; i < 170; i++) {
      x.lay(50 + i, i % 101, i % 10);
      x.lay(51 + i, i % 101, i % 10);
      x.pass(1);
    }
    x.pass(12);
    due("all in the rest", x.box(4, 0), 340);
    due("the last one", x.apple(4, 339, 0), 220);
  }

  public static void main(String[] args) {
    promise = 1; newObject();
    promise = 2; lay();
    promise = 3; pass(); passRunsOver();
    promise = 4; rule();
    promise = 5; drop();
    promise = 6; water();
    promise = 7; empty();
    promise = 8; set();
    promise = 9; append();
    promise = 10; clear();
    promise = 11; fault();
    promise = 12; rules();
    promise = 13; run();
    promise = 14; cup();
    promise = 15; apple(); wrongOnes();
    promise = 16; box();
    promise = 17; ruleOf();
    promise = 18; lane();
    promise = 19; misses();
    promise = 20; count(); longest();
    promise = 21; right();
    promise = 22; ifPassed();
    promise = 23; tightest();
    promise = 24; undo(); errors();
    promise = 25; save();
    promise = 26; restore();
    System.out.println(wrong == 0 ? "all promises hold" : wrong + " answers are not as due");
    if (wrong != 0) {
      System.exit(1);
    }
  }
}

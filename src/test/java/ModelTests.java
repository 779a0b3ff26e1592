import java.util.ArrayList;
import java.util.List;
import java.util.regex.Matcher;
import java.util.regex.Pattern;

/**
 * Long runs of calls on CupEye and on a second, naive reading of the document, compared call by call.
 * The runs are chosen by a fixed sequence of numbers, so they are the same each time.
 */
public final class ModelTests {
  private static final int RUNS = 3000, CALLS = 512;
  private static long seed = 20261119L;
  private static int wrong = 0;

  // ---- the second reading: apples, rules and cups are small objects, a state is copied whole

  private static final class Fruit {
    final int w, r, b;
    Fruit(int w, int r, int b) { this.w = w; this.r = r; this.b = b; }
    boolean meets(int[] rule) { return w >= rule[0] && r >= rule[1] && b <= rule[2]; }
  }

  private static final class Cup {
    List<Fruit> in = new ArrayList<>();
    int grade = -4;
    Cup copy() { Cup c = new Cup(); c.in.addAll(in); c.grade = grade; return c; }
  }

  private static final class World {
    List<Cup> cups = new ArrayList<>();
    List<List<Fruit>> boxes = new ArrayList<>();
    List<int[]> rules = new ArrayList<>();
    boolean[] dry = new boolean[5];
    int bias = 0, glow = 1, fill = 10;
    int ticks, laid, over, doubles, bruised, out;
    int fellNow, firstOver, overNow;

    World() {
      for (int i = 0; i < 12; i++) cups.add(new Cup());
      for (int i = 0; i < 5; i++) boxes.add(new ArrayList<>());
    }

    World copy() {
      World o = new World();
      o.cups.clear();
      for (Cup c : cups) o.cups.add(c.copy());
      o.boxes.clear();
      for (List<Fruit> b : boxes) o.boxes.add(new ArrayList<>(b));
      for (int[] r : rules) o.rules.add(r.clone());
      o.dry = dry.clone();
      o.bias = bias; o.glow = glow; o.fill = fill;
      o.ticks = ticks; o.laid = laid; o.over = over; o.doubles = doubles; o.bruised = bruised; o.out = out;
      return o;
    }

    Fruit seen(Fruit f) {
      int r = f.r + bias;
      if (r < 0) r = 0;
      if (r > 100) r = 100;
      return new Fruit(f.w, r, f.b < glow ? 0 : f.b);
    }

    int told(Fruit f) {
      for (int[] r : rules) if (f.meets(r)) return r[3];
      return 4;
    }

    int wouldGrade(Cup c) { return c.in.size() == 2 ? 4 : told(seen(c.in.get(0))); }

    void tick() {
      ticks++;
      Cup below = cups.get(0);
      if (!below.in.isEmpty()) {
        below.grade = wouldGrade(below);
        if (below.in.size() == 2) doubles++;
      }
      Cup last = cups.remove(11);
      boxes.get(4).addAll(last.in);
      fellNow += last.in.size();
      cups.add(0, new Cup());
      for (int k = 0; k < 4; k++) {
        Cup c = cups.get(2 + 2 * k);
        if (c.grade != k) continue;
        if (boxes.get(k).size() >= fill) { c.grade = 4; over++; overNow++; continue; }
        Fruit f = c.in.get(0);
        if (dry[k] && f.b != 9) { f = new Fruit(f.w, f.r, f.b + 1); bruised++; }
        boxes.get(k).add(f);
        fellNow++;
        cups.set(2 + 2 * k, new Cup());
      }
    }

    int pass(int n) {
      fellNow = 0; overNow = 0; firstOver = -4;
      for (int i = 1; i <= n; i++) { tick(); if (overNow > 0 && firstOver < 0) firstOver = i; }
      return fellNow;
    }

    boolean isWrong(int k, Fruit f) { return k < 4 && told(f) != k; }

    int wrongIn(int k) { int n = 0; for (Fruit f : boxes.get(k)) if (isWrong(k, f)) n++; return n; }

    int wrongAll() { return wrongIn(0) + wrongIn(1) + wrongIn(2) + wrongIn(3); }

    int onBelt() { int n = 0; for (Cup c : cups) n += c.in.size(); return n; }
  }

  private static final String FRUIT = "w(?:[5-9][0-9]|[12][0-9][0-9]|300)r(?:0|[1-9][0-9]?|100)b[0-9]";
  private static final String GROUP = "(?:x|" + FRUIT + "(?:,&" + FRUIT + ")?)";
  private static final Pattern APPLES = Pattern.compile(GROUP + "(?:," + GROUP + ")*");
  private static final Pattern RULES = Pattern.compile(FRUIT + ">[0-3](?:," + FRUIT + ">[0-3])*");

  private static final class Naive {
    World now = new World();
    World saved = null;
    List<World> past = new ArrayList<>();
    String pad = "";

    void record() { past.add(now.copy()); if (past.size() > 4) past.remove(0); }

    static boolean ok(int w, int r, int b) { return in(w, 50, 300) && in(r, 0, 100) && in(b, 0, 9); }
    static boolean in(int v, int lo, int hi) { return lo <= v && v <= hi; }

    int lay(int w, int r, int b) {
      if (!ok(w, r, b)) return -1;
      if (now.cups.get(0).in.size() == 2) return -3;
      record();
      now.cups.get(0).in.add(new Fruit(w, r, b));
      now.laid++;
      return now.cups.get(0).in.size();
    }

    int pass(int n) { if (!in(n, 1, 30)) return -1; record(); return now.pass(n); }

    int rule(int p, int w, int r, int b, int l) {
      if (!in(p, 0, now.rules.size()) || !ok(w, r, b) || !in(l, 0, 3)) return -1;
      if (now.rules.size() == 8) return -3;
      record();
      now.rules.add(p, new int[] {w, r, b, l});
      return now.rules.size();
    }

    int drop(int i) {
      if (!in(i, 0, now.rules.size() - 1)) return -1;
      record();
      now.rules.remove(i);
      return now.rules.size();
    }

    int water(int l) { if (!in(l, 0, 3)) return -1; record(); now.dry[l] ^= true; return now.dry[l] ? 0 : 1; }

    int empty(int l) {
      if (!in(l, 0, 4)) return -1;
      record();
      int n = now.boxes.get(l).size();
      now.boxes.get(l).clear();
      now.out += n;
      return n;
    }

    int set(int what, int v) {
      int was;
      if (what == 0 && in(v, -20, 20)) { record(); was = now.bias + 20; now.bias = v; return was; }
      if (what == 1 && in(v, 0, 9)) { record(); was = now.glow; now.glow = v; return was; }
      if (what == 2 && in(v, 1, 20)) { record(); was = now.fill; now.fill = v; return was; }
      return -1;
    }

    int append(int c) {
      if (!in(c, 33, 126)) return -1;
      if (pad.length() == 60) return -3;
      pad = pad + (char) c;
      return pad.length();
    }

    int clear() { int n = pad.length(); pad = ""; return n; }

    int fault(int way) {
      if (way != 0 && way != 1) return -1;
      Pattern kind = way == 0 ? APPLES : RULES;
      for (int i = 1; i <= pad.length(); i++) {
        Matcher m = kind.matcher(pad.substring(0, i));
        if (!m.matches() && !m.hitEnd()) return i - 1;
      }
      return kind.matcher(pad).matches() ? -4 : pad.length();
    }

    static int[] numbers(String text) {
      String[] cut = text.replaceAll("[^0-9]+", " ").trim().split(" ");
      int[] all = new int[cut.length];
      for (int i = 0; i < cut.length; i++) all[i] = Integer.parseInt(cut[i]);
      return all;
    }

    int rules() {
      if (fault(1) != -4) return -2;
      record();
      now.rules.clear();
      for (String part : pad.split(",")) now.rules.add(numbers(part));
      pad = "";
      return now.rules.size();
    }

    int run() {
      if (fault(0) != -4) return -2;
      if (!now.cups.get(0).in.isEmpty()) return -3;
      record();
      now.fellNow = 0;
      for (String group : pad.replace(",&", "&").split(",")) {
        if (!group.equals("x")) {
          for (String part : group.split("&")) {
            int[] n = numbers(part);
            now.cups.get(0).in.add(new Fruit(n[0], n[1], n[2]));
            now.laid++;
          }
        }
        now.tick();
      }
      pad = "";
      return now.fellNow;
    }

    int cup(int p, int what) {
      if (!in(p, 0, 11) || !in(what, 0, 3)) return -1;
      Cup c = now.cups.get(p);
      if (what == 0) return c.in.size();
      if (what == 1) return c.grade;
      if (what == 2) { int s = 0; for (Fruit f : c.in) s += f.w; return s; }
      if (c.in.isEmpty()) return -4;
      int g = p == 0 ? now.wouldGrade(c) : c.grade;
      return g == 4 ? 12 - p : 2 + 2 * g - p;
    }

    int apple(int l, int a, int what) {
      if (!in(l, 0, 4) || a < 0 || !in(what, 0, 3)) return -1;
      if (a >= now.boxes.get(l).size()) return -4;
      Fruit f = now.boxes.get(l).get(a);
      return what == 0 ? f.w : what == 1 ? f.r : what == 2 ? f.b : now.isWrong(l, f) ? 1 : 0;
    }

    int box(int l, int what) {
      if (!in(l, 0, 4) || !in(what, 0, 5)) return -1;
      List<Fruit> box = now.boxes.get(l);
      if (what == 0) return box.size();
      if (what == 2) return now.wrongIn(l);
      if (what == 5) return now.dry[l] ? 0 : 1;
      int sum = 0, least = 1000, most = -1;
      for (Fruit f : box) { sum += f.w; least = Math.min(least, f.r); most = Math.max(most, f.b); }
      if (what == 1) return sum;
      if (box.isEmpty()) return -4;
      return what == 3 ? least : most;
    }

    int ruleOf(int i, int what) {
      if (!in(i, 0, now.rules.size() - 1) || !in(what, 0, 4)) return -1;
      int[] r = now.rules.get(i);
      if (what < 4) return r[what];
      for (int[] e : now.rules.subList(0, i)) if (e[0] <= r[0] && e[1] <= r[1] && e[2] >= r[2]) return 1;
      return 0;
    }

    int lane(int w, int r, int b, int way) {
      if (!ok(w, r, b) || !in(way, 0, 1)) return -1;
      return now.told(now.seen(new Fruit(w, r, b)));
    }

    int misses(int i, int w, int r, int b) {
      if (!in(i, 0, now.rules.size() - 1) || !ok(w, r, b)) return -1;
      Fruit f = now.seen(new Fruit(w, r, b));
      int[] rule = now.rules.get(i);
      return (f.w < rule[0] ? 1 : 0) + (f.r < rule[1] ? 2 : 0) + (f.b > rule[2] ? 4 : 0);
    }

    int count(int what) {
      int pairs = 0, all = 0;
      for (Cup c : now.cups) if (c.in.size() == 2) pairs++;
      for (List<Fruit> b : now.boxes) all += b.size();
      int[] numbers = {now.rules.size(), now.ticks, now.onBelt(), pairs, all, now.wrongAll(), now.laid, now.over,
        now.doubles, now.bruised, now.out, now.bias + 20, now.glow, now.fill, pad.length(), past.size()};
      return in(what, 0, 15) ? numbers[what] : -1;
    }

    double right() {
      int all = 0;
      for (int k = 0; k < 4; k++) all += now.boxes.get(k).size();
      return all == 0 ? 1.0 : (double) (all - now.wrongAll()) / all;
    }

    int ifPassed(int n, int what) {
      if (!in(n, 1, 30) || !in(what, 0, 3)) return -1;
      World then = now.copy();
      int fell = then.pass(n);
      return what == 0 ? fell : what == 1 ? then.overNow : what == 2 ? then.wrongAll() : then.firstOver;
    }

    int tightest(int i, int enough) {
      if (!in(i, 0, now.rules.size() - 1) || !in(enough, 1, 20)) return -1;
      int best = -4;
      for (int red = 0; red <= 100; red++) {
        World then = now.copy();
        then.rules.get(i)[1] = red;
        int n = 0;
        for (Cup c : then.cups) {
          if (c.in.size() == 1 && then.told(then.seen(c.in.get(0))) == then.rules.get(i)[3]) n++;
        }
        if (n >= enough) best = red;
      }
      return best;
    }

    int undo() { if (past.isEmpty()) return -2; now = past.remove(past.size() - 1); return past.size(); }

    int save() { saved = now.copy(); return now.onBelt(); }

    int restore() { if (saved == null) return -2; record(); now = saved.copy(); return now.onBelt(); }
  }

  // ---- the choice of calls

  private static int upTo(int n) {
    seed = seed * 6364136223846793005L + 1442695040888963407L;
    return (int) ((seed >>> 33) % n);
  }

  private static int from(int lo, int hi) { return lo + upTo(hi - lo + 1); }

  /** Mostly a number of the range, sometimes its ends or just outside, seldom far outside. */
  private static int about(int lo, int hi) {
    int dice = upTo(60);
    if (dice == 0) return lo - 1;
    if (dice == 1) return hi + 1;
    if (dice == 2) return upTo(2) == 0 ? Integer.MIN_VALUE : Integer.MAX_VALUE;
    if (dice < 6) return lo;
    if (dice < 9) return hi;
    return from(lo, hi);
  }

  private static String fruitText() {
    int w = upTo(4) == 0 ? from(45, 310) : from(50, 300);
    return "w" + (upTo(12) == 0 ? "0" : "") + w + "r" + (upTo(20) == 0 ? "0" : "") + from(0, upTo(9) == 0 ? 110 : 100)
      + "b" + from(0, upTo(15) == 0 ? 12 : 9);
  }

  private static String padText(boolean asRules) {
    StringBuilder text = new StringBuilder();
    int parts = from(1, 6);
    for (int i = 0; i < parts; i++) {
      if (i > 0) text.append(',');
      if (asRules) text.append(fruitText()).append('>').append(from(0, upTo(15) == 0 ? 5 : 3));
      else if (upTo(4) == 0) text.append('x');
      else text.append(upTo(3) == 0 && i > 0 ? "&" : "").append(fruitText());
    }
    int dice = upTo(8);
    if (dice == 0) text.setCharAt(upTo(text.length()), "wrb,&x>0123456789!~".charAt(upTo(19)));
    if (dice == 1) text.setLength(upTo(text.length() + 1));
    if (dice == 2) text.append("wrb,&x>05".charAt(upTo(9)));
    return text.toString();
  }

  // ---- the comparison

  private static String last = "";

  private static void same(String call, double got, double due) {
    last = call;
    if (got != due) {
      wrong++;
      if (wrong < 20) System.out.println(call + " answered " + got + ", due is " + due);
    }
  }

  private static int calls;

  private static void typePad(CupEye x, Naive y, boolean asRules) {
    String text = padText(asRules);
    if (calls + text.length() + 2 > CALLS) return;
    if (upTo(10) != 0) { same("clear", x.clear(), y.clear()); calls++; }
    for (char c : text.toCharArray()) { same("append " + c, x.append(c), y.append(c)); calls++; }
  }

  private static void lookAtAll(CupEye x, Naive y) {
    for (int p = 0; p < 12; p++) for (int w = 0; w < 4; w++) same("cup " + p + " " + w, x.cup(p, w), y.cup(p, w));
    for (int l = 0; l < 5; l++) {
      for (int w = 0; w < 6; w++) same("box " + l + " " + w, x.box(l, w), y.box(l, w));
      for (int a = 0; a <= y.now.boxes.get(l).size(); a++) {
        for (int w = 0; w < 4; w++) same("apple " + l + " " + a + " " + w, x.apple(l, a, w), y.apple(l, a, w));
      }
    }
    for (int r = 0; r <= 8; r++) for (int w = 0; w < 5; w++) same("ruleOf " + r, x.ruleOf(r, w), y.ruleOf(r, w));
    for (int w = 0; w < 16; w++) same("count " + w, x.count(w), y.count(w));
    same("right", x.right(), y.right());
    same("fault 0", x.fault(0), y.fault(0));
    same("fault 1", x.fault(1), y.fault(1));
  }

  private static void change(CupEye x, Naive y) {
    int a, b, c, d, e;
    switch (upTo(16)) {
      case 0: case 1: case 2: case 3:
        a = about(50, 300); b = about(0, 100); c = about(0, 9);
        same("lay", x.lay(a, b, c), y.lay(a, b, c));
        if (upTo(3) == 0) same("pass 1", x.pass(1), y.pass(1));
        break;
      case 4: case 5: case 6: a = upTo(3) == 0 ? about(1, 30) : from(1, 3); same("pass " + a, x.pass(a), y.pass(a)); break;
      case 7:
        a = about(0, y.now.rules.size()); b = upTo(2) == 0 ? from(50, 150) : about(50, 300);
        c = upTo(2) == 0 ? from(0, 50) : about(0, 100); d = about(0, 9); e = about(0, 3);
        same("rule", x.rule(a, b, c, d, e), y.rule(a, b, c, d, e));
        break;
      case 8: a = about(0, Math.max(0, y.now.rules.size() - 1)); if (upTo(3) == 0) same("drop", x.drop(a), y.drop(a)); break;
      case 9: a = about(0, 3); same("water", x.water(a), y.water(a)); break;
      case 10: a = about(0, 4); if (upTo(4) == 0) same("empty", x.empty(a), y.empty(a)); break;
      case 11:
        a = about(0, 2);
        b = a == 0 ? about(-20, 20) : a == 1 ? about(0, 9) : upTo(2) == 0 ? from(1, 3) : about(1, 20);
        same("set " + a + " " + b, x.set(a, b), y.set(a, b));
        break;
      case 12: if (upTo(3) == 0) { typePad(x, y, true); same("rules", x.rules(), y.rules()); } break;
      case 13: case 14: if (upTo(3) == 0) { typePad(x, y, false); same("run", x.run(), y.run()); } break;
      default: timeTravel(x, y);
    }
    calls += 2;
  }

  private static void timeTravel(CupEye x, Naive y) {
    switch (upTo(4)) {
      case 0: same("save", x.save(), y.save()); break;
      case 1: same("restore", x.restore(), y.restore()); break;
      default: same("undo", x.undo(), y.undo());
    }
  }

  private static void look(CupEye x, Naive y) {
    int a = about(50, 300), b = about(0, 100), c = about(0, 9), d = about(0, 1);
    int r = about(0, Math.max(0, y.now.rules.size() - 1)), n = about(1, 30), w = about(0, 3);
    int enough = upTo(2) == 0 ? from(1, 3) : about(1, 20);
    switch (upTo(9)) {
      case 0: same("lane", x.lane(a, b, c, d), y.lane(a, b, c, d)); break;
      case 1: same("misses", x.misses(r, a, b, c), y.misses(r, a, b, c)); break;
      case 2: case 3: same("ifPassed " + n + " " + w, x.ifPassed(n, w), y.ifPassed(n, w)); break;
      case 4: same("tightest " + r + " " + enough, x.tightest(r, enough), y.tightest(r, enough)); break;
      case 5: n = about(0, 15); same("count " + n, x.count(n), y.count(n)); break;
      case 6: n = about(0, 11); same("cup " + n, x.cup(n, w), y.cup(n, w)); break;
      case 7:
        n = about(0, 4); a = about(0, 5);
        same("box " + n + " " + a, x.box(n, a), y.box(n, a));
        same("apple", x.apple(n, upTo(2) == 0 ? about(0, 9) : 0, 9), -1);
        break;
      default:
        r = about(0, 4); n = about(0, 5);
        same("apple " + r + " " + n + " " + w, x.apple(r, n, w), y.apple(r, n, w));
        same("fault", x.fault(d), y.fault(d));
    }
    calls++;
  }

  /** What is looked at here does not count as a call: looks change nothing, and the class has no clock of calls. */
  private static void compareOneRun() {
    CupEye x = new CupEye();
    Naive y = new Naive();
    calls = 0;
    while (calls < CALLS) {
      if (upTo(4) == 0) look(x, y); else change(x, y);
      if (upTo(40) == 0) lookAtAll(x, y);
    }
    lookAtAll(x, y);
  }

  /** Every pad of a few of the signs, read both ways: behind several beginnings. */
  private static void compareShortPads() {
    String signs = "wrbx&,>0123456789!";
    String[] starts = {"", "w", "w1", "w3", "w30", "w5", "w99r", "w99r1", "w99r10", "w99r0", "w99r5b", "w99r5b9",
      "w99r5b9,", "w99r5b9,&", "w99r5b9,&w99r5b9,", "x", "x,", "w99r5b9>", "w99r5b9>3", "w99r5b9>3,", "x,w99r5b9,"};
    for (String start : starts) {
      for (int i = 0; i < signs.length() * signs.length(); i++) {
        CupEye x = new CupEye();
        Naive y = new Naive();
        String text = start + signs.charAt(i / signs.length()) + signs.charAt(i % signs.length());
        for (char c : text.toCharArray()) same("append", x.append(c), y.append(c));
        same("fault 0 of " + text, x.fault(0), y.fault(0));
        same("fault 1 of " + text, x.fault(1), y.fault(1));
      }
    }
  }

  public static void main(String[] args) {
    compareShortPads();
    for (int i = 0; i < RUNS && wrong < 20; i++) compareOneRun();
    System.out.println(wrong == 0 ? "both readings answer the same" : wrong + " answers differ");
    if (wrong != 0) System.exit(1);
  }
}

import java.util.ArrayList;
import java.util.Arrays;
import java.util.List;
import java.util.Random;

/** Random runs of calls, each answer held against a slow model that is written from the document alone. */
public final class ModelTest {
  private static final int RUNS = 1500;
  private static final int CALLS = 120;
  private static final int MOST_SHOWN = 20;
  private static int wrong = 0;

  /** One who reads, as a value that is copied whole. */
  private static final class One implements Cloneable {
    int x, y, kind, pages, worth, strength = 1, left, told;
    boolean lit;
    One same() {
      try { return (One) clone(); } catch (CloneNotSupportedException e) { throw new IllegalStateException(e); }
    }
  }

  /** All that changes but the text, the images and the status. */
  private static final class State {
    int w = 4, h = 4, lampX, lampY, oil = 8;
    boolean[][] shelf = new boolean[5][5];
    List<One> ones = new ArrayList<>();
    List<State> past = new ArrayList<>();

    State same() {
      State s = new State();
      s.w = w; s.h = h; s.lampX = lampX; s.lampY = lampY; s.oil = oil;
      for (int x = 0; x < 5; x++) s.shelf[x] = shelf[x].clone();
      for (One one : ones) s.ones.add(one.same());
      s.past = new ArrayList<>(past);
      return s;
    }

    boolean in(int q) { return q >= 0 && q < w * h; }
    boolean shelfAt(int q) { return shelf[q % w][q / w]; }
    boolean seatAt(int q) {
      for (One one : ones) if (one.x == q % w && one.y == q / w) return true;
      return false;
    }
    int lamp() { return lampY * w + lampX; }

    int light(int ax, int ay, int bx, int by) {
      int steps = Math.abs(ax - bx) + Math.abs(ay - by);
      int light = Math.max(0, 12 - 2 * steps);
      if (ax == bx || ay == by) {
        for (int x = 0; x < w; x++) {
          for (int y = 0; y < h; y++) {
            boolean inColumn = ax == bx && x == ax && (y - ay) * (y - by) < 0;
            boolean inRow = ay == by && y == ay && (x - ax) * (x - bx) < 0;
            if (shelf[x][y] && (inColumn || inRow)) light -= 4;
          }
        }
        return Math.max(0, light);
      }
      return shelf[ax][by] && shelf[bx][ay] ? light / 2 : light;
    }

    int print(int light) { return light / 4; }
    int small(int light) { return Math.max(0, print(light) - 1); }
    int large(int light) { return light == 0 ? 0 : print(light) + 1; }

    /** All read, by the lights told; answers pages and worth. */
    int[] minute(int[] lights) {
      int pages = 0, worth = 0;
      int[] ahead = new int[ones.size()];
      for (int i = 0; i < ahead.length; i++) ahead[i] = ones.get(i).left;
      for (int i = 0; i < ahead.length; i++) {
        One one = ones.get(i);
        int light = lights[i];
        int n = 0;
        if (one.kind == 0) n = print(light);
        if (one.kind == 1) n = small(light);
        if (one.kind == 2) n = large(light);
        if (one.kind == 3) n = small(light) / 2;
        if (one.kind == 4) n = light > 0 ? large(light) : one.lit ? 1 : 0;
        if (one.kind == 5) {
          n = print(light);
          for (int j = 0; j < i; j++) if (ahead[j] > 0) n = 0;
        }
        n = Math.min(n, one.left);
        one.left -= n;
        one.lit = light > 0 && n > 0;
        pages += n;
        worth += n * one.worth;
      }
      return new int[] {pages, worth};
    }

    int[] lightsOf(int lx, int ly) {
      int[] lights = new int[ones.size()];
      for (int i = 0; i < lights.length; i++) lights[i] = light(ones.get(i).x, ones.get(i).y, lx, ly);
      return lights;
    }

    /** STAND: the square and the worth. */
    int[] stand() {
      int[] best = {-1, -1};
      for (int q = 0; q < w * h; q++) {
        if (shelfAt(q)) continue;
        int worth = same().minute(lightsOf(q % w, q / w))[1];
        if (worth > best[1]) best = new int[] {q, worth};
      }
      return best;
    }

    List<int[]> ways(int m, int from) {
      List<int[]> ways = new ArrayList<>();
      ways.add(new int[0]);
      for (int k = 0; k < m; k++) {
        List<int[]> longer = new ArrayList<>();
        for (int[] way : ways) {
          int at = k == 0 ? from : way[k - 1];
          for (int q = 0; q < w * h; q++) {
            if (shelfAt(q) || Math.abs(q % w - at % w) + Math.abs(q / w - at / w) > 1) continue;
            int[] next = Arrays.copyOf(way, k + 1);
            next[k] = q;
            longer.add(next);
          }
        }
        ways = longer;
      }
      return ways;
    }

    /** Goes a way with light; answers the worth. */
    int go(int[] way) {
      int worth = 0;
      for (int q : way) worth += minute(lightsOf(q % w, q / w))[1];
      return worth;
    }
  }

  /** The model of the class. */
  private static final class Model {
    State s = new State();
    final State[] images = new State[2];
    final StringBuilder text = new StringBuilder();
    final int[] status = new int[3];

    int bad(int answer) { status[0]++; return answer; }
    int no(int answer) { status[1]++; return answer; }
    int full() { status[2]++; return -4; }

    int hall(int w, int h) {
      if (w < 2 || w > 5 || h < 2 || h > 5) return bad(-2);
      s = new State();
      s.w = w;
      s.h = h;
      return w * h;
    }

    int shelf(int q, boolean is) {
      if (!s.in(q)) return bad(-2);
      if (s.shelfAt(q) == is || s.seatAt(q) || s.lamp() == q) return no(-3);
      s.shelf[q % s.w][q / s.w] = is;
      s.past.clear();
      return 1;
    }

    int reader(int q, int kind, int pages, int worth) {
      if (!s.in(q) || kind < 0 || kind > 5 || pages < 1 || pages > 20 || worth < 0 || worth > 9) return bad(-2);
      if (s.shelfAt(q) || s.seatAt(q)) return no(-3);
      if (s.ones.size() == 5) return full();
      One one = new One();
      one.x = q % s.w; one.y = q / s.w; one.kind = kind; one.pages = pages; one.worth = worth; one.left = pages;
      s.ones.add(one);
      s.past.clear();
      return s.ones.size() - 1;
    }

    int lamp(int q) {
      if (!s.in(q)) return bad(-10);
      if (s.shelfAt(q)) return no(-20);
      int was = s.lamp();
      s.lampX = q % s.w;
      s.lampY = q / s.w;
      return was;
    }

    int oil(int n) {
      if (n < 0 || n > 12) return bad(-2);
      int was = s.oil;
      s.oil = n;
      return was;
    }

    boolean isOne(int i) { return i >= 0 && i < s.ones.size(); }

    int string(int i, int v) {
      if (!isOne(i) || v < 0 || v > 9) return bad(-2);
      int was = s.ones.get(i).strength;
      s.ones.get(i).strength = v;
      return was;
    }

    int light(int a, int b) {
      if (!s.in(a) || !s.in(b)) return bad(-2);
      return s.light(a % s.w, a / s.w, b % s.w, b / s.w);
    }

    int type(long v, int n) {
      if (n < 1 || n > 8) return bad(-2);
      if (text.length() + n > 200) return full();
      for (int i = n - 1; i >= 0; i--) text.append((char) (v >>> 8 * i & 255));
      return text.length();
    }

    int clear() {
      int was = text.length();
      text.setLength(0);
      return was;
    }

    int read() {
      List<String> tokens = new ArrayList<>();
      List<Integer> places = new ArrayList<>();
      java.util.regex.Matcher found = java.util.regex.Pattern.compile("[a-z]+|[0-9]+|[^ ]", java.util.regex.Pattern.DOTALL).matcher(text);
      while (found.find()) {
        tokens.add(found.group());
        places.add(found.start());
      }
      int fault = text.length();
      List<String> items = new ArrayList<>();
      StringBuilder item = new StringBuilder();
      List<String> wanted = new ArrayList<>();
      boolean whole = true;
      for (int i = 0; i < tokens.size() && whole; i++) {
        String token = tokens.get(i);
        if (wanted.isEmpty()) {
          int k = List.of("hall", "shelf", "reader", "lamp", "oil", "string").indexOf(token);
          if (k < 0 || (k == 0) != items.isEmpty()) whole = false;
          int numbers = k < 0 ? 0 : new int[] {2, 1, 4, 1, 1, 2}[k];
          for (int j = 0; j < numbers; j++) wanted.add("[0-9]{1,2}");
          wanted.add(";");
        } else if (!token.matches(wanted.remove(0))) {
          whole = false;
        }
        if (!whole) fault = places.get(i);
        item.append(token).append(' ');
        if (wanted.isEmpty()) {
          items.add(item.toString());
          item.setLength(0);
        }
      }
      if (!whole || items.isEmpty() || !wanted.isEmpty()) return -10 - fault;
      Model other = new Model();
      for (int i = 0; i < items.size(); i++) if (other.tell(items.get(i).split(" ")) < 0) return -1000 - i;
      s = other.s;
      return items.size();
    }

    int tell(String[] p) {
      int[] n = new int[5];
      for (int i = 1; i < p.length - 1; i++) n[i] = Integer.parseInt(p[i]);
      if (p[0].equals("hall")) return hall(n[1], n[2]);
      if (p[0].equals("shelf")) return shelf(n[1], true);
      if (p[0].equals("reader")) return reader(n[1], n[2], n[3], n[4]);
      if (p[0].equals("lamp")) return lamp(n[1]);
      if (p[0].equals("oil")) return oil(n[1]);
      return string(n[1], n[2]);
    }

    int burn(int q) {
      if (!s.in(q)) return bad(-2);
      int steps = Math.abs(q % s.w - s.lampX) + Math.abs(q / s.w - s.lampY);
      if (steps > 1 || s.shelfAt(q)) return no(-3);
      State before = s.same();
      s.past.add(before);
      if (s.past.size() > 12) s.past.remove(0);
      s.lampX = q % s.w;
      s.lampY = q / s.w;
      int pages = s.minute(s.oil > 0 ? s.lightsOf(s.lampX, s.lampY) : new int[s.ones.size()])[0];
      if (s.oil > 0) s.oil--;
      return pages;
    }

    int undo() {
      if (s.past.isEmpty()) return no(-3);
      State before = s.past.remove(s.past.size() - 1);
      s.lampX = before.lampX;
      s.lampY = before.lampY;
      s.oil = before.oil;
      for (int i = 0; i < s.ones.size(); i++) {
        s.ones.get(i).left = before.ones.get(i).left;
        s.ones.get(i).lit = before.ones.get(i).lit;
      }
      return 1;
    }

    int left(int i) { return isOne(i) ? s.ones.get(i).left : bad(-2); }

    int way(int m, int i) { return done(m, 0, i); }

    int done(int m, int who, int i) {
      if (m < 0 || m > 6 || m > s.oil || i < -1 || who < 0 || who >= 1 << s.ones.size()) return bad(-10);
      int most = -1;
      int[] best = null;
      for (int[] way : s.ways(m, s.lamp())) {
        State t = s.same();
        int worth = t.go(way);
        boolean all = true;
        for (int k = 0; k < t.ones.size(); k++) if ((who & 1 << k) != 0 && t.ones.get(k).left > 0) all = false;
        if (all && worth > most) {
          most = worth;
          best = way;
        }
      }
      if (best == null) return -1;
      if (i >= m) return -5;
      return i < 0 ? most : best[i];
    }

    int stand(int what) {
      if (what < 0 || what > 1) return bad(-2);
      return s.stand()[what];
    }

    int two(int what) {
      if (what < 0 || what > 1) return bad(-2);
      int most = -1, where = -1;
      for (int a = 0; a < s.w * s.h; a++) {
        for (int b = a + 1; b < s.w * s.h; b++) {
          if (s.shelfAt(a) || s.shelfAt(b)) continue;
          int[] lights = s.lightsOf(a % s.w, a / s.w);
          int[] more = s.lightsOf(b % s.w, b / s.w);
          for (int i = 0; i < lights.length; i++) lights[i] = Math.min(12, lights[i] + more[i]);
          int worth = s.same().minute(lights)[1];
          if (worth > most) {
            most = worth;
            where = 100 * a + b;
          }
        }
      }
      if (where < 0) return no(-20);
      return what == 0 ? where : most;
    }

    int seats() {
      int most = s.stand()[1], answer = -1;
      for (int a = 0; a < s.ones.size(); a++) {
        for (int b = a + 1; b < s.ones.size(); b++) {
          State t = s.same();
          One first = t.ones.get(a), second = t.ones.get(b);
          int x = first.x, y = first.y;
          first.x = second.x; first.y = second.y; second.x = x; second.y = y;
          int worth = t.stand()[1];
          if (worth > most) { most = worth; answer = 100 * a + b; }
        }
      }
      for (int a = 0; a < s.ones.size(); a++) {
        for (int q = 0; q < s.w * s.h; q++) {
          if (s.shelfAt(q) || s.seatAt(q)) continue;
          State t = s.same();
          t.ones.get(a).x = q % s.w;
          t.ones.get(a).y = q / s.w;
          int worth = t.stand()[1];
          if (worth > most) { most = worth; answer = 1000 + 100 * a + q; }
        }
      }
      return answer;
    }

    int moved() {
      int most = s.stand()[1], answer = -1;
      for (int a = 0; a < s.w * s.h; a++) {
        if (!s.shelfAt(a)) continue;
        for (int b = 0; b < s.w * s.h; b++) {
          if (s.shelfAt(b) || s.seatAt(b) || s.lamp() == b) continue;
          State t = s.same();
          t.shelf[a % s.w][a / s.w] = false;
          t.shelf[b % s.w][b / s.w] = true;
          int worth = t.stand()[1];
          if (worth > most) { most = worth; answer = 100 * a + b; }
        }
      }
      return answer;
    }

    int rest(int what) {
      if (what < 0 || what > 1) return bad(-2);
      int x = s.lampX, y = s.lampY;
      for (int round = 0; round <= 20; round++) {
        int px = 0, py = 0;
        for (One one : s.ones) {
          if (one.left == 0) continue;
          if (one.x > x) px += one.strength;
          if (one.x < x) px -= one.strength;
          if (one.y > y) py += one.strength;
          if (one.y < y) py -= one.strength;
        }
        int nx = x, ny = y;
        if (Math.abs(px) >= Math.abs(py)) nx += px > 0 ? 1 : px < 0 ? -1 : 0;
        else ny += py > 0 ? 1 : -1;
        if ((px == 0 && py == 0) || s.shelf[nx][ny]) return what == 0 ? round : y * s.w + x;
        x = nx;
        y = ny;
      }
      return -1;
    }

    int told(int i, int pages) {
      if (!isOne(i) || pages < 0 || pages > 20) return bad(-2);
      int was = s.ones.get(i).told;
      s.ones.get(i).told = pages;
      return was;
    }

    int been(int from, int m, int what) {
      if (!s.in(from) || s.shelfAt(from) || m < 0 || m > 5 || what < 0 || what > 1) return bad(-2);
      State t = s.same();
      for (One one : t.ones) {
        one.left = one.pages;
        one.lit = false;
      }
      int many = 0, ends = 0;
      for (int[] way : t.ways(m, from)) {
        State u = t.same();
        u.go(way);
        boolean all = true;
        for (One one : u.ones) all &= one.pages - one.left == one.told;
        if (!all) continue;
        many++;
        ends |= 1 << (m == 0 ? from : way[m - 1]);
      }
      return what == 0 ? many : ends;
    }

    int image(int i) {
      if (i < 0 || i > 1) return bad(-2);
      images[i] = s.same();
      return 1;
    }

    int from(int i) {
      if (i < 0 || i > 1) return bad(-2);
      if (images[i] == null) return no(-3);
      s = images[i].same();
      return 1;
    }

    int status(int what) {
      if (what < 0 || what > 2) return bad(-1);
      return status[what];
    }

    int shelves() {
      int n = 0;
      for (int q = 0; q < s.w * s.h; q++) if (s.shelfAt(q)) n++;
      return n;
    }

    int[] counts() {
      return new int[] {s.ones.size(), shelves(), s.oil, s.past.size(), text.length(), s.w * s.h, s.lamp()};
    }

    int count(int what) { return what < 0 || what > 6 ? bad(-2) : counts()[what]; }

    long digest() {
      long h = 769;
      for (int v : counts()) h = 31 * h + v;
      h = 31 * h + s.w;
      for (One o : s.ones) {
        int[] row = {o.y * s.w + o.x, o.kind, o.pages, o.worth, o.strength, o.left, o.lit ? 1 : 0, o.told};
        for (int v : row) h = 31 * h + v;
      }
      for (int q = 0; q < s.w * s.h; q++) h = 31 * h + (s.shelfAt(q) ? 1 : 0);
      return h;
    }
  }

  private final Random random;
  private final OneLamp lamp = new OneLamp();
  private final Model model = new Model();
  private final StringBuilder told = new StringBuilder();
  private final int run;

  private ModelTest(int run) {
    this.run = run;
    random = new Random(run);
  }

  private void due(String call, long got, long want) {
    told.append(call).append(" = ").append(got).append('\n');
    if (got == want) return;
    wrong++;
    if (wrong <= MOST_SHOWN) System.out.println("run " + run + ": " + call + " answered " + got + ", due is " + want);
    if (wrong == 1) System.out.println("the run until then:\n" + told);
  }

  /** A number mostly within low .. high, now and then just outside or far off. */
  private int number(int low, int high) {
    int kind = random.nextInt(40);
    if (kind == 0) return low - 1;
    if (kind == 1) return high + 1;
    if (kind == 2) return new int[] {Integer.MIN_VALUE, Integer.MAX_VALUE, -1, 256, 1 << 30}[random.nextInt(5)];
    return low + random.nextInt(high - low + 1);
  }

  private int square() { return number(0, model.s.w * model.s.h - 1); }

  private int one() { return number(0, Math.max(0, model.s.ones.size() - 1)); }

  private int beside() {
    State s = model.s;
    int[] steps = {0, 1, -1, s.w, -s.w};
    return random.nextInt(8) == 0 ? square() : s.lamp() + steps[random.nextInt(5)];
  }

  private void type(String text) {
    for (int i = 0; i < text.length(); i += 8) {
      String part = text.substring(i, Math.min(text.length(), i + 8));
      long v = random.nextLong();
      for (char c : part.toCharArray()) v = v << 8 | c;
      due("type(" + v + ", " + part.length() + ")", lamp.type(v, part.length()), model.type(v, part.length()));
    }
  }

  private String figure(int low, int high) {
    int v = low + random.nextInt(high - low + 1);
    if (random.nextInt(60) == 0) v = random.nextInt(130);
    return (random.nextInt(8) == 0 && v < 10 ? "0" : "") + v;
  }

  private String blanks(boolean some) {
    int n = random.nextInt(6) == 0 ? random.nextInt(3) : some ? 1 : 0;
    return "   ".substring(0, n);
  }

  private String item(int k) {
    String name = new String[] {"hall", "shelf", "reader", "lamp", "oil", "string"}[k];
    int[][] most = {{5, 5}, {15}, {15, 5, 20, 9}, {15}, {12}, {2, 9}};
    StringBuilder text = new StringBuilder(blanks(false)).append(name);
    for (int high : most[k]) text.append(blanks(true)).append(figure(k == 0 ? 3 : k == 2 && high == 20 ? 1 : 0, high));
    return text.append(blanks(false)).append(';').toString();
  }

  private String card() {
    StringBuilder text = new StringBuilder(item(0));
    int items = random.nextInt(7);
    for (int i = 0; i < items; i++) text.append(item(random.nextInt(25) == 0 ? 0 : 1 + random.nextInt(5)));
    text.append(blanks(false));
    int spoils = random.nextInt(3) == 0 ? 1 : 0;
    for (int i = 0; i < spoils && text.length() > 0; i++) {
      int at = random.nextInt(text.length());
      int how = random.nextInt(4);
      if (how == 0) text.setLength(at);
      if (how == 1) text.deleteCharAt(at);
      if (how == 2) text.insert(at, "az09; X\u00e9\u0000".charAt(random.nextInt(9)));
      if (how == 3) text.setCharAt(at, "az09; {/:`".charAt(random.nextInt(10)));
    }
    return text.toString();
  }

  private void cards() {
    due("clear()", lamp.clear(), model.clear());
    type(card());
    due("read()", lamp.read(), model.read());
  }

  private void firstCalls() {
    int w = 2 + random.nextInt(4), h = 2 + random.nextInt(4);
    due("hall(" + w + ", " + h + ")", lamp.hall(w, h), model.hall(w, h));
    int shelves = random.nextInt(w * h / 2);
    for (int i = 0; i < shelves; i++) shelfCall();
    int readers = random.nextInt(7);
    for (int i = 0; i < readers; i++) readerCall();
  }

  private void shelfCall() {
    int q = square();
    boolean is = random.nextInt(4) > 0;
    due("shelf(" + q + ", " + is + ")", lamp.shelf(q, is), model.shelf(q, is));
  }

  private void readerCall() {
    int q = square(), kind = number(0, 5), pages = number(1, random.nextBoolean() ? 6 : 20), worth = number(0, 9);
    due("reader(" + q + ", " + kind + ", " + pages + ", " + worth + ")", lamp.reader(q, kind, pages, worth), model.reader(q, kind, pages, worth));
  }

  private void burns() {
    int n = 1 + random.nextInt(random.nextInt(6) == 0 ? 15 : 3);
    for (int i = 0; i < n; i++) one("burn", beside(), lamp::burn, model::burn);
  }

  private interface Call { long of(int a); }
  private interface Call2 { long of(int a, int b); }
  private interface Call3 { long of(int a, int b, int c); }

  private void one(String name, int a, Call got, Call want) {
    due(name + "(" + a + ")", got.of(a), want.of(a));
  }

  private void both(String name, int a, int b, Call2 got, Call2 want) {
    due(name + "(" + a + ", " + b + ")", got.of(a, b), want.of(a, b));
  }

  private void three(String name, int a, int b, int c, Call3 got, Call3 want) {
    due(name + "(" + a + ", " + b + ", " + c + ")", got.of(a, b, c), want.of(a, b, c));
  }

  private int minutes() { return random.nextInt(12) == 0 ? number(0, 6) : number(0, 4); }

  private void beenCalls() {
    int from = square(), m = random.nextInt(12) == 0 ? number(0, 5) : number(0, 3);
    if (random.nextBoolean() && model.s.in(from) && !model.s.shelfAt(from) && m >= 0 && m <= 5) tellWhatAWayGives(from, m);
    three("been", from, m, 0, lamp::been, model::been);
    three("been", from, m, number(1, 1), lamp::been, model::been);
  }

  /** So that been has something to find. */
  private void tellWhatAWayGives(int from, int m) {
    State t = model.s.same();
    for (One one : t.ones) {
      one.left = one.pages;
      one.lit = false;
    }
    List<int[]> ways = t.ways(Math.min(m, 3), from);
    t.go(ways.get(random.nextInt(ways.size())));
    for (int i = 0; i < t.ones.size(); i++) {
      int pages = t.ones.get(i).pages - t.ones.get(i).left;
      both("told", i, pages, lamp::told, model::told);
    }
  }

  private void callOne() {
    switch (random.nextInt(34)) {
      case 0: if (random.nextInt(4) == 0) both("hall", number(2, 5), number(2, 5), lamp::hall, model::hall); break;
      case 1: shelfCall(); break;
      case 2: readerCall(); break;
      case 3: one("lamp", square(), lamp::lamp, model::lamp); break;
      case 4: one("oil", number(0, 12), lamp::oil, model::oil); break;
      case 5: both("string", one(), number(0, 9), lamp::string, model::string); break;
      case 6: both("light", square(), square(), lamp::light, model::light); break;
      case 7: {
        long v = random.nextLong();
        int n = number(1, 8);
        due("type(" + v + ", " + n + ")", lamp.type(v, n), model.type(v, n));
        break;
      }
      case 8: if (random.nextInt(3) == 0) cards(); break;
      case 9: due("read()", lamp.read(), model.read()); break;
      case 10: case 11: case 12: case 13: burns(); break;
      case 14: case 15: due("undo()", lamp.undo(), model.undo()); break;
      case 16: one("left", one(), lamp::left, model::left); break;
      case 17: both("way", minutes(), number(-1, 5), lamp::way, model::way); break;
      case 18: both("way", number(0, 3), number(-1, 2), lamp::way, model::way); break;
      case 19: case 20: three("done", minutes(), random.nextInt(40) == 0 ? number(0, 31) : random.nextInt(1 << model.s.ones.size()) & random.nextInt(32), number(-1, 3), lamp::done, model::done); break;
      case 21: one("stand", number(0, 1), lamp::stand, model::stand); break;
      case 22: one("two", number(0, 1), lamp::two, model::two); break;
      case 23: due("seats()", lamp.seats(), model.seats()); break;
      case 24: due("moved()", lamp.moved(), model.moved()); break;
      case 25: case 26: one("rest", number(0, 1), lamp::rest, model::rest); break;
      case 27: both("told", one(), number(0, 20), lamp::told, model::told); break;
      case 28: beenCalls(); break;
      case 29: one("image", number(0, 1), lamp::image, model::image); break;
      case 30: one("from", number(0, 1), lamp::from, model::from); break;
      case 31: one("status", number(0, 2), lamp::status, model::status); break;
      case 32: one("count", number(0, 6), lamp::count, model::count); break;
      default: due("digest()", lamp.digest(), model.digest()); break;
    }
  }

  private void runAll() {
    if (random.nextInt(5) > 0) firstCalls(); else cards();
    for (int i = 0; i < CALLS; i++) {
      callOne();
      due("digest()", lamp.digest(), model.digest());
    }
    for (int what = 0; what < 3; what++) one("status", what, lamp::status, model::status);
  }

  public static void main(String[] args) {
    int runs = args.length > 0 ? Integer.parseInt(args[0]) : RUNS;
    for (int run = 0; run < runs && wrong < MOST_SHOWN; run++) new ModelTest(run).runAll();
    System.out.println(wrong == 0 ? runs + " random runs are as due" : wrong + " answers are not as due");
    if (wrong != 0) System.exit(1);
  }
}

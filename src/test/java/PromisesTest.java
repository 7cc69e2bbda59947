/** What the document promises, number by number, on halls small enough to be reckoned by hand. */
public final class PromisesTest {
  private static final int MAX = Integer.MAX_VALUE;
  private static final int MIN = Integer.MIN_VALUE;
  private static final int PRINT = 0, SMALL = 1, LARGE = 2, GREEK = 3, HEART = 4, DUTIFUL = 5;
  private static int wrong = 0;
  private static int promise = 0;

  private static void due(String what, long got, long want) {
    if (got == want) return;
    wrong++;
    System.out.println("promise " + promise + ": " + what + " answered " + got + ", due is " + want);
  }

  private static OneLamp hallOf(int w, int h) {
    OneLamp x = new OneLamp();
    due("hall", x.hall(w, h), w * h);
    return x;
  }

  private static void statusIs(OneLamp x, int bad, int no, int full) {
    due("status(0)", x.status(0), bad);
    due("status(1)", x.status(1), no);
    due("status(2)", x.status(2), full);
  }

  private static void type(OneLamp x, String text) {
    for (int i = 0; i < text.length(); i++) x.type(text.charAt(i), 1);
  }

  /** What read answers to a text on a new object. */
  private static void reads(String text, int want) {
    OneLamp x = new OneLamp();
    type(x, text);
    due("read of '" + text + "'", x.read(), want);
    statusIs(x, 0, 0, 0);
  }

  private static long digestOf(int... row) {
    long h = 769;
    for (int v : row) h = 31 * h + v;
    return h;
  }

  private static void newObject() {
    OneLamp x = new OneLamp();
    int[] counts = {0, 0, 8, 0, 0, 16, 0};
    for (int i = 0; i < counts.length; i++) due("count(" + i + ")", x.count(i), counts[i]);
    statusIs(x, 0, 0, 0);
    due("digest", x.digest(), digestOf(0, 0, 8, 0, 0, 16, 0, 4, 0, 0, 0, 0, 0, 0, 0, 0, 0, 0, 0, 0, 0, 0, 0, 0));
    due("undo", x.undo(), OneLamp.NO);
    due("from(0)", x.from(0), OneLamp.NO);
    due("from(1)", x.from(1), OneLamp.NO);
    due("left(0)", x.left(0), OneLamp.BAD);
    OneLamp y = new OneLamp();
    x.hall(2, 2);
    due("another object", y.count(5), 16);
  }

  private static void hall() {
    OneLamp x = new OneLamp();
    for (int w = 2; w <= 5; w++) for (int h = 2; h <= 5; h++) due("hall", x.hall(w, h), w * h);
    int[][] bad = {{1, 2}, {2, 1}, {6, 2}, {2, 6}, {MAX, 2}, {2, MIN}, {-1, -1}, {0, 0}};
    for (int[] b : bad) due("hall(" + b[0] + ", " + b[1] + ")", x.hall(b[0], b[1]), OneLamp.BAD);
    due("count(5)", x.count(5), 25);
    statusIs(x, 8, 0, 0);

    x.reader(3, PRINT, 5, 2);
    x.shelf(4, true);
    x.lamp(1);
    x.oil(3);
    x.burn(1);
    x.image(0);
    type(x, "abc");
    due("hall(5, 5)", x.hall(5, 5), 25);
    int[] counts = {0, 0, 8, 0, 3, 25, 0};
    for (int i = 0; i < counts.length; i++) due("count(" + i + ") behind hall", x.count(i), counts[i]);
    due("undo behind hall", x.undo(), OneLamp.NO);
    due("image behind hall", x.from(0), 1);
    due("readers of the image", x.count(0), 1);
    statusIs(x, 8, 1, 0);

    x.string(0, 7);
    x.told(0, 4);
    x.hall(3, 2);
    x.reader(2, SMALL, 6, 1);
    due("strength anew", x.string(0, 2), 1);
    due("told anew", x.told(0, 2), 0);
    due("count(5)", x.count(5), 6);
    x.hall(2, 2);
    x.reader(0, HEART, 9, 1);
    x.burn(0);
    x.hall(2, 2);
    x.reader(0, HEART, 9, 1);
    x.oil(0);
    due("nobody has read ahead of it", x.burn(0), 0);
  }

  private static void shelf() {
    OneLamp x = hallOf(4, 3);
    x.reader(5, PRINT, 5, 1);
    x.lamp(2);
    due("shelf(11, true)", x.shelf(11, true), 1);
    due("shelf(11, true)", x.shelf(11, true), OneLamp.NO);
    due("shelf(10, false)", x.shelf(10, false), OneLamp.NO);
    due("where somebody is", x.shelf(5, true), OneLamp.NO);
    due("none where somebody is", x.shelf(5, false), OneLamp.NO);
    due("where the lamp is", x.shelf(2, true), OneLamp.NO);
    for (int q : new int[] {-1, 12, MAX, MIN}) due("shelf(" + q + ")", x.shelf(q, true), OneLamp.BAD);
    due("count(1)", x.count(1), 1);
    due("shelf(11, false)", x.shelf(11, false), 1);
    due("count(1)", x.count(1), 0);
    due("shelf(0, true)", x.shelf(0, true), 1);
    statusIs(x, 4, 5, 0);
    x.burn(2);
    x.shelf(2, true);
    due("a shelf refused leaves minutes", x.count(3), 1);
    x.shelf(0, false);
    due("a shelf taken away leaves none", x.count(3), 0);
    x.burn(2);
    x.shelf(0, true);
    due("a shelf put leaves none", x.undo(), OneLamp.NO);
  }

  private static void reader() {
    OneLamp x = hallOf(5, 5);
    int[][] bad = {{-1, 0, 1, 0}, {25, 0, 1, 0}, {0, -1, 1, 0}, {0, 6, 1, 0}, {0, 0, 0, 0}, {0, 0, 21, 0}, {0, 0, 1, -1}, {0, 0, 1, 10}, {MAX, MAX, MAX, MAX}};
    for (int[] b : bad) due("reader", x.reader(b[0], b[1], b[2], b[3]), OneLamp.BAD);
    statusIs(x, 9, 0, 0);
    x.shelf(24, true);
    x.burn(0);
    due("on the lamp", x.reader(0, PRINT, 1, 0), 0);
    due("minutes", x.count(3), 0);
    due("on a shelf", x.reader(24, PRINT, 1, 0), OneLamp.NO);
    due("on somebody", x.reader(0, PRINT, 1, 0), OneLamp.NO);
    x.burn(0);
    due("on somebody", x.reader(0, PRINT, 1, 0), OneLamp.NO);
    due("one refused leaves minutes", x.count(3), 1);
    due("second", x.reader(1, DUTIFUL, 20, 9), 1);
    due("third", x.reader(2, HEART, 7, 3), 2);
    due("fourth", x.reader(3, GREEK, 7, 3), 3);
    due("fifth", x.reader(23, LARGE, 7, 3), 4);
    due("left", x.left(1), 20);
    due("left", x.left(4), 7);
    due("NO ahead of FULL", x.reader(1, PRINT, 1, 1), OneLamp.NO);
    due("BAD ahead of FULL", x.reader(5, 6, 1, 1), OneLamp.BAD);
    due("sixth", x.reader(5, PRINT, 1, 1), OneLamp.FULL);
    due("count(0)", x.count(0), 5);
    statusIs(x, 10, 4, 1);
  }

  private static void lamp() {
    OneLamp x = hallOf(3, 3);
    x.reader(4, PRINT, 3, 3);
    x.shelf(8, true);
    due("lamp(7)", x.lamp(7), 0);
    due("lamp where somebody sits", x.lamp(4), 7);
    due("lamp(8)", x.lamp(8), -20);
    for (int q : new int[] {-1, 9, MAX, MIN}) due("lamp(" + q + ")", x.lamp(q), -10);
    due("count(6)", x.count(6), 4);
    statusIs(x, 4, 1, 0);
    x.burn(4);
    x.lamp(0);
    due("minutes stay", x.count(3), 1);
    x.undo();
    due("lamp as ahead of the minute", x.count(6), 4);
  }

  private static void oil() {
    OneLamp x = new OneLamp();
    due("oil(12)", x.oil(12), 8);
    due("oil(0)", x.oil(0), 12);
    for (int n : new int[] {-1, 13, MAX, MIN}) due("oil(" + n + ")", x.oil(n), OneLamp.BAD);
    due("oil(5)", x.oil(5), 0);
    due("count(2)", x.count(2), 5);
    statusIs(x, 4, 0, 0);
  }

  private static void string() {
    OneLamp x = new OneLamp();
    due("nobody", x.string(0, 1), OneLamp.BAD);
    x.reader(3, PRINT, 3, 3);
    x.reader(4, PRINT, 3, 3);
    due("at first", x.string(1, 9), 1);
    due("string(1, 0)", x.string(1, 0), 9);
    due("string(1, 4)", x.string(1, 4), 0);
    due("the other one", x.string(0, 2), 1);
    int[][] bad = {{-1, 1}, {2, 1}, {0, -1}, {0, 10}, {MAX, 1}, {0, MIN}};
    for (int[] b : bad) due("string", x.string(b[0], b[1]), OneLamp.BAD);
    statusIs(x, 7, 0, 0);
  }

  private static void light() {
    OneLamp x = hallOf(5, 4);
    int[][] open = {{0, 0, 12}, {0, 1, 10}, {1, 0, 10}, {0, 2, 8}, {0, 6, 8}, {0, 4, 4}, {0, 15, 6}, {0, 9, 2}, {0, 14, 0}, {0, 19, 0}};
    for (int[] o : open) due("light(" + o[0] + ", " + o[1] + ")", x.light(o[0], o[1]), o[2]);
    x.shelf(1, true);
    x.shelf(2, true);
    x.shelf(5, true);
    due("one between", x.light(3, 1), 4);
    due("two between", x.light(0, 3), 0);
    due("two between, less than none", x.light(4, 0), 0);
    due("the shelves themselves", x.light(1, 2), 10);
    due("of a column", x.light(0, 10), 4);
    due("of a column, the other way", x.light(10, 0), 4);
    due("none between", x.light(1, 11), 8);
    due("both corners", x.light(0, 6), 4);
    due("both corners, the other way", x.light(6, 0), 4);
    due("one corner", x.light(5, 1), 8);
    due("one corner", x.light(1, 7), 8);
    due("no shelf at the near corners", x.light(0, 11), 6);
    x.shelf(10, true);
    due("both corners of three", x.light(0, 11), 3);
    due("two in a column", x.light(15, 0), 0);
    int[][] bad = {{-1, 0}, {0, -1}, {20, 0}, {0, 20}, {MAX, 0}, {0, MIN}};
    for (int[] b : bad) due("light", x.light(b[0], b[1]), OneLamp.BAD);
    statusIs(x, 6, 0, 0);
  }

  private static void typing() {
    OneLamp x = new OneLamp();
    for (int n : new int[] {0, 9, -1, MAX, MIN}) due("type n = " + n, x.type(1, n), OneLamp.BAD);
    due("the lowest bytes, the highest first", x.type(0x1168616c6c20L, 5), 5);
    due("three more", x.type(0x322032L, 3), 8);
    due("one", x.type(';', 1), 9);
    due("read", x.read(), 1);
    due("SQUARES", x.count(5), 4);
    due("read again, the text has not changed", x.count(4), 9);
    due("bytes above the lowest do not count", x.type(0x61616161616120L, 1), 10);
    due("read", x.read(), 1);
    statusIs(x, 5, 0, 0);
  }

  private static void typeFull() {
    OneLamp x = new OneLamp();
    for (int i = 1; i <= 24; i++) due("type", x.type(-1, 8), 8 * i);
    due("199", x.type(-1, 7), 199);
    due("201", x.type(-1, 2), OneLamp.FULL);
    due("BAD ahead of FULL", x.type(-1, 9), OneLamp.BAD);
    due("200", x.type(-1, 1), 200);
    due("201", x.type(-1, 1), OneLamp.FULL);
    due("208", x.type(-1, 8), OneLamp.FULL);
    due("count(4)", x.count(4), 200);
    statusIs(x, 1, 0, 3);
  }

  private static void clear() {
    OneLamp x = new OneLamp();
    due("clear", x.clear(), 0);
    type(x, "hall 2 2");
    due("clear", x.clear(), 8);
    due("clear", x.clear(), 0);
    due("count(4)", x.count(4), 0);
    type(x, ";");
    due("read", x.read(), -10);
  }

  private static void readFaults() {
    reads("", -10);
    reads("   ", -13);
    reads("hall 2 2;", 1);
    reads("  hall  5   5  ;  ", 1);
    reads("hall2 2;", 1);
    reads("hall 02 05;", 1);
    reads("hall 2 2", -18);
    reads("hall 2 2  ", -20);
    reads("hall 2", -16);
    reads("hall", -14);
    reads("hal", -10);
    reads(" halls 2 2;", -11);
    reads("Hall 2 2;", -10);
    reads("ball 2 2;", -10);
    reads("hallz 2 2;", -10);
    reads("hall 2 2; stringstring 0 1;", -20);
    reads("hall2 2;" + "oil1;".repeat(38), 39);
    reads("hall2 2;" + "oil1;".repeat(38) + "oi", -208);
    reads(";", -10);
    reads("shelf 1;", -10);
    reads("2 hall 2 2;", -10);
    reads("hall 2;", -16);
    reads("hall 2 2 2;", -19);
    reads("hall 2 b;", -17);
    reads("hall 2 222;", -17);
    reads("hall 2 2;;", -19);
    reads("hall 2 2; hall 2 2;", -20);
    reads("hall 2 2; lamps 1;", -20);
    reads("hall 2 2;oil 1", -24);
    reads("hall 2 2;oil 1;oil", -28);
    reads("hall 2 2;oil -1;", -23);
    reads("hall 2 2;oil 1.", -24);
    reads("hall 2 2;oil 123;", -23);
    reads("hall 2 2;oil 1 2;", -25);
    reads("hall 2 2;reader 1 2 3;", -31);
    reads("hall 2 2;string 1;", -27);
    reads("hall 2 2;shelf 1 1;", -27);
    reads("hall 2 2;\t", -19);
    reads("hall 2 2;\u00e1", -19);
    reads("hall 9 9; lamp 99; wrong", -29);
  }

  private static void readItems() {
    reads("hall 2 6;", -1000);
    reads("hall 2 2;lamp 4;", -1001);
    reads("hall 2 2;oil 12;oil 13;", -1002);
    reads("hall 2 2;shelf 0;", -1001);
    reads("hall 2 2;shelf 1;shelf 1;", -1002);
    reads("hall 2 2;shelf 1;lamp 1;", -1002);
    reads("hall 2 2;reader 1 0 1 0;reader 1 0 1 0;", -1002);
    reads("hall 2 2;reader 1 6 1 0;", -1001);
    reads("hall 2 2;string 0 1;", -1001);
    reads("hall 2 2;reader 0 0 1 0;string 0 10;", -1002);
    reads("hall 3 2;reader 0 0 1 0;reader 1 0 1 0;reader 2 0 1 0;reader 3 0 1 0;reader 4 0 1 0;reader 5 0 1 0;", -1006);

    OneLamp x = hallOf(5, 5);
    x.reader(7, PRINT, 9, 9);
    x.told(0, 3);
    x.burn(0);
    long before = x.digest();
    type(x, "hall 3 2;shelf 5;reader 2 4 7 6;string 0 8;lamp 4;oil 11;lamp 6;");
    due("a refused item", x.read(), -1006);
    due("text", x.clear(), 64);
    due("nothing changes", x.digest(), before);
    type(x, "hall 3 2;shelf 5;reader 2 4 7 6;string 0 8;lamp 4;oil 11;");
    due("read", x.read(), 6);
    due("told anew", x.digest(), digestOf(1, 1, 11, 0, 57, 6, 4, 3, 2, 4, 7, 6, 8, 7, 0, 0, 0, 0, 0, 0, 0, 1));
    due("read again", x.read(), 6);
    due("undo", x.undo(), OneLamp.NO);
    statusIs(x, 0, 1, 0);
  }

  private static void burnByKind() {
    int[] lampAt = {0, 1, 2, 3, 4, 9, 14};
    int[][] pages = {{3, 2, 2, 1, 1, 0, 0}, {2, 1, 1, 0, 0, 0, 0}, {4, 3, 3, 2, 2, 1, 0}, {1, 0, 0, 0, 0, 0, 0}, {4, 3, 3, 2, 2, 1, 0}, {3, 2, 2, 1, 1, 0, 0}};
    for (int kind = 0; kind <= 5; kind++) {
      for (int i = 0; i < lampAt.length; i++) {
        OneLamp x = hallOf(5, 5);
        x.reader(0, kind, 20, 1);
        x.lamp(lampAt[i]);
        due("kind " + kind + " by the lamp at " + lampAt[i], x.burn(lampAt[i]), pages[kind][i]);
        due("left", x.left(0), 20 - pages[kind][i]);
      }
    }
  }

  private static void burnByHeart() {
    OneLamp x = hallOf(5, 5);
    x.reader(0, HEART, 20, 1);
    x.oil(2);
    due("light", x.burn(0), 4);
    x.lamp(24);
    due("without light, oil is burnt", x.burn(24), 1);
    due("and no more", x.burn(24), 0);
    x.lamp(0);
    due("without oil", x.burn(0), 0);
    x.oil(1);
    due("light", x.burn(0), 4);
    due("the oil is out", x.burn(0), 1);
    due("and no more", x.burn(0), 0);
    due("left", x.left(0), 10);

    x = hallOf(2, 2);
    x.reader(0, HEART, 4, 1);
    x.reader(1, LARGE, 20, 1);
    x.oil(1);
    due("all of the book", x.burn(0), 4 + 3);
    due("no more than are left", x.burn(0), 0);
    x = hallOf(2, 2);
    x.reader(0, HEART, 5, 1);
    x.oil(1);
    x.burn(0);
    due("the last page", x.burn(0), 1);
    due("left", x.left(0), 0);
  }

  private static void burnByDuty() {
    OneLamp x = hallOf(2, 2);
    x.reader(0, DUTIFUL, 20, 1);
    x.reader(1, PRINT, 4, 1);
    x.reader(2, DUTIFUL, 6, 1);
    x.oil(12);
    due("the first has none ahead", x.burn(0), 3 + 2);
    due("ahead of the minute", x.burn(0), 3 + 2);
    due("left", x.left(1), 0);
    due("the first has pages yet", x.burn(0), 3);
    for (int i = 0; i < 3; i++) x.burn(0);
    due("left", x.left(0), 2);
    due("its last ones", x.burn(0), 2);
    due("left", x.left(2), 6);
    due("now the third", x.burn(0), 2);
    due("left", x.left(2), 4);
  }

  private static void burn() {
    OneLamp x = hallOf(3, 3);
    x.shelf(1, true);
    x.reader(8, PRINT, 20, 9);
    x.oil(2);
    due("a shelf", x.burn(1), OneLamp.NO);
    due("not beside", x.burn(4), OneLamp.NO);
    due("far", x.burn(8), OneLamp.NO);
    for (int q : new int[] {-1, 9, MAX, MIN}) due("burn(" + q + ")", x.burn(q), OneLamp.BAD);
    due("no minute went by", x.count(3), 0);
    due("oil", x.count(2), 2);
    due("stays: 4 steps", x.burn(0), 1);
    due("goes: 3 steps", x.burn(3), 1);
    due("oil", x.count(2), 0);
    due("without oil", x.burn(4), 0);
    due("oil", x.count(2), 0);
    due("the lamp", x.count(6), 4);
    due("minutes", x.count(3), 3);
    x.lamp(3);
    due("not round the edge", x.burn(2), OneLamp.NO);
    statusIs(x, 4, 4, 0);
  }

  private static void undo() {
    OneLamp x = hallOf(2, 2);
    x.reader(3, HEART, 20, 1);
    x.oil(1);
    long first = x.digest();
    x.burn(1);
    long second = x.digest();
    due("dark", x.burn(0), 1);
    due("undo", x.undo(), 1);
    due("as it was", x.digest(), second);
    due("dark, by heart again", x.burn(1), 1);
    x.string(0, 5);
    x.told(0, 5);
    x.undo();
    x.undo();
    due("lamp", x.count(6), 0);
    due("oil", x.count(2), 1);
    due("left", x.left(0), 20);
    due("a string is not undone", x.string(0, 1), 5);
    due("nor what was told", x.told(0, 0), 5);
    due("as at first", x.digest(), first);
    due("none", x.undo(), OneLamp.NO);
    for (int i = 0; i < 14; i++) x.burn(i % 2);
    due("12 at most", x.count(3), 12);
    for (int i = 0; i < 12; i++) due("undo", x.undo(), 1);
    due("none", x.undo(), OneLamp.NO);
    due("the lamp of two minutes", x.count(6), 1);
    statusIs(x, 0, 2, 0);
  }

  private static void left() {
    OneLamp x = new OneLamp();
    x.reader(0, PRINT, 4, 0);
    x.reader(15, PRINT, 20, 0);
    for (int i : new int[] {-1, 2, MAX, MIN}) due("left(" + i + ")", x.left(i), OneLamp.BAD);
    x.burn(0);
    due("left(0)", x.left(0), 1);
    due("left(1)", x.left(1), 20);
    x.burn(0);
    due("left(0)", x.left(0), 0);
    statusIs(x, 4, 0, 0);
  }

  private static void way() {
    OneLamp x = hallOf(2, 2);
    x.reader(3, PRINT, 20, 1);
    due("of none", x.way(0, -1), 0);
    due("of none", x.way(0, 0), -5);
    due("of one", x.way(1, -1), 2);
    due("the least square", x.way(1, 0), 0);
    due("of two", x.way(2, -1), 5);
    due("of two", x.way(2, 0), 1);
    due("of two", x.way(2, 1), 3);
    due("not so many", x.way(2, 2), -5);
    due("not so many", x.way(2, MAX), -5);
    due("of six", x.way(6, -1), 17);
    due("of six", x.way(6, 5), 3);
    due("of seven", x.way(7, -1), -10);
    due("less than none", x.way(-1, -1), -10);
    due("i", x.way(1, -2), -10);
    due("i", x.way(1, MIN), -10);
    x.oil(2);
    due("no more than oil", x.way(3, -1), -10);
    due("oil for it", x.way(2, -1), 5);
    x.lamp(3);
    x.shelf(1, true);
    x.shelf(2, true);
    due("shut in", x.way(2, 1), 3);
    statusIs(x, 5, 0, 0);
    x = hallOf(2, 2);
    x.reader(3, PRINT, 4, 3);
    due("no more than are left", x.way(2, -1), 12);
    due("of like ones the first", x.way(2, 0), 0);
    due("of like ones the first", x.way(2, 1), 0);
    long before = x.digest();
    x.way(4, 0);
    due("nothing changes", x.digest(), before);
  }

  private static void done() {
    OneLamp x = hallOf(2, 2);
    x.reader(3, PRINT, 5, 0);
    x.reader(0, LARGE, 20, 2);
    due("way", x.way(2, -1), 16);
    due("way", x.way(2, 0), 0);
    due("nobody told", x.done(2, 0, -1), 16);
    due("done", x.done(2, 1, -1), 12);
    due("done", x.done(2, 1, 0), 1);
    due("done", x.done(2, 1, 1), 3);
    due("not so many", x.done(2, 1, 2), -5);
    due("in one minute", x.done(1, 1, -1), OneLamp.NONE);
    due("in one minute", x.done(1, 1, 0), OneLamp.NONE);
    due("the other one", x.done(2, 2, -1), OneLamp.NONE);
    due("both", x.done(6, 3, -1), 40);
    due("bits of nobody", x.done(2, 4, -1), -10);
    due("bits", x.done(2, -1, -1), -10);
    due("bits", x.done(2, MAX, -1), -10);
    due("m", x.done(7, 1, -1), -10);
    due("m", x.done(-1, 1, -1), -10);
    due("i", x.done(1, 1, -2), -10);
    due("of none", x.done(0, 1, -1), OneLamp.NONE);
    due("of none", x.done(0, 0, -1), 0);
    due("of none, not so many", x.done(0, 0, 0), -5);
    due("not so many", x.done(2, 1, MAX), -5);
    due("no way, whichever minute", x.done(0, 1, 0), OneLamp.NONE);
    due("no way, whichever minute", x.done(1, 1, 1), OneLamp.NONE);
    due("no way, whichever minute", x.done(2, 2, MAX), OneLamp.NONE);
    x.oil(1);
    due("oil", x.done(2, 1, -1), -10);
    statusIs(x, 7, 0, 0);
  }

  private static void stand() {
    OneLamp x = hallOf(5, 5);
    due("nobody", x.stand(0), 0);
    due("nobody", x.stand(1), 0);
    x.reader(12, PRINT, 20, 2);
    due("the seat", x.stand(0), 12);
    due("the seat", x.stand(1), 6);
    x.reader(24, GREEK, 20, 3);
    due("still", x.stand(0), 12);
    x.reader(22, GREEK, 1, 9);
    due("worth more", x.stand(0), 22);
    due("worth more", x.stand(1), 9 + 4);
    x.oil(0);
    due("whatever oil", x.stand(1), 13);
    x.oil(1);
    x.lamp(22);
    x.burn(22);
    due("from how all is now", x.stand(0), 12);
    for (int what : new int[] {-1, 2, MAX, MIN}) due("stand(" + what + ")", x.stand(what), OneLamp.BAD);
    statusIs(x, 4, 0, 0);

    x = hallOf(5, 5);
    x.reader(0, HEART, 20, 1);
    x.reader(24, PRINT, 20, 9);
    x.burn(0);
    due("by heart, too", x.stand(1), 27 + 1);
    x = hallOf(2, 2);
    x.lamp(3);
    x.shelf(0, true);
    due("no shelf", x.stand(0), 1);
  }

  private static void two() {
    OneLamp x = hallOf(5, 5);
    due("nobody", x.two(0), 1);
    due("nobody", x.two(1), 0);
    x.reader(0, PRINT, 20, 1);
    x.reader(24, PRINT, 20, 1);
    due("one each", x.two(1), 6);
    due("12 at most; the first", x.two(0), 24);
    for (int what : new int[] {-1, 2, MAX, MIN}) due("two(" + what + ")", x.two(what), OneLamp.BAD);
    x = hallOf(3, 2);
    x.reader(5, PRINT, 20, 1);
    due("both together: 6 and 8", x.two(0), 1);
    due("both together: 6 and 8", x.two(1), 3);
    x = hallOf(5, 5);
    x.reader(12, GREEK, 20, 1);
    x.reader(24, GREEK, 20, 1);
    due("8 and 4 at the one, 12 at the other", x.two(0), 224);
    due("8 and 4 at the one, 12 at the other", x.two(1), 2);
    x = hallOf(2, 2);
    x.shelf(1, true);
    x.shelf(3, true);
    due("two squares", x.two(0), 2);
    x.shelf(2, true);
    due("fewer than two", x.two(0), -20);
    due("fewer than two", x.two(1), -20);
    due("BAD ahead of NO", x.two(2), OneLamp.BAD);
    statusIs(x, 1, 2, 0);
  }

  private static void seats() {
    OneLamp x = hallOf(5, 5);
    due("nobody", x.seats(), OneLamp.NONE);
    x.reader(0, PRINT, 20, 1);
    due("one alone", x.seats(), OneLamp.NONE);
    x.reader(24, PRINT, 20, 1);
    due("to a free square", x.seats(), 1014);
    x.shelf(14, true);
    due("not to a shelf", x.seats(), 1018);

    x = hallOf(5, 2);
    int[] worth = {9, 0, 0, 0, 9};
    for (int q = 0; q < 5; q++) x.reader(q, PRINT, 20, worth[q]);
    for (int q = 5; q < 10; q++) x.shelf(q, true);
    long before = x.digest();
    due("two change", x.seats(), 2);
    due("nothing changes", x.digest(), before);

    x = hallOf(5, 5);
    int[] others = {0, 9, 0, 0, 9};
    int[] seat = {24, 0, 3, 20, 4};
    for (int i = 0; i < 5; i++) x.reader(seat[i], PRINT, 20, others[i]);
    for (int q = 0; q < 25; q++) x.shelf(q, true);
    due("all others are shelves", x.count(1), 20);
    due("the second and the third change", x.seats(), 102);

    x = hallOf(5, 5);
    x.reader(12, PRINT, 20, 0);
    x.reader(0, PRINT, 20, 1);
    x.reader(24, PRINT, 20, 1);
    due("the second goes", x.seats(), 1100 + 14);

    x = hallOf(2, 2);
    for (int q = 0; q < 4; q++) x.reader(q, PRINT, 20, 1);
    due("none is better", x.seats(), OneLamp.NONE);
    statusIs(x, 0, 0, 0);
  }

  private static void moved() {
    OneLamp x = hallOf(5, 2);
    due("none", x.moved(), OneLamp.NONE);
    x.reader(0, PRINT, 20, 1);
    x.reader(2, PRINT, 20, 1);
    x.lamp(9);
    due("no shelf", x.moved(), OneLamp.NONE);
    x.shelf(1, true);
    due("away from between", x.moved(), 103);
    x.lamp(3);
    due("not to the lamp", x.moved(), 104);
    x.shelf(4, true);
    long before = x.digest();
    due("not to a shelf", x.moved(), 105);
    due("nothing changes", x.digest(), before);
    x.shelf(1, false);
    due("none is better", x.moved(), OneLamp.NONE);
    statusIs(x, 0, 0, 0);
    x = hallOf(3, 2);
    x.lamp(2);
    x.reader(1, PRINT, 20, 1);
    x.reader(3, PRINT, 20, 1);
    x.shelf(0, true);
    x.shelf(4, true);
    due("away from a corner, the first shelf", x.moved(), 5);
    statusIs(x, 0, 0, 0);
  }

  private static void rest() {
    OneLamp x = hallOf(5, 5);
    due("nobody pulls", x.rest(0), 0);
    due("nobody pulls", x.rest(1), 0);
    x.reader(24, PRINT, 20, 1);
    due("all along x, then y", x.rest(0), 8);
    due("all along x, then y", x.rest(1), 24);
    x.shelf(2, true);
    due("a shelf is there", x.rest(0), 1);
    due("a shelf is there", x.rest(1), 1);
    x.reader(20, PRINT, 20, 1);
    due("y is stronger", x.rest(0), 5);
    due("between both", x.rest(1), 21);
    x.string(1, 9);
    due("past it, and back", x.rest(0), OneLamp.NONE);
    x.string(0, 0);
    due("it alone", x.rest(0), 4);
    due("it alone", x.rest(1), 20);
    x.string(0, 1);
    x.string(1, 0);
    due("without strength", x.rest(1), 1);
    for (int what : new int[] {-1, 2, MAX, MIN}) due("rest(" + what + ")", x.rest(what), OneLamp.BAD);
    due("the lamp stays", x.count(6), 0);
    statusIs(x, 4, 0, 0);

    x = hallOf(5, 2);
    x.reader(0, PRINT, 3, 1);
    x.reader(1, PRINT, 20, 1);
    due("to and fro", x.rest(0), OneLamp.NONE);
    due("to and fro", x.rest(1), OneLamp.NONE);
    x.burn(0);
    due("pages left alone pull", x.rest(0), 1);
    due("pages left alone pull", x.rest(1), 1);
  }

  private static void told() {
    OneLamp x = new OneLamp();
    due("nobody", x.told(0, 0), OneLamp.BAD);
    x.reader(0, PRINT, 2, 0);
    x.reader(1, PRINT, 2, 0);
    due("at first", x.told(1, 20), 0);
    due("told(1, 0)", x.told(1, 0), 20);
    due("told(0, 7)", x.told(0, 7), 0);
    int[][] bad = {{-1, 1}, {2, 1}, {0, -1}, {0, 21}, {MAX, 0}, {0, MAX}, {0, MIN}};
    for (int[] b : bad) due("told", x.told(b[0], b[1]), OneLamp.BAD);
    due("told(0, 0)", x.told(0, 0), 7);
    statusIs(x, 8, 0, 0);
  }

  private static void been() {
    OneLamp x = hallOf(2, 2);
    due("nobody reads", x.been(0, 2, 0), 9);
    due("nobody reads", x.been(0, 2, 1), 15);
    x.reader(3, PRINT, 20, 1);
    x.oil(1);
    x.burn(1);
    due("of no minute", x.been(2, 0, 0), 1);
    due("of no minute", x.been(2, 0, 1), 4);
    x.told(0, 2);
    due("no oil, books as at first", x.been(0, 1, 0), 3);
    due("where", x.been(0, 1, 1), 7);
    due("of no minute", x.been(0, 0, 0), 0);
    due("of no minute", x.been(0, 0, 1), 0);
    x.told(0, 3);
    due("at the seat", x.been(1, 1, 0), 1);
    due("at the seat", x.been(1, 1, 1), 8);
    x.told(0, 15);
    due("five minutes", x.been(3, 5, 0), 1);
    due("five minutes", x.been(3, 5, 1), 8);
    x.shelf(2, true);
    int[][] bad = {{2, 1, 0}, {-1, 1, 0}, {4, 1, 0}, {0, -1, 0}, {0, 6, 0}, {0, 1, -1}, {0, 1, 2}, {MAX, MAX, MAX}, {MIN, 0, 0}};
    for (int[] b : bad) due("been", x.been(b[0], b[1], b[2]), OneLamp.BAD);
    statusIs(x, 9, 0, 0);

    x = hallOf(5, 5);
    x.reader(0, HEART, 20, 1);
    x.burn(0);
    x.told(0, 1);
    due("a way, by heart", x.way(1, -1), 4);
    due("nobody read ahead of it", x.been(24, 1, 0), 0);
    x.told(0, 0);
    due("nobody read ahead of it", x.been(24, 1, 0), 3);
  }

  private static void image() {
    OneLamp x = hallOf(3, 3);
    for (int i : new int[] {-1, 2, MAX, MIN}) due("image(" + i + ")", x.image(i), OneLamp.BAD);
    for (int i : new int[] {-1, 2, MAX, MIN}) due("from(" + i + ")", x.from(i), OneLamp.BAD);
    due("from(0)", x.from(0), OneLamp.NO);
    x.reader(4, HEART, 20, 3);
    x.burn(1);
    x.string(0, 6);
    x.told(0, 9);
    type(x, "abc");
    long first = x.digest();
    due("image(0)", x.image(0), 1);
    due("from(1)", x.from(1), OneLamp.NO);
    x.burn(4);
    x.image(1);
    long second = x.digest();
    x.hall(5, 5);
    due("from(0)", x.from(0), 1);
    due("all of it", x.digest(), first);
    due("text stays", x.clear(), 3);
    due("minutes are kept", x.undo(), 1);
    due("minutes are kept", x.left(0), 20);
    due("from(1)", x.from(1), 1);
    type(x, "xyz");
    due("all of it", x.digest(), second);
    x.burn(4);
    x.shelf(0, true);
    due("the image does not change", x.from(1), 1);
    due("all of it", x.digest(), second);
    due("undo", x.undo(), 1);
    due("back to the first", x.digest(), first);
    x.image(1);
    x.from(0);
    x.from(1);
    due("the newer image", x.digest(), first);
    statusIs(x, 8, 2, 0);
  }

  private static void status() {
    OneLamp x = new OneLamp();
    for (int what : new int[] {-1, 3, MAX, MIN}) due("status(" + what + ")", x.status(what), -1);
    statusIs(x, 4, 0, 0);
    x.lamp(99);
    x.way(9, 0);
    x.done(9, 0, 0);
    x.stand(7);
    x.count(7);
    statusIs(x, 9, 0, 0);
    x.shelf(0, true);
    x.burn(15);
    x.undo();
    x.from(0);
    statusIs(x, 9, 4, 0);
    x.way(0, 0);
    x.read();
    x.moved();
    x.seats();
    statusIs(x, 9, 4, 0);
  }

  private static void count() {
    OneLamp x = hallOf(4, 2);
    x.lamp(6);
    x.shelf(1, true);
    x.shelf(2, true);
    x.reader(0, PRINT, 3, 3);
    x.reader(3, PRINT, 3, 3);
    x.reader(5, PRINT, 3, 3);
    x.burn(6);
    x.burn(6);
    type(x, "hello");
    int[] counts = {3, 2, 6, 2, 5, 8, 6};
    for (int i = 0; i < counts.length; i++) due("count(" + i + ")", x.count(i), counts[i]);
    for (int what : new int[] {-1, 7, MAX, MIN}) due("count(" + what + ")", x.count(what), OneLamp.BAD);
    statusIs(x, 4, 0, 0);
  }

  private static void digest() {
    OneLamp x = hallOf(3, 2);
    x.shelf(5, true);
    x.reader(1, HEART, 12, 7);
    x.reader(0, SMALL, 3, 2);
    x.string(1, 4);
    x.told(0, 8);
    x.burn(1);
    type(x, "a");
    due("digest", x.digest(), digestOf(2, 1, 7, 1, 1, 6, 1, 3, 1, 4, 12, 7, 1, 8, 1, 8, 0, 1, 3, 2, 4, 2, 1, 0, 0, 0, 0, 0, 0, 1));
    x.oil(0);
    x.burn(1);
    due("in the dark", x.digest(), digestOf(2, 1, 0, 2, 1, 6, 1, 3, 1, 4, 12, 7, 1, 7, 0, 8, 0, 1, 3, 2, 4, 2, 0, 0, 0, 0, 0, 0, 0, 1));
    statusIs(x, 0, 0, 0);
  }

  public static void main(String[] args) {
    Runnable[][] tests = {
      {PromisesTest::newObject}, {PromisesTest::hall}, {PromisesTest::shelf}, {PromisesTest::reader}, {PromisesTest::lamp},
      {PromisesTest::oil}, {PromisesTest::string}, {PromisesTest::light}, {PromisesTest::typing, PromisesTest::typeFull},
      {PromisesTest::clear}, {PromisesTest::readFaults, PromisesTest::readItems},
      {PromisesTest::burn, PromisesTest::burnByKind, PromisesTest::burnByHeart, PromisesTest::burnByDuty},
      {PromisesTest::undo}, {PromisesTest::left}, {PromisesTest::way}, {PromisesTest::done}, {PromisesTest::stand},
      {PromisesTest::two}, {PromisesTest::seats}, {PromisesTest::moved}, {PromisesTest::rest}, {PromisesTest::told},
      {PromisesTest::been}, {PromisesTest::image}, {PromisesTest::image}, {PromisesTest::status}, {PromisesTest::count},
      {PromisesTest::digest},
    };
    for (promise = 1; promise <= tests.length; promise++) {
      for (Runnable test : tests[promise - 1]) test.run();
    }
    System.out.println(wrong == 0 ? tests.length + " promises hold" : wrong + " answers are not as due");
    if (wrong != 0) System.exit(1);
  }
}

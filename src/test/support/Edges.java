import java.util.ArrayList;
import java.util.List;

/**
 * What the tests of the boundary cases share: a test for each sentence of the document that names one,
 * told by the promise's number and the sentence; halls to try a call on; and what a refused call must leave as it was.
 */
final class Edges {
  static final int MAX = Integer.MAX_VALUE;
  static final int MIN = Integer.MIN_VALUE;
  static final int PRINT = 0, SMALL = 1, LARGE = 2, GREEK = 3, HEART = 4, DUTIFUL = 5;
  /** The reasons of STATUS; QUIET: a call that is answered, but changes nothing. */
  static final int BAD = 0, NO = 1, FULL = 2, QUIET = 3;
  private static final int MOST_SHOWN = 40;

  interface Test { void run(); }
  interface Made { OneLamp get(); }
  interface Call { int on(OneLamp x); }

  private final String name;
  private String sentence = "";
  private int sentences = 0;
  private int wrong = 0;

  Edges(String name) { this.name = name; }

  /** Runs the test of one sentence. */
  void holds(int promise, String words, Test test) {
    sentence = "promise " + promise + ": " + words;
    sentences++;
    try {
      test.run();
    } catch (RuntimeException | StackOverflowError e) {
      fault("threw " + e);
    }
  }

  /** Says how it went; leaves with 1 if an answer was not as due. */
  void end() {
    System.out.println(name + ": " + sentences + " sentences, " + wrong + " answers not as due");
    if (wrong != 0) System.exit(1);
  }

  private void fault(String what) {
    wrong++;
    if (wrong <= MOST_SHOWN) System.out.println(sentence + ": " + what);
  }

  void due(String call, long got, long want) {
    if (got != want) fault(call + " answered " + got + ", due is " + want);
  }

  void statusIs(OneLamp x, int bad, int no, int full) {
    due("status(0)", x.status(0), bad);
    due("status(1)", x.status(1), no);
    due("status(2)", x.status(2), full);
  }

  /** A call in a state: its answer, one more of its reason in STATUS, and nothing else is otherwise than without it. */
  void answers(Made made, String call, Call f, int want, int reason) {
    OneLamp x = made.get();
    OneLamp twin = made.get();
    due(call, f.on(x), want);
    for (int what = 0; what < 3; what++) {
      due("status(" + what + ") behind " + call, x.status(what), twin.status(what) + (what == reason ? 1 : 0));
    }
    List<Long> got = portrait(x);
    List<Long> was = portrait(twin);
    if (!got.equals(was)) fault(call + " changed " + was + " to " + got);
  }

  void bad(Made made, String call, Call f) { answers(made, call, f, OneLamp.BAD, BAD); }
  void no(Made made, String call, Call f) { answers(made, call, f, OneLamp.NO, NO); }
  void full(Made made, String call, Call f) { answers(made, call, f, OneLamp.FULL, FULL); }
  void quiet(Made made, String call, Call f, int want) { answers(made, call, f, want, QUIET); }

  /** The same in a new object, in one that has gone some way, and in one that can take no more. */
  void everywhere(String call, Call f, int want, int reason) {
    answers(OneLamp::new, call + " (new)", f, want, reason);
    answers(Edges::busy, call + " (busy)", f, want, reason);
    answers(Edges::crammed, call + " (crammed)", f, want, reason);
  }

  void badEverywhere(String call, Call f) { everywhere(call, f, OneLamp.BAD, BAD); }

  /** All that later calls can tell of an object; the object is used up by it. */
  private static List<Long> portrait(OneLamp x) {
    List<Long> row = new ArrayList<>();
    unwind(x, row);
    row.add((long) x.read());
    row.add(x.digest());
    for (int i = 0; i < 2; i++) {
      row.add((long) x.from(i));
      unwind(x, row);
    }
    return row;
  }

  /** The state, and those ahead of each minute that may be undone. */
  private static void unwind(OneLamp x, List<Long> row) {
    row.add(x.digest());
    for (int i = 0; i < 14 && x.undo() == 1; i++) row.add(x.digest());
  }

  static OneLamp hallOf(int w, int h) {
    OneLamp x = new OneLamp();
    x.hall(w, h);
    return x;
  }

  /** A hall of 5 by 3: two read, two shelves, three minutes, an image, a text; nothing was refused yet. */
  static OneLamp busy() {
    OneLamp x = hallOf(3, 3);
    x.reader(8, PRINT, 9, 2);
    x.burn(1);
    x.image(0);
    x.hall(5, 3);
    x.shelf(4, true);
    x.shelf(10, true);
    x.reader(7, HEART, 20, 3);
    x.reader(14, DUTIFUL, 6, 9);
    x.string(0, 4);
    x.told(1, 2);
    x.lamp(6);
    x.oil(5);
    x.burn(6);
    x.burn(7);
    x.burn(8);
    type(x, "hall 3 2;reader 1 2 3 4;");
    return x;
  }

  /** A hall of 5 by 5: five read, twelve minutes, two images, 200 bytes; nothing was refused yet. */
  static OneLamp crammed() {
    OneLamp x = hallOf(5, 5);
    x.shelf(6, true);
    x.shelf(8, true);
    int[] seat = {0, 4, 12, 20, 24};
    int[] kind = {GREEK, SMALL, HEART, LARGE, DUTIFUL};
    for (int i = 0; i < 5; i++) x.reader(seat[i], kind[i], 16 + i, 9 - i);
    x.string(4, 9);
    x.told(0, 20);
    x.lamp(2);
    x.oil(12);
    x.image(0);
    for (int i = 0; i < 13; i++) x.burn(i % 2 == 0 ? 7 : 2);
    x.image(1);
    x.oil(7);
    type(x, "hall 5 5;" + "oil 12;".repeat(27) + "  ");
    return x;
  }

  /** Eight bytes a call, so that a long text leaves calls for more. */
  static void type(OneLamp x, String text) {
    for (int at = 0; at < text.length(); at += 8) {
      String part = text.substring(at, Math.min(text.length(), at + 8));
      long v = 0;
      for (int i = 0; i < part.length(); i++) v = v << 8 | part.charAt(i) & 255;
      x.type(v, part.length());
    }
  }

  static long digestOf(int... row) {
    long h = 769;
    for (int v : row) h = 31 * h + v;
    return h;
  }
}

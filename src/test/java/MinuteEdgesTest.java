/** The boundary cases of promises 12 to 14: minutes, what is read in them by KIND, and those that may be undone. */
public final class MinuteEdgesTest {
  private static final int MAX = Edges.MAX, MIN = Edges.MIN;
  private static final int PRINT = Edges.PRINT, SMALL = Edges.SMALL, LARGE = Edges.LARGE, GREEK = Edges.GREEK, HEART = Edges.HEART, DUTIFUL = Edges.DUTIFUL;
  private static final Edges e = new Edges("MinuteEdgesTest");

  private static OneLamp hallOf(int w, int h) { return Edges.hallOf(w, h); }

  private static OneLamp lampAt(int w, int h, int square) {
    OneLamp x = hallOf(w, h);
    x.lamp(square);
    return x;
  }

  /** A hall of 5 by 5 with one READER at 0, who has so much LIGHT (0, 1, 2, 3, 4, 6 .. 12) of THE LAMP. */
  private static OneLamp lit(int light, int kind, int pages) {
    OneLamp x = hallOf(5, 5);
    x.reader(0, kind, pages, 1);
    int[] square = {14, 13, 9, 7, 4, -1, 3, -1, 2, -1, 1, -1, 0};
    x.lamp(square[light]);
    if (light == 1 || light == 3) {
      x.shelf(light == 1 ? 3 : 2, true);
      x.shelf(light == 1 ? 10 : 5, true);
    }
    e.due("LIGHT", x.light(0, square[light]), light);
    return x;
  }

  private static int stay(OneLamp x) { return x.burn(x.count(6)); }

  /** The digest, as if no minute could be undone: 8 values a READER, one a SQUARE and 4 more come behind count(3). */
  private static long digestWithoutMinutes(OneLamp x) {
    long power = 1;
    for (int i = 0; i < 4 + 8 * x.count(0) + x.count(5); i++) power *= 31;
    return x.digest() - power * x.count(3);
  }

  private static void where() {
    e.holds(12, "BAD: no SQUARE", () -> {
      for (int q : new int[] {MIN, -1, 25, 26, MAX}) e.badEverywhere("burn(" + q + ")", x -> x.burn(q));
      e.badEverywhere("burn(W by H)", x -> x.burn(x.count(5)));
      e.bad(() -> lampAt(5, 5, 24), "a row below the last", x -> x.burn(29));
      e.bad(() -> lampAt(5, 5, 0), "a row above the first", x -> x.burn(-5));
    });
    e.holds(12, "stays, or goes to a SQUARE beside (x or y 1 more or less)", () -> {
      for (int to : new int[] {12, 11, 13, 7, 17}) {
        OneLamp x = lampAt(5, 5, 12);
        e.due("burn(" + to + ")", x.burn(to), 0);
        e.due("count(6)", x.count(6), to);
      }
      e.due("the last SQUARE", lampAt(5, 5, 19).burn(24), 0);
      e.due("the first SQUARE", lampAt(5, 5, 1).burn(0), 0);
      e.due("2 by 2", lampAt(2, 2, 1).burn(3), 0);
    });
    e.holds(12, "NO: not beside", () -> {
      for (int q = 0; q < 25; q++) {
        int to = q;
        if (q == 12 || q == 11 || q == 13 || q == 7 || q == 17) continue;
        e.no(() -> lampAt(5, 5, 12), "burn(" + q + ") from 12", x -> x.burn(to));
      }
    });
    e.holds(12, "NO: not beside, where a row ends and the next begins", () -> {
      e.no(() -> lampAt(5, 5, 4), "burn(5) from 4", x -> x.burn(5));
      e.no(() -> lampAt(5, 5, 5), "burn(4) from 5", x -> x.burn(4));
      e.no(() -> lampAt(2, 5, 1), "2 by 5: burn(2) from 1", x -> x.burn(2));
      e.no(() -> lampAt(5, 2, 4), "5 by 2: burn(5) from 4", x -> x.burn(5));
    });
    e.holds(12, "NO: not beside, round the hall", () -> {
      e.no(() -> lampAt(5, 5, 0), "burn(4) from 0", x -> x.burn(4));
      e.no(() -> lampAt(5, 5, 4), "burn(0) from 4", x -> x.burn(0));
      e.no(() -> lampAt(5, 5, 0), "burn(20) from 0", x -> x.burn(20));
      e.no(() -> lampAt(5, 5, 24), "burn(4) from 24", x -> x.burn(4));
    });
    e.holds(12, "NO: a SHELF", () -> {
      for (int q : new int[] {7, 11, 13, 17}) {
        Edges.Made made = () -> {
          OneLamp x = lampAt(5, 5, 12);
          x.shelf(q, true);
          return x;
        };
        e.no(made, "burn(" + q + ")", x -> x.burn(q));
        e.due("it may stay", made.get().burn(12), 0);
      }
      e.no(Edges::busy, "a shelf far away", x -> x.burn(10));
      e.no(Edges::crammed, "a shelf beside", x -> x.burn(8));
    });
    e.holds(12, "THE LAMP may go where somebody sits", () -> {
      OneLamp x = hallOf(2, 2);
      x.reader(1, PRINT, 9, 1);
      e.due("burn(1)", x.burn(1), 3);
    });
  }

  private static void oil() {
    e.holds(12, "THE LAMP first goes, then all read", () -> {
      OneLamp x = hallOf(5, 5);
      x.reader(1, PRINT, 20, 1);
      e.due("by the light from where it goes", x.burn(1), 3);
      e.due("and back", x.burn(0), 2);
    });
    e.holds(12, "one OIL is burnt", () -> {
      for (int n = 12; n >= 1; n--) {
        OneLamp x = hallOf(2, 2);
        x.oil(n);
        x.burn(0);
        e.due("of " + n, x.count(2), n - 1);
      }
    });
    e.holds(12, "the last OIL gives LIGHT yet", () -> {
      OneLamp x = hallOf(2, 2);
      x.reader(0, PRINT, 20, 1);
      x.oil(1);
      e.due("burn(0)", x.burn(0), 3);
      e.due("oil", x.count(2), 0);
      e.due("left", x.left(0), 17);
    });
    e.holds(12, "without OIL there is no LIGHT", () -> {
      for (int kind = 0; kind <= 5; kind++) {
        OneLamp x = hallOf(2, 2);
        x.reader(0, kind, 20, 1);
        x.oil(0);
        e.due("kind " + kind, x.burn(0), 0);
        e.due("left", x.left(0), 20);
      }
    });
    e.holds(12, "without OIL minutes go by all the same", () -> {
      OneLamp x = hallOf(2, 2);
      x.oil(0);
      e.due("burn(1)", x.burn(1), 0);
      e.due("THE LAMP goes", x.count(6), 1);
      e.due("OIL is none", x.count(2), 0);
      e.due("a minute", x.count(3), 1);
      e.due("burn(3)", x.burn(3), 0);
      e.due("another one", x.count(3), 2);
      e.due("OIL is none", x.count(2), 0);
      e.due("burn(0)", x.burn(0), OneLamp.NO);
    });
    e.holds(12, "nobody reads: no PAGES", () -> e.due("burn(0)", new OneLamp().burn(0), 0));
    e.holds(12, "how many PAGES are read in it, of all READERS", () -> {
      OneLamp x = hallOf(5, 5);
      for (int q = 0; q < 5; q++) x.reader(q, PRINT, 20, 0);
      e.due("burn(0)", x.burn(0), 3 + 2 + 2 + 1 + 1);
    });
  }

  private static void kinds() {
    int[] light = {12, 10, 8, 6, 4, 3, 2, 1, 0};
    String[] sentence = {
      "0 PRINT: LIGHT by 4 (cut)", "1 SMALL: that less 1 (0 at least)", "2 LARGE: that and 1, if there is LIGHT at all",
      "3 GREEK: SMALL by 2 (cut)", "4 HEART: as LARGE", "5 DUTIFUL: as PRINT",
    };
    int[][] pages = {
      {3, 2, 2, 1, 1, 0, 0, 0, 0}, {2, 1, 1, 0, 0, 0, 0, 0, 0}, {4, 3, 3, 2, 2, 1, 1, 1, 0},
      {1, 0, 0, 0, 0, 0, 0, 0, 0}, {4, 3, 3, 2, 2, 1, 1, 1, 0}, {3, 2, 2, 1, 1, 0, 0, 0, 0},
    };
    for (int k = 0; k <= 5; k++) {
      int kind = k;
      e.holds(12, sentence[kind], () -> {
        for (int i = 0; i < light.length; i++) {
          OneLamp x = lit(light[i], kind, 20);
          e.due("by " + light[i], stay(x), pages[kind][i]);
          e.due("left", x.left(0), 20 - pages[kind][i]);
        }
      });
    }
    e.holds(12, "no more than are left", () -> {
      int[] most = {3, 2, 4, 1, 4, 3};
      for (int kind = 0; kind <= 5; kind++) {
        for (int pages1 = 1; pages1 <= 5; pages1++) {
          OneLamp x = lit(12, kind, pages1);
          int first = Math.min(most[kind], pages1);
          int second = Math.min(most[kind], pages1 - first);
          e.due("kind " + kind + " of " + pages1, stay(x), first);
          e.due("left", x.left(0), pages1 - first);
          e.due("and then", stay(x), second);
          e.due("left", x.left(0), pages1 - first - second);
        }
      }
    });
  }

  private static void heart() {
    e.holds(12, "HEART: 1 in a minute without LIGHT right behind one with LIGHT: THE LAMP is far", () -> {
      OneLamp x = lit(2, HEART, 20);
      e.due("little light", x.burn(9), 1);
      e.due("none", x.burn(14), 1);
      e.due("not right behind", x.burn(14), 0);
    });
    e.holds(12, "HEART: 1 in a minute without LIGHT: OIL is out", () -> {
      OneLamp x = lit(12, HEART, 20);
      x.oil(1);
      e.due("light", x.burn(0), 4);
      e.due("none", x.burn(0), 1);
      e.due("not right behind", x.burn(0), 0);
      e.due("left", x.left(0), 15);
    });
    e.holds(12, "HEART: 1 in a minute without LIGHT: SHELVES are between", () -> {
      OneLamp x = hallOf(5, 5);
      x.reader(0, HEART, 20, 1);
      x.shelf(1, true);
      x.shelf(2, true);
      x.lamp(8);
      e.due("four steps, one of them down", x.burn(8), 2);
      e.due("two shelves between", x.burn(3), 1);
      e.due("not right behind", x.burn(3), 0);
    });
    e.holds(12, "HEART: right behind a minute with LIGHT, however little", () -> {
      OneLamp x = lit(1, HEART, 20);
      e.due("by 1", stay(x), 1);
      x.oil(0);
      e.due("dark", stay(x), 1);
    });
    e.holds(12, "HEART: all who read by LIGHT have a page in the dark", () -> {
      OneLamp x = hallOf(3, 2);
      for (int q = 0; q < 5; q++) x.reader(q, HEART, 20, 1);
      x.oil(1);
      e.due("light", x.burn(1), 4 + 3 * 4);
      e.due("dark", x.burn(1), 5);
      e.due("dark again", x.burn(1), 0);
    });
    e.holds(12, "HEART: none in the first minute of all", () -> e.due("dark", stay(lit(0, HEART, 20)), 0));
    e.holds(12, "HEART: not in a minute with LIGHT", () -> {
      OneLamp x = lit(12, HEART, 20);
      e.due("light", stay(x), 4);
      e.due("light again: no page by heart", stay(x), 4);
      x.lamp(9);
      e.due("little light: no page by heart", stay(x), 1);
    });
    e.holds(12, "HEART: the minute right behind, whatever is told between them", () -> {
      OneLamp x = lit(12, HEART, 20);
      stay(x);
      x.lamp(24);
      x.oil(0);
      x.string(0, 3);
      x.reader(20, PRINT, 1, 1);
      x.shelf(6, true);
      x.burn(0);
      e.due("dark", x.burn(24), 1);
    });
    e.holds(12, "HEART: no more than are left", () -> {
      OneLamp x = lit(12, HEART, 4);
      e.due("all", stay(x), 4);
      x.oil(0);
      e.due("none left", stay(x), 0);
      x = lit(12, HEART, 5);
      stay(x);
      x.oil(0);
      e.due("one left", stay(x), 1);
      e.due("left", x.left(0), 0);
    });
    e.holds(12, "HEART alone: others read nothing without LIGHT", () -> {
      for (int kind : new int[] {PRINT, SMALL, LARGE, GREEK, DUTIFUL}) {
        OneLamp x = lit(12, kind, 20);
        stay(x);
        x.oil(0);
        e.due("kind " + kind, stay(x), 0);
      }
    });
    e.holds(12, "HEART: one's own LIGHT counts, not another's", () -> {
      OneLamp x = hallOf(5, 5);
      x.reader(0, HEART, 20, 1);
      x.reader(24, HEART, 20, 1);
      x.lamp(24);
      e.due("the second", x.burn(24), 4);
      x.lamp(0);
      e.due("the first by light, the second by heart", x.burn(0), 4 + 1);
      e.due("the first", x.left(0), 16);
      e.due("the second", x.left(1), 15);
    });
  }

  private static void duty() {
    e.holds(12, "DUTIFUL: none, if one with a lesser number has PAGES left", () -> {
      for (int before = 1; before <= 4; before++) {
        OneLamp x = hallOf(5, 5);
        for (int i = 0; i < before; i++) x.reader(20 + i, GREEK, 20, 1);
        x.reader(0, DUTIFUL, 20, 1);
        e.due("behind " + before, x.burn(0), 0);
        e.due("left", x.left(before), 20);
      }
    });
    e.holds(12, "DUTIFUL: each of the lesser numbers counts", () -> {
      for (int slow = 0; slow < 4; slow++) {
        OneLamp x = hallOf(2, 3);
        for (int i = 0; i < 4; i++) x.reader(i, LARGE, i == slow ? 20 : 1, 1);
        x.reader(5, DUTIFUL, 20, 1);
        x.burn(0);
        x.burn(0);
        e.due("reader " + slow + " has pages left", x.left(4), 20);
      }
    });
    e.holds(12, "DUTIFUL: greater numbers do not count", () -> {
      OneLamp x = hallOf(5, 5);
      x.reader(0, DUTIFUL, 20, 1);
      x.reader(24, PRINT, 20, 1);
      e.due("burn(0)", x.burn(0), 3);
    });
    e.holds(12, "DUTIFUL: ahead of the minute", () -> {
      OneLamp x = hallOf(2, 2);
      x.reader(0, PRINT, 3, 1);
      x.reader(1, DUTIFUL, 20, 1);
      e.due("the lesser one is done in it", x.burn(0), 3);
      e.due("left", x.left(0), 0);
      e.due("now", x.burn(0), 2);
      x.undo();
      x.undo();
      e.due("not again", x.burn(0), 3);
    });
    e.holds(12, "DUTIFUL: one page left is enough", () -> {
      OneLamp x = hallOf(5, 5);
      x.reader(24, PRINT, 1, 1);
      x.reader(0, DUTIFUL, 20, 1);
      e.due("burn(0)", x.burn(0), 0);
    });
    e.holds(12, "DUTIFUL: two of them, one behind the other", () -> {
      OneLamp x = hallOf(2, 2);
      x.reader(0, DUTIFUL, 3, 1);
      x.reader(1, DUTIFUL, 2, 1);
      e.due("the first", x.burn(0), 3);
      e.due("the second", x.burn(0), 2);
      e.due("none", x.burn(0), 0);
    });
  }

  private static void undo() {
    e.holds(13, "NO: none may be", () -> {
      e.no(OneLamp::new, "undo()", OneLamp::undo);
      OneLamp x = Edges.busy();
      for (int i = 0; i < 3; i++) e.due("undo()", x.undo(), 1);
      e.due("undo()", x.undo(), OneLamp.NO);
      e.statusIs(x, 0, 1, 0);
      x.burn(6);
      e.due("one more", x.undo(), 1);
      e.due("undo()", x.undo(), OneLamp.NO);
    });
    e.holds(13, "12 at most: just so many", () -> {
      OneLamp x = hallOf(5, 5);
      x.reader(24, LARGE, 20, 1);
      x.oil(12);
      long first = x.digest();
      for (int i = 0; i < 12; i++) {
        e.due("count(3)", x.count(3), i);
        x.burn(new int[] {1, 2, 3, 4, 9, 14, 19, 24, 24, 23, 22, 21}[i]);
      }
      e.due("count(3)", x.count(3), 12);
      for (int i = 12; i > 0; i--) {
        e.due("undo()", x.undo(), 1);
        e.due("count(3)", x.count(3), i - 1);
      }
      e.due("as at first", x.digest(), first);
      e.due("undo()", x.undo(), OneLamp.NO);
    });
    e.holds(13, "12 at most: of more the last ones", () -> {
      for (int more = 1; more <= 30; more += 7) {
        OneLamp x = hallOf(5, 2);
        x.reader(0, LARGE, 20, 1);
        x.oil(12);
        int[] lamp = new int[50], left = new int[50], oil = new int[50];
        for (int i = 0; i < 12 + more; i++) {
          lamp[i] = x.count(6);
          left[i] = x.left(0);
          oil[i] = x.count(2);
          x.burn(i * 3 % 7 % 2 == 0 ? 5 : 0);
        }
        e.due("count(3)", x.count(3), 12);
        for (int i = 11 + more; i >= more; i--) {
          e.due("undo()", x.undo(), 1);
          e.due("THE LAMP", x.count(6), lamp[i]);
          e.due("PAGES left", x.left(0), left[i]);
          e.due("OIL", x.count(2), oil[i]);
        }
        e.due("undo()", x.undo(), OneLamp.NO);
      }
    });
    e.holds(13, "as ahead of the last minute: who read by LIGHT in the one ahead of it, too", () -> {
      OneLamp x = lit(12, HEART, 20);
      stay(x);
      long lit = x.digest();
      x.oil(0);
      long dark = x.digest();
      e.due("dark", stay(x), 1);
      e.due("undo()", x.undo(), 1);
      e.due("digest", x.digest(), dark);
      e.due("dark, once again", stay(x), 1);
      x.undo();
      x.oil(7);
      e.due("digest", x.digest(), lit);
      x.undo();
      x.oil(0);
      e.due("ahead of all LIGHT", stay(x), 0);
    });
    e.holds(13, "12 at most: who read by LIGHT, of the last ones, too", () -> {
      for (int minutes = 12; minutes <= 20; minutes++) {
        OneLamp x = hallOf(5, 5);
        x.reader(0, HEART, 20, 1);
        x.reader(24, LARGE, 20, 1);
        long[] was = new long[minutes];
        for (int i = 0; i < minutes; i++) {
          x.lamp(i % 3 == 0 ? 0 : 24);
          x.oil(i % 4 == 3 ? 0 : 12);
          was[i] = digestWithoutMinutes(x);
          stay(x);
        }
        for (int i = minutes - 1; i >= minutes - 12; i--) {
          e.due("undo()", x.undo(), 1);
          e.due("as ahead of minute " + i + " of " + minutes, digestWithoutMinutes(x), was[i]);
        }
        e.due("undo()", x.undo(), OneLamp.NO);
      }
    });
    e.holds(13, "as ahead of the last minute: all READERS", () -> {
      OneLamp x = Edges.crammed();
      int[] was = new int[5];
      x.oil(5);
      x.lamp(7);
      for (int i = 0; i < 5; i++) was[i] = x.left(i);
      x.burn(12);
      x.undo();
      for (int i = 0; i < 5; i++) e.due("left(" + i + ")", x.left(i), was[i]);
      e.due("THE LAMP", x.count(6), 7);
      e.due("OIL", x.count(2), 5);
    });
    e.holds(13, "THE LAMP put, OIL told behind a minute are undone with it", () -> {
      OneLamp x = hallOf(5, 5);
      x.lamp(7);
      x.oil(4);
      x.burn(8);
      x.lamp(24);
      x.oil(12);
      e.due("undo()", x.undo(), 1);
      e.due("THE LAMP", x.count(6), 7);
      e.due("OIL", x.count(2), 4);
    });
    e.holds(13, "THE LAMP, OIL, PAGES left: strings and what was told are not undone", () -> {
      OneLamp x = Edges.busy();
      x.string(0, 9);
      x.told(0, 8);
      x.type(32, 1);
      x.undo();
      e.due("string", x.string(0, 0), 9);
      e.due("told", x.told(0, 0), 8);
      e.due("THE TEXT", x.count(4), 25);
    });
    e.holds(13, "a minute without OIL is undone, too", () -> {
      OneLamp x = hallOf(2, 2);
      x.oil(0);
      x.burn(1);
      e.due("undo()", x.undo(), 1);
      e.due("THE LAMP", x.count(6), 0);
      e.due("OIL", x.count(2), 0);
    });
    e.holds(13, "a minute that was refused is none", () -> {
      OneLamp x = hallOf(2, 2);
      x.burn(3);
      x.burn(9);
      e.due("count(3)", x.count(3), 0);
      e.due("undo()", x.undo(), OneLamp.NO);
    });
    e.holds(13, "a READER who comes, a SHELF put or taken away leave none: those behind them may be", () -> {
      OneLamp x = Edges.busy();
      x.reader(0, PRINT, 5, 5);
      x.burn(3);
      x.burn(3);
      e.due("count(3)", x.count(3), 2);
      x.shelf(11, true);
      x.burn(3);
      e.due("count(3)", x.count(3), 1);
      x.shelf(11, false);
      e.due("count(3)", x.count(3), 0);
      x.burn(3);
      e.due("undo()", x.undo(), 1);
      e.due("undo()", x.undo(), OneLamp.NO);
    });
    e.holds(13, "what is asked leaves all minutes", () -> {
      OneLamp x = Edges.crammed();
      x.way(2, 0);
      x.done(1, 1, 0);
      x.stand(0);
      x.two(0);
      x.seats();
      x.moved();
      x.rest(0);
      x.been(0, 1, 0);
      x.image(0);
      x.left(0);
      x.light(0, 0);
      e.due("count(3)", x.count(3), 12);
    });
  }

  private static void left() {
    e.holds(14, "of a READER: the first, the last", () -> {
      OneLamp x = hallOf(5, 5);
      for (int i = 0; i < 5; i++) x.reader(i, PRINT, 10 + i, 0);
      for (int i = 0; i < 5; i++) e.due("left(" + i + ")", x.left(i), 10 + i);
    });
    e.holds(14, "BAD", () -> {
      for (int i : new int[] {MIN, -1, 5, 6, MAX}) e.badEverywhere("left(" + i + ")", x -> x.left(i));
      e.badEverywhere("left(READERS)", x -> x.left(x.count(0)));
    });
    e.holds(14, "PAGES left: down to none", () -> {
      OneLamp x = hallOf(2, 2);
      x.reader(0, PRINT, 20, 1);
      x.oil(12);
      for (int left = 20; left > 0; left -= 3) {
        e.due("left(0)", x.left(0), left);
        x.burn(0);
      }
      e.due("left(0)", x.left(0), 0);
      x.burn(0);
      e.due("left(0)", x.left(0), 0);
      x.undo();
      x.undo();
      e.due("left(0)", x.left(0), 2);
    });
    e.holds(14, "nothing changes", () -> e.quiet(Edges::crammed, "left(4)", x -> x.left(4), Edges.crammed().left(4)));
  }

  public static void main(String[] args) {
    where();
    oil();
    kinds();
    heart();
    duty();
    undo();
    left();
    e.end();
  }
}

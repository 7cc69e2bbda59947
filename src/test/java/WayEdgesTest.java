/** The boundary cases of promises 15, 16, 22, 23: WAYS, DONE in time, what is told, BEEN. */
public final class WayEdgesTest {
  private static final int MAX = Edges.MAX, MIN = Edges.MIN;
  private static final int PRINT = Edges.PRINT, LARGE = Edges.LARGE, GREEK = Edges.GREEK, HEART = Edges.HEART;
  private static final int NONE = OneLamp.NONE;
  private static final Edges e = new Edges("WayEdgesTest");

  private static OneLamp hallOf(int w, int h) { return Edges.hallOf(w, h); }

  /** 2 by 2, one READER of PRINT at 3, THE LAMP at 0. */
  private static OneLamp small(int pages, int worth, int oil) {
    OneLamp x = hallOf(2, 2);
    x.reader(3, PRINT, pages, worth);
    x.oil(oil);
    return x;
  }

  private static OneLamp lampAt(int w, int h, int square) {
    OneLamp x = hallOf(w, h);
    x.lamp(square);
    return x;
  }

  /** The SQUARES of a WAY, one by one, and that there is none more. */
  private static void goes(OneLamp x, int... squares) {
    for (int i = 0; i < squares.length; i++) e.due("way(" + squares.length + ", " + i + ")", x.way(squares.length, i), squares[i]);
    e.due("way: one more", x.way(squares.length, squares.length), -5);
  }

  private static void wayMinutes() {
    e.holds(15, "m minutes (0 .. 6)", () -> {
      int[] worth = {0, 2, 5, 8, 11, 14, 17};
      for (int m = 0; m <= 6; m++) e.due("way(" + m + ", NONE)", small(20, 1, 12).way(m, NONE), worth[m]);
      for (int m : new int[] {MIN, -1, 7, 8, 12, MAX}) {
        e.everywhere("way(" + m + ", NONE)", x -> x.way(m, NONE), -10, Edges.BAD);
        e.answers(() -> small(20, 1, 12), "way(" + m + ", 0)", x -> x.way(m, 0), -10, Edges.BAD);
      }
    });
    e.holds(15, "no more than OIL: BAD", () -> {
      for (int n = 0; n <= 6; n++) {
        int oil = n;
        e.due("as many as oil", small(20, 0, oil).way(oil, NONE), 0);
        if (oil < 6) e.answers(() -> small(20, 1, oil), "one more than oil " + oil, x -> x.way(oil + 1, NONE), -10, Edges.BAD);
      }
      OneLamp x = small(20, 1, 3);
      x.burn(0);
      e.due("oil that is burnt is gone", x.way(3, NONE), -10);
      e.due("what is left", x.way(2, NONE), 5);
    });
    e.holds(15, "the SQUARE of minute i (0 on). -5: not so many", () -> {
      for (int m = 0; m <= 6; m++) {
        int n = m;
        for (int i = 0; i < m; i++) e.due("minute " + i, small(20, 1, 12).way(m, i), i == 0 && m > 1 ? 1 : m == 1 ? 0 : 3);
        for (int i : new int[] {m, m + 1, 7, MAX}) if (i >= m) e.quiet(() -> small(20, 1, 12), "way(" + m + ", " + i + ")", x -> x.way(n, i), -5);
      }
    });
    e.holds(15, "BAD: i is neither NONE nor a minute", () -> {
      for (int i : new int[] {-2, -5, -10, MIN}) e.everywhere("way(1, " + i + ")", x -> x.way(1, i), -10, Edges.BAD);
    });
    e.holds(15, "BAD ahead of -5", () -> {
      e.everywhere("way(7, 7)", x -> x.way(7, 7), -10, Edges.BAD);
      e.answers(() -> small(20, 1, 2), "way(3, 3)", x -> x.way(3, 3), -10, Edges.BAD);
    });
    e.holds(15, "nothing changes", () -> {
      e.quiet(() -> small(20, 1, 12), "way(6, NONE)", x -> x.way(6, NONE), 17);
      e.quiet(Edges::crammed, "way(0, NONE)", x -> x.way(0, NONE), 0);
      e.quiet(Edges::crammed, "way(6, 5)", x -> x.way(6, 5), Edges.crammed().way(6, 5));
    });
  }

  private static void wayFromNow() {
    e.holds(15, "begin as it is now: where THE LAMP is", () -> {
      OneLamp x = small(20, 1, 8);
      x.lamp(3);
      e.due("way(1, NONE)", x.way(1, NONE), 3);
      goes(x, 3);
      x.lamp(2);
      goes(x, 3, 3);
    });
    e.holds(15, "begin as it is now: PAGES left, no more", () -> {
      OneLamp x = small(7, 2, 8);
      x.lamp(3);
      e.due("all", x.way(6, NONE), 14);
      x.burn(3);
      e.due("four left", x.way(6, NONE), 8);
      x.burn(3);
      e.due("one left", x.way(6, NONE), 2);
      x.burn(3);
      e.due("none left", x.way(5, NONE), 0);
      goes(x, 1, 0, 0);
    });
    e.holds(15, "begin as it is now: who has read by LIGHT in the minute ahead", () -> {
      OneLamp x = hallOf(5, 5);
      x.reader(0, HEART, 20, 1);
      x.lamp(24);
      e.due("nobody has", x.way(2, NONE), 0);
      x.lamp(0);
      x.burn(0);
      x.lamp(24);
      e.due("by heart, once", x.way(2, NONE), 1);
    });
    e.holds(15, "most WORTH (PAGES by WORTH, all READERS)", () -> {
      OneLamp x = hallOf(5, 2);
      x.reader(0, LARGE, 20, 2);
      x.reader(4, PRINT, 20, 9);
      e.due("stays: 4 by 2 and 1 by 9; goes: 3 by 2 and 1 by 9", x.way(1, NONE), 17);
      goes(x, 0);
      x.lamp(2);
      e.due("3 by 2 and 2 by 9; 2 by 2 and 2 by 9; 3 by 2 and 1 by 9", x.way(1, NONE), 24);
      goes(x, 2);
      x.lamp(3);
      e.due("2 by 2 and 3 by 9", x.way(1, NONE), 31);
      goes(x, 4);
    });
    e.holds(15, "the most of all WORTH: 9 a page, five READERS, six minutes", () -> {
      OneLamp x = hallOf(3, 2);
      for (int q = 0; q < 5; q++) x.reader(q, LARGE, 20, 9);
      x.lamp(1);
      // one has 4 PAGES a minute and four have 3; with two minutes at a seat nobody's 20 run out
      e.due("way(6, NONE)", x.way(6, NONE), (4 + 3 * 4) * 6 * 9);
    });
  }

  private static void wayOfLikeOnes() {
    e.holds(15, "of like ones the first: minute by minute the least SQUARE", () -> {
      goes(lampAt(2, 2, 3), 1, 0, 0, 0, 0, 0);
      goes(lampAt(5, 5, 24), 19, 14, 9, 4, 3, 2);
      goes(lampAt(5, 5, 4), 3, 2, 1, 0, 0, 0);
      goes(lampAt(5, 5, 20), 15, 10, 5, 0, 0, 0);
      goes(hallOf(5, 5), 0, 0, 0, 0, 0, 0);
    });
    e.holds(15, "of like ones the first: READERS of no WORTH are like nobody", () -> {
      OneLamp x = lampAt(5, 5, 12);
      x.reader(13, LARGE, 20, 0);
      e.due("way(3, NONE)", x.way(3, NONE), 0);
      goes(x, 7, 2, 1);
    });
    e.holds(15, "of like ones the first: the book is done in time anyway", () -> goes(small(4, 3, 8), 0, 0));
    e.holds(15, "goes to a SQUARE beside: no SHELF", () -> {
      OneLamp x = lampAt(5, 5, 12);
      for (int q : new int[] {7, 11, 13, 17}) x.shelf(q, true);
      x.reader(2, PRINT, 20, 9);
      goes(x, 12, 12, 12, 12, 12, 12);
      x.shelf(17, false);
      goes(x, 12);
      x = lampAt(3, 3, 3);
      x.shelf(0, true);
      goes(x, 3, 3, 3);
    });
    e.holds(15, "goes to a SQUARE beside: not from a row's end to the next row", () -> {
      OneLamp x = lampAt(5, 2, 4);
      x.reader(5, PRINT, 20, 1);
      e.due("way(1, NONE) from 4", x.way(1, NONE), 1);
      goes(x, 3);
      x = lampAt(5, 2, 5);
      x.reader(4, PRINT, 20, 1);
      e.due("way(1, NONE) from 5", x.way(1, NONE), 1);
      goes(x, 0);
    });
    e.holds(15, "goes to a SQUARE beside: not out of the hall", () -> {
      for (int q = 0; q < 10; q++) {
        OneLamp wide = lampAt(5, 2, q), tall = lampAt(2, 5, q);
        e.due("5 by 2 from " + q, wide.way(1, 0), q > 4 ? q - 5 : Math.max(0, q - 1));
        e.due("2 by 5 from " + q, tall.way(1, 0), q > 1 ? q - 2 : 0);
      }
    });
    e.holds(15, "stays: where it is, is a SQUARE of a WAY, too", () -> {
      OneLamp x = lampAt(3, 3, 4);
      x.reader(4, GREEK, 20, 1);
      goes(x, 4, 4, 4, 4, 4, 4);
      e.due("way(6, NONE)", x.way(6, NONE), 6);
    });
  }

  private static void done() {
    e.holds(16, "m minutes (0 .. 6; no more than OIL: BAD)", () -> {
      for (int m : new int[] {MIN, -1, 7, MAX}) e.everywhere("done(" + m + ", 0, NONE)", x -> x.done(m, 0, NONE), -10, Edges.BAD);
      e.due("done(6, 1, NONE)", small(17, 1, 6).done(6, 1, NONE), 17);
      e.answers(() -> small(3, 1, 5), "done(6, 1, NONE), oil 5", x -> x.done(6, 1, NONE), -10, Edges.BAD);
      e.answers(() -> small(3, 1, 0), "done(1, 0, NONE), oil 0", x -> x.done(1, 0, NONE), -10, Edges.BAD);
      e.due("done(0, 0, NONE), oil 0", small(3, 1, 0).done(0, 0, NONE), 0);
    });
    e.holds(16, "BAD: bits of nobody, too", () -> {
      for (int n = 0; n <= 5; n++) {
        int readers = n;
        Edges.Made made = () -> {
          OneLamp x = hallOf(5, 5);
          for (int q = 0; q < readers; q++) x.reader(q, PRINT, 1, 1);
          return x;
        };
        e.due("all of " + n, made.get().done(2, (1 << n) - 1, NONE), n);
        for (int who : new int[] {1 << n, (1 << n) + (n > 0 ? 1 : 0), 1 << n + 1, 1 << 30, MAX, -1, MIN}) {
          e.answers(made, "done(2, " + who + ", NONE) of " + n, x -> x.done(2, who, NONE), -10, Edges.BAD);
        }
      }
    });
    e.holds(16, "BAD: i is neither NONE nor a minute", () -> {
      for (int i : new int[] {-2, -5, MIN}) e.everywhere("done(1, 0, " + i + ")", x -> x.done(1, 0, i), -10, Edges.BAD);
    });
    e.holds(16, "nobody told: as WAY", () -> {
      for (int i = -1; i < 3; i++) e.due("done(2, 0, " + i + ")", small(20, 1, 8).done(2, 0, i), small(20, 1, 8).way(2, i));
    });
    e.holds(16, "no PAGES left behind them: just in time, just too late", () -> {
      e.due("5 pages in 2 minutes", small(5, 1, 8).done(2, 1, NONE), 5);
      e.quiet(() -> small(6, 1, 8), "6 pages in 2 minutes", x -> x.done(2, 1, NONE), NONE);
      e.due("17 pages in 6 minutes", small(17, 1, 8).done(6, 1, NONE), 17);
      e.quiet(() -> small(18, 1, 8), "18 pages in 6 minutes", x -> x.done(6, 1, NONE), NONE);
    });
    e.holds(16, "no PAGES left: one who has none any more", () -> {
      OneLamp x = hallOf(2, 2);
      x.reader(0, PRINT, 3, 1);
      e.due("done(0, 1, NONE)", x.done(0, 1, NONE), NONE);
      x.burn(0);
      e.due("done(0, 1, NONE)", x.done(0, 1, NONE), 0);
      e.due("done(0, 1, 0)", x.done(0, 1, 0), -5);
    });
    e.holds(16, "some READERS: those told alone", () -> {
      OneLamp x = hallOf(5, 5);
      x.reader(0, PRINT, 3, 1);
      x.reader(24, PRINT, 3, 1);
      e.due("the first", x.done(1, 1, NONE), 3);
      e.due("the second", x.done(1, 2, NONE), NONE);
      e.due("both", x.done(1, 3, NONE), NONE);
      x.lamp(24);
      e.due("the first", x.done(1, 1, NONE), NONE);
      e.due("the second", x.done(1, 2, NONE), 3);
    });
    e.holds(16, "the same among those: less WORTH than WAY's, the most of these, the first of like ones", () -> {
      OneLamp x = hallOf(2, 2);
      x.reader(3, PRINT, 5, 0);
      x.reader(0, LARGE, 20, 2);
      e.due("way", x.way(2, NONE), 16);
      e.due("done(2, 1, NONE)", x.done(2, 1, NONE), 12);
      e.due("done(2, 1, 0)", x.done(2, 1, 0), 1);
      e.due("done(2, 1, 1)", x.done(2, 1, 1), 3);
      e.due("in three minutes it need not go: 2 and 2 and 1 PAGES", x.done(3, 1, NONE), 24);
      for (int i = 0; i < 3; i++) e.due("done(3, 1, " + i + ")", x.done(3, 1, i), 0);
    });
    e.holds(16, "by HEART in the dark one may be done, too", () -> {
      OneLamp x = hallOf(5, 5);
      x.reader(0, HEART, 5, 1);
      x.burn(0);
      x.lamp(24);
      e.due("done(1, 1, NONE)", x.done(1, 1, NONE), 1);
      e.due("done(0, 1, NONE)", x.done(0, 1, NONE), NONE);
    });
    e.holds(16, "-5: not so many, of a WAY that there is", () -> {
      for (int i : new int[] {2, 3, MAX}) e.quiet(() -> small(5, 1, 8), "done(2, 1, " + i + ")", x -> x.done(2, 1, i), -5);
      e.due("the last minute", small(5, 1, 8).done(2, 1, 1), 3);
    });
    e.holds(16, "NONE: none, whichever minute is asked for", () -> {
      for (int i : new int[] {-1, 0, 1, 2, 3, MAX}) e.quiet(() -> small(6, 1, 8), "done(2, 1, " + i + ")", x -> x.done(2, 1, i), NONE);
      for (int i : new int[] {-1, 0, MAX}) e.quiet(() -> small(1, 1, 8), "done(0, 1, " + i + ")", x -> x.done(0, 1, i), NONE);
    });
    e.holds(16, "BAD ahead of NONE and -5", () -> {
      e.answers(() -> small(20, 1, 8), "done(7, 1, 9)", x -> x.done(7, 1, 9), -10, Edges.BAD);
      e.answers(() -> small(20, 1, 0), "done(1, 1, NONE), oil 0", x -> x.done(1, 1, NONE), -10, Edges.BAD);
      e.answers(() -> small(20, 1, 8), "done(0, 2, 0)", x -> x.done(0, 2, 0), -10, Edges.BAD);
      e.answers(() -> small(20, 1, 8), "done(0, 1, -2)", x -> x.done(0, 1, -2), -10, Edges.BAD);
    });
  }

  private static void told() {
    e.holds(22, "of a READER: the first, the last", () -> {
      e.due("told(0, 1)", Edges.crammed().told(0, 1), 20);
      e.due("told(4, 1)", Edges.crammed().told(4, 1), 0);
      for (int i : new int[] {MIN, -1, 5, MAX}) e.badEverywhere("told(" + i + ", 1)", x -> x.told(i, 1));
      e.badEverywhere("told(READERS, 0)", x -> x.told(x.count(0), 0));
    });
    e.holds(22, "PAGES: none to 20; what they were (0 at first)", () -> {
      OneLamp x = hallOf(2, 2);
      x.reader(1, PRINT, 20, 1);
      x.reader(2, PRINT, 20, 1);
      int was = 0;
      for (int pages = 20; pages >= 0; pages--) {
        e.due("told(1, " + pages + ")", x.told(1, pages), was);
        was = pages;
      }
      e.due("the other one", x.told(0, 0), 0);
      for (int pages : new int[] {MIN, -1, 21, 22, MAX}) {
        e.bad(Edges::busy, "told(0, " + pages + ")", y -> y.told(0, pages));
        e.bad(Edges::crammed, "told(4, " + pages + ")", y -> y.told(4, pages));
      }
    });
    e.holds(22, "minutes that may be undone stay", () -> {
      OneLamp x = Edges.busy();
      x.told(0, 5);
      e.due("count(3)", x.count(3), 3);
    });
  }

  private static void beenBounds() {
    e.holds(23, "from a SQUARE: the first, the last", () -> {
      OneLamp x = hallOf(5, 5);
      e.due("been(0, 0, 1)", x.been(0, 0, 1), 1);
      e.due("been(24, 0, 1)", x.been(24, 0, 1), 1 << 24);
      for (int q : new int[] {MIN, -1, 25, MAX}) e.badEverywhere("been(" + q + ", 0, 0)", y -> y.been(q, 0, 0));
      e.badEverywhere("been(W by H, 0, 0)", y -> y.been(y.count(5), 0, 0));
    });
    e.holds(23, "BAD: a SHELF there, too", () -> {
      e.bad(Edges::busy, "been(4, 0, 0)", x -> x.been(4, 0, 0));
      e.bad(Edges::busy, "been(10, 5, 1)", x -> x.been(10, 5, 1));
      e.bad(Edges::crammed, "been(6, 1, 1)", x -> x.been(6, 1, 1));
    });
    e.holds(23, "m minutes (0 .. 5)", () -> {
      int ways = 1;
      for (int m = 0; m <= 5; m++) {
        e.due("been(0, " + m + ", 0), 2 by 2", hallOf(2, 2).been(0, m, 0), ways);
        ways *= 3;
      }
      for (int m : new int[] {MIN, -1, 6, 7, MAX}) e.badEverywhere("been(0, " + m + ", 0)", x -> x.been(0, m, 0));
    });
    e.holds(23, "how many (0), where (1)", () -> {
      e.due("been(0, 1, 0)", hallOf(2, 2).been(0, 1, 0), 3);
      e.due("been(0, 1, 1)", hallOf(2, 2).been(0, 1, 1), 7);
      for (int what : new int[] {MIN, -1, 2, 3, MAX}) e.badEverywhere("been(0, 1, " + what + ")", x -> x.been(0, 1, what));
    });
    e.holds(23, "WAYS of no minute: one, in the end where it began", () -> {
      OneLamp x = small(20, 1, 8);
      e.due("been(2, 0, 0)", x.been(2, 0, 0), 1);
      e.due("been(2, 0, 1)", x.been(2, 0, 1), 4);
      x.told(0, 1);
      e.due("been(2, 0, 0), one page told", x.been(2, 0, 0), 0);
      e.due("been(2, 0, 1), one page told", x.been(2, 0, 1), 0);
    });
    e.holds(23, "all WAYS: from every SQUARE, inside the hall", () -> {
      for (int w = 2; w <= 5; w++) {
        for (int h = 2; h <= 5; h++) {
          OneLamp x = hallOf(w, h);
          for (int q = 0; q < w * h; q++) {
            int m = q % 6;
            long[] due = waysFrom(w, h, q, m);
            e.due(w + " by " + h + ": been(" + q + ", " + m + ", 0)", x.been(q, m, 0), due[0]);
            e.due(w + " by " + h + ": been(" + q + ", " + m + ", 1)", x.been(q, m, 1), due[1]);
          }
        }
      }
    });
    e.holds(23, "nothing changes", () -> {
      e.quiet(Edges::crammed, "been(24, 3, 0)", x -> x.been(24, 3, 0), Edges.crammed().been(24, 3, 0));
      e.quiet(Edges::busy, "been(14, 5, 1)", x -> x.been(14, 5, 1), Edges.busy().been(14, 5, 1));
    });
  }

  private static boolean isBeside(int w, int a, int b) { return Math.abs(a % w - b % w) + Math.abs(a / w - b / w) <= 1; }

  /** How many WAYS there are where nobody reads, and the bits of their ends: minute by minute, by sums. */
  private static long[] waysFrom(int w, int h, int from, int m) {
    long[] sum = new long[w * h];
    sum[from] = 1;
    for (int k = 0; k < m; k++) {
      long[] next = new long[w * h];
      for (int q = 0; q < w * h; q++) {
        for (int p = 0; p < w * h; p++) if (isBeside(w, q, p)) next[p] += sum[q];
      }
      sum = next;
    }
    long all = 0, bits = 0;
    for (int q = 0; q < w * h; q++) {
      all += sum[q];
      if (sum[q] > 0) bits |= 1L << q;
    }
    return new long[] {all, bits};
  }

  private static void been() {
    e.holds(23, "those by which all have read just so: not one PAGE more or less", () -> {
      int[] ways = {0, 0, 3, 0, 0};
      for (int pages = 0; pages < ways.length; pages++) {
        OneLamp x = small(20, 1, 8);
        x.told(0, pages);
        e.due("been(0, 1, 0), told " + pages, x.been(0, 1, 0), ways[pages]);
        e.due("been(0, 1, 1), told " + pages, x.been(0, 1, 1), ways[pages] == 0 ? 0 : 7);
      }
    });
    e.holds(23, "all have read just so: each of them", () -> {
      OneLamp x = hallOf(5, 2);
      for (int i = 0; i < 5; i++) x.reader(i, PRINT, 20, 1);
      int[] read = {3, 2, 2, 1, 1};
      for (int i = 0; i < 5; i++) x.told(i, read[i]);
      e.due("been(0, 1, 0)", x.been(0, 1, 0), 1);
      e.due("been(0, 1, 1)", x.been(0, 1, 1), 1);
      for (int i = 0; i < 5; i++) {
        x.told(i, read[i] + 1);
        e.due("one more of " + i, x.been(0, 1, 0), 0);
        x.told(i, read[i] - 1);
        e.due("one less of " + i, x.been(0, 1, 0), 0);
        x.told(i, read[i]);
      }
    });
    e.holds(23, "the end of a book: no more than it has", () -> {
      OneLamp x = small(4, 1, 8);
      x.told(0, 4);
      e.due("been(3, 2, 0): 2 and 2 pages, or more", x.been(3, 2, 0), 9);
      x.told(0, 5);
      e.due("been(3, 2, 0): more than the book has", x.been(3, 2, 0), 0);
      x.told(0, 20);
      e.due("been(3, 5, 0): more than the book has", x.been(3, 5, 0), 0);
    });
    e.holds(23, "the most that can be read in five minutes", () -> {
      OneLamp x = hallOf(2, 2);
      x.reader(3, LARGE, 20, 1);
      x.told(0, 20);
      e.due("been(3, 5, 0)", x.been(3, 5, 0), 1);
      e.due("been(3, 5, 1)", x.been(3, 5, 1), 8);
      e.due("been(3, 4, 0)", x.been(3, 4, 0), 0);
    });
    e.holds(23, "with OIL for all", () -> {
      OneLamp x = small(20, 1, 0);
      x.told(0, 15);
      e.due("been(3, 5, 0)", x.been(3, 5, 0), 1);
      x.told(0, 0);
      e.due("been(3, 5, 0), nothing told", x.been(3, 5, 0), 0);
    });
    e.holds(23, "all books as they were at first: PAGES", () -> {
      OneLamp x = small(6, 1, 8);
      x.lamp(3);
      x.told(0, 6);
      x.burn(3);
      x.burn(3);
      e.due("left", x.left(0), 0);
      e.due("been(3, 2, 0)", x.been(3, 2, 0), 1);
      e.due("been(3, 1, 0)", x.been(3, 1, 0), 0);
    });
    e.holds(23, "all books as they were at first: nobody has read in the minute ahead", () -> {
      OneLamp x = hallOf(5, 5);
      x.reader(0, HEART, 20, 1);
      x.burn(0);
      e.due("a WAY, which begins as it is now", x.way(1, NONE), 4);
      e.due("been(24, 1, 0), nothing told", x.been(24, 1, 0), 3);
      x.told(0, 1);
      e.due("been(24, 1, 0), one told", x.been(24, 1, 0), 0);
      x.told(0, 2);
      e.due("been(9, 2, 0): 1 by light and 1 by heart, 1 and 1 by light", x.been(9, 2, 0), twoOfHeart());
    });
    e.holds(23, "from a SQUARE, wherever THE LAMP is", () -> {
      OneLamp x = small(20, 1, 8);
      x.told(0, 3);
      x.lamp(3);
      e.due("been(0, 1, 0)", x.been(0, 1, 0), 0);
      x.lamp(0);
      e.due("been(3, 1, 0)", x.been(3, 1, 0), 1);
      e.due("been(3, 1, 1)", x.been(3, 1, 1), 8);
    });
    e.holds(23, "it goes to no SHELF", () -> {
      OneLamp x = lampAt(5, 5, 24);
      for (int q : new int[] {7, 11, 13, 17}) x.shelf(q, true);
      e.due("been(12, 5, 0)", x.been(12, 5, 0), 1);
      e.due("been(12, 5, 1)", x.been(12, 5, 1), 1 << 12);
      x.shelf(17, false);
      e.due("been(12, 1, 1)", x.been(12, 1, 1), 1 << 12 | 1 << 17);
    });
  }

  /** From 9, which is five steps from 0: WAYS of two minutes with two PAGES (LARGE by 2 is 1, by 4 is 2, in the dark by heart 1). */
  private static int twoOfHeart() {
    int ways = 0;
    for (int a = 0; a < 25; a++) {
      for (int b = 0; b < 25; b++) {
        if (!isBeside(5, 9, a) || !isBeside(5, a, b)) continue;
        int first = byLight(a), second = byLight(b);
        if (second == 0 && first > 0) second = 1;
        if (first + second == 2) ways++;
      }
    }
    return ways;
  }

  private static int byLight(int square) {
    int light = Math.max(0, 12 - 2 * (square % 5 + square / 5));
    return light == 0 ? 0 : light / 4 + 1;
  }

  public static void main(String[] args) {
    wayMinutes();
    wayFromNow();
    wayOfLikeOnes();
    done();
    told();
    beenBounds();
    been();
    e.end();
  }
}

/** The boundary cases of promises 1 to 8: the new object, and what a hall is told. */
public final class HallEdgesTest {
  private static final int MAX = Edges.MAX, MIN = Edges.MIN;
  private static final int PRINT = Edges.PRINT, HEART = Edges.HEART;
  private static final int[] WRONG_SIDES = {MIN, -5, -2, -1, 0, 1, 6, 7, 12, 256, MAX};
  private static final Edges e = new Edges("HallEdgesTest");

  private static OneLamp hallOf(int w, int h) { return Edges.hallOf(w, h); }

  private static void newObject() {
    e.holds(1, "W by H SQUARES (4, 4 at first)", () -> {
      OneLamp x = new OneLamp();
      e.due("count(5)", x.count(5), 16);
      e.due("light(0, 4): a row is four wide", x.light(0, 4), 10);
      e.due("light(3, 4): the ends of two rows", x.light(3, 4), 4);
      e.due("light(3, 15): four rows", x.light(3, 15), 6);
      e.bad(OneLamp::new, "light(0, 16)", y -> y.light(0, 16));
    });
    e.holds(1, "SHELVES (none at first)", () -> {
      e.due("count(1)", new OneLamp().count(1), 0);
      for (int q = 0; q < 16; q++) {
        int at = q;
        e.no(OneLamp::new, "shelf(" + q + ", false)", x -> x.shelf(at, false));
      }
    });
    e.holds(1, "nobody reads", () -> {
      e.due("count(0)", new OneLamp().count(0), 0);
      e.bad(OneLamp::new, "left(0)", x -> x.left(0));
      e.bad(OneLamp::new, "string(0, 1)", x -> x.string(0, 1));
      e.bad(OneLamp::new, "told(0, 0)", x -> x.told(0, 0));
      e.due("the first to come is 0", new OneLamp().reader(3, PRINT, 1, 1), 0);
    });
    e.holds(1, "THE LAMP is at 0 at first", () -> {
      e.due("count(6)", new OneLamp().count(6), 0);
      e.due("lamp(9)", new OneLamp().lamp(9), 0);
    });
    e.holds(1, "OIL 8 at first", () -> {
      e.due("count(2)", new OneLamp().count(2), 8);
      e.due("oil(3)", new OneLamp().oil(3), 8);
    });
    e.holds(1, "no minute, no TEXT, no IMAGE, nothing refused", () -> {
      OneLamp x = new OneLamp();
      e.statusIs(x, 0, 0, 0);
      e.due("count(3)", x.count(3), 0);
      e.due("count(4)", x.count(4), 0);
      e.no(OneLamp::new, "undo()", OneLamp::undo);
      e.no(OneLamp::new, "from(0)", y -> y.from(0));
      e.no(OneLamp::new, "from(1)", y -> y.from(1));
    });
    e.holds(1, "objects have nothing in common", () -> {
      OneLamp x = new OneLamp(), y = new OneLamp();
      long was = y.digest();
      x.reader(3, PRINT, 9, 9);
      x.shelf(5, true);
      x.burn(1);
      x.image(0);
      x.type(32, 1);
      x.lamp(99);
      e.due("digest of the other one", y.digest(), was);
      e.due("from(0) of the other one", y.from(0), OneLamp.NO);
      e.statusIs(y, 0, 1, 0);
    });
  }

  private static void hallSides() {
    e.holds(2, "2 .. 5 each: all that are taken", () -> {
      for (int w = 2; w <= 5; w++) {
        for (int h = 2; h <= 5; h++) {
          OneLamp x = new OneLamp();
          e.due("hall(" + w + ", " + h + ")", x.hall(w, h), w * h);
          e.due("count(5)", x.count(5), w * h);
          e.due("the last square", x.light(w * h - 1, 0), Math.max(0, 12 - 2 * (w + h - 2)));
          e.due("one more", x.light(w * h, 0), OneLamp.BAD);
        }
      }
    });
    e.holds(2, "2 .. 5 each: W below, above", () -> {
      for (int w : WRONG_SIDES) for (int h = 2; h <= 5; h++) refusedHall(w, h);
    });
    e.holds(2, "2 .. 5 each: H below, above", () -> {
      for (int h : WRONG_SIDES) for (int w = 2; w <= 5; w++) refusedHall(w, h);
    });
    e.holds(2, "both are wrong, though their product would do", () -> {
      int[][] wrong = {{1, 16}, {16, 1}, {-4, -4}, {-2, -2}, {6, 1}, {1, 6}, {65536, 65536}, {1 << 30, 4}, {0, 0}, {6, 6}, {MIN, MIN}, {MAX, MAX}};
      for (int[] side : wrong) refusedHall(side[0], side[1]);
    });
  }

  private static void refusedHall(int w, int h) {
    e.badEverywhere("hall(" + w + ", " + h + ")", x -> x.hall(w, h));
  }

  private static void hallAnew() {
    e.holds(2, "nothing else told: no READERS", () -> {
      OneLamp x = Edges.crammed();
      x.hall(5, 5);
      e.due("count(0)", x.count(0), 0);
      e.due("left(0)", x.left(0), OneLamp.BAD);
      e.due("the seats are free", x.reader(24, PRINT, 1, 1), 0);
    });
    e.holds(2, "nothing else told: no SHELVES", () -> {
      OneLamp x = Edges.crammed();
      x.hall(5, 5);
      e.due("count(1)", x.count(1), 0);
      e.due("shelf(6, false)", x.shelf(6, false), OneLamp.NO);
      e.due("lamp(8)", x.lamp(8), 0);
    });
    e.holds(2, "nothing else told: THE LAMP is at 0", () -> {
      OneLamp x = Edges.busy();
      x.hall(5, 3);
      e.due("count(6)", x.count(6), 0);
    });
    e.holds(2, "nothing else told: OIL is 8", () -> {
      for (int oil = 0; oil <= 12; oil += 4) {
        OneLamp x = new OneLamp();
        x.oil(oil);
        x.hall(4, 4);
        e.due("count(2)", x.count(2), 8);
      }
    });
    e.holds(2, "nothing else told: no minute may be undone", () -> {
      OneLamp x = Edges.crammed();
      x.hall(5, 5);
      e.due("count(3)", x.count(3), 0);
      e.due("undo()", x.undo(), OneLamp.NO);
    });
    e.holds(2, "nothing else told: who comes has STRENGTH 1, nothing told, has read nothing", () -> {
      OneLamp x = hallOf(2, 2);
      x.reader(0, HEART, 20, 1);
      x.string(0, 9);
      x.told(0, 9);
      x.burn(0);
      x.hall(2, 2);
      x.reader(0, HEART, 20, 1);
      e.due("digest", x.digest(), Edges.digestOf(1, 0, 8, 0, 0, 4, 0, 2, 0, 4, 20, 1, 1, 20, 0, 0, 0, 0, 0, 0));
    });
    e.holds(2, "THE TEXT, IMAGES and STATUS are no part of the hall", () -> {
      OneLamp x = Edges.crammed();
      x.lamp(-1);
      x.hall(2, 2);
      e.due("count(4)", x.count(4), 200);
      e.due("from(1)", x.from(1), 1);
      e.due("from(0)", x.from(0), 1);
      e.due("SQUARES of the image", x.count(5), 25);
      e.statusIs(x, 1, 0, 0);
    });
    e.holds(2, "SQUARE q is at x: q by W left over, y: q by W cut", () -> {
      OneLamp wide = hallOf(5, 2), tall = hallOf(2, 5);
      e.due("5 by 2: light(4, 5)", wide.light(4, 5), 2);
      e.due("5 by 2: light(4, 9)", wide.light(4, 9), 10);
      e.due("5 by 2: light(0, 4)", wide.light(0, 4), 4);
      e.due("2 by 5: light(1, 2)", tall.light(1, 2), 8);
      e.due("2 by 5: light(0, 2)", tall.light(0, 2), 10);
      e.due("2 by 5: light(0, 9)", tall.light(0, 9), 2);
    });
  }

  private static void shelf() {
    e.holds(3, "a SQUARE: the first, the last", () -> {
      for (int side = 2; side <= 5; side++) {
        OneLamp x = hallOf(side, side);
        x.lamp(1);
        int last = side * side - 1;
        e.due("shelf(0, true)", x.shelf(0, true), 1);
        e.due("shelf(last, true)", x.shelf(last, true), 1);
        e.due("count(1)", x.count(1), 2);
        e.due("shelf(0, false)", x.shelf(0, false), 1);
        e.due("shelf(last, false)", x.shelf(last, false), 1);
        e.due("count(1)", x.count(1), 0);
      }
    });
    e.holds(3, "BAD: no SQUARE", () -> {
      for (boolean is : new boolean[] {true, false}) {
        e.badEverywhere("shelf(-1, " + is + ")", x -> x.shelf(-1, is));
        e.badEverywhere("shelf(W by H, " + is + ")", x -> x.shelf(x.count(5), is));
        e.badEverywhere("shelf(32, " + is + ")", x -> x.shelf(32, is));
        e.badEverywhere("shelf(MAX, " + is + ")", x -> x.shelf(MAX, is));
        e.badEverywhere("shelf(MIN, " + is + ")", x -> x.shelf(MIN, is));
      }
      OneLamp x = hallOf(5, 5);
      x.hall(2, 2);
      e.due("a square of the hall of before", x.shelf(4, true), OneLamp.BAD);
    });
    e.holds(3, "NO: it is so", () -> {
      e.no(Edges::busy, "shelf(4, true)", x -> x.shelf(4, true));
      e.no(Edges::busy, "shelf(10, true)", x -> x.shelf(10, true));
      e.no(Edges::busy, "shelf(11, false)", x -> x.shelf(11, false));
      e.no(OneLamp::new, "shelf(15, false)", x -> x.shelf(15, false));
    });
    e.holds(3, "NO: somebody is there", () -> {
      e.no(Edges::busy, "shelf(7, true)", x -> x.shelf(7, true));
      e.no(Edges::busy, "shelf(14, true)", x -> x.shelf(14, true));
      e.no(Edges::busy, "shelf(14, false)", x -> x.shelf(14, false));
      Edges.Made done = () -> {
        OneLamp x = hallOf(2, 2);
        x.reader(1, PRINT, 1, 1);
        x.burn(1);
        x.lamp(3);
        return x;
      };
      e.due("left", done.get().left(0), 0);
      e.no(done, "one without PAGES left sits there", x -> x.shelf(1, true));
    });
    e.holds(3, "NO: THE LAMP is there", () -> {
      e.no(OneLamp::new, "shelf(0, true)", x -> x.shelf(0, true));
      e.no(Edges::busy, "shelf(8, true)", x -> x.shelf(8, true));
      e.no(Edges::busy, "shelf(8, false)", x -> x.shelf(8, false));
      e.due("where it was", Edges.busy().shelf(6, true), 1);
      OneLamp x = new OneLamp();
      x.lamp(5);
      e.due("it has been put", x.shelf(5, true), OneLamp.NO);
      e.due("from here", x.shelf(0, true), 1);
    });
    e.holds(3, "all SQUARES but THE LAMP's", () -> {
      for (int side = 2; side <= 5; side++) {
        OneLamp x = hallOf(side, side);
        x.lamp(2);
        for (int q = 0; q < side * side; q++) e.due("shelf(" + q + ")", x.shelf(q, true), q == 2 ? OneLamp.NO : 1);
        e.due("count(1)", x.count(1), side * side - 1);
        for (int q = 0; q < side * side; q++) e.due("again", x.shelf(q, true), OneLamp.NO);
        e.statusIs(x, 0, side * side + 1, 0);
      }
    });
    e.holds(3, "a SHELF put leaves no minute", () -> {
      OneLamp x = Edges.busy();
      e.due("count(3)", x.count(3), 3);
      x.shelf(0, true);
      e.due("count(3)", x.count(3), 0);
      e.due("undo()", x.undo(), OneLamp.NO);
    });
    e.holds(3, "a SHELF taken away leaves no minute", () -> {
      OneLamp x = Edges.busy();
      x.shelf(4, false);
      e.due("count(3)", x.count(3), 0);
      e.due("undo()", x.undo(), OneLamp.NO);
    });
  }

  private static void reader() {
    e.holds(4, "a SQUARE: the first, the last", () -> {
      for (int side = 2; side <= 5; side++) {
        OneLamp x = hallOf(side, side);
        e.due("reader(0)", x.reader(0, PRINT, 1, 1), 0);
        e.due("reader(last)", x.reader(side * side - 1, PRINT, 1, 1), 1);
      }
    });
    e.holds(4, "BAD: no SQUARE", () -> {
      e.badEverywhere("reader(-1)", x -> x.reader(-1, PRINT, 1, 1));
      e.badEverywhere("reader(W by H)", x -> x.reader(x.count(5), PRINT, 1, 1));
      e.badEverywhere("reader(MAX)", x -> x.reader(MAX, PRINT, 1, 1));
      e.badEverywhere("reader(MIN)", x -> x.reader(MIN, PRINT, 1, 1));
    });
    e.holds(4, "a KIND: 0 .. 5", () -> {
      OneLamp x = hallOf(5, 5);
      e.due("kind 0", x.reader(1, 0, 1, 1), 0);
      e.due("kind 5", x.reader(2, 5, 1, 1), 1);
      for (int kind : new int[] {MIN, -1, 6, 7, MAX}) e.badEverywhere("kind " + kind, y -> y.reader(3, kind, 1, 1));
    });
    e.holds(4, "PAGES (1 .. 20), all left", () -> {
      OneLamp x = hallOf(5, 5);
      e.due("1 page", x.reader(1, PRINT, 1, 1), 0);
      e.due("20 pages", x.reader(2, PRINT, 20, 1), 1);
      e.due("left(0)", x.left(0), 1);
      e.due("left(1)", x.left(1), 20);
      for (int pages : new int[] {MIN, -1, 0, 21, 22, MAX}) e.badEverywhere(pages + " pages", y -> y.reader(3, PRINT, pages, 1));
    });
    e.holds(4, "WORTH (0 .. 9 a page)", () -> {
      OneLamp x = hallOf(5, 5);
      e.due("worth 0", x.reader(1, PRINT, 1, 0), 0);
      e.due("nothing", x.stand(1), 0);
      e.due("worth 9", x.reader(2, PRINT, 1, 9), 1);
      e.due("nine", x.stand(1), 9);
      for (int worth : new int[] {MIN, -1, 10, 11, MAX}) e.badEverywhere("worth " + worth, y -> y.reader(3, PRINT, 1, worth));
    });
    e.holds(4, "NO: a SHELF is there", () -> {
      e.no(Edges::busy, "reader(4)", x -> x.reader(4, PRINT, 1, 1));
      OneLamp x = Edges.busy();
      x.shelf(4, false);
      e.due("the shelf is gone", x.reader(4, PRINT, 1, 1), 2);
    });
    e.holds(4, "NO: somebody else is there", () -> {
      e.no(Edges::busy, "reader(7)", x -> x.reader(7, PRINT, 1, 1));
      e.no(Edges::busy, "reader(14)", x -> x.reader(14, PRINT, 1, 1));
    });
    e.holds(4, "THE LAMP may be where somebody sits", () -> e.due("reader(0)", new OneLamp().reader(0, PRINT, 1, 1), 0));
    e.holds(4, "READERS 0 .. 4, as they come; FULL: 5", () -> {
      OneLamp x = hallOf(5, 5);
      for (int i = 0; i < 5; i++) {
        e.due("count(0)", x.count(0), i);
        e.due("refused", x.reader(30, PRINT, 1, 1), OneLamp.BAD);
        e.due("reader", x.reader(20 - i, i, 1 + i, 1), i);
      }
      e.due("count(0)", x.count(0), 5);
      for (int i = 0; i < 5; i++) e.due("left", x.left(i), 1 + i);
      e.full(Edges::crammed, "the sixth", y -> y.reader(1, PRINT, 1, 1));
      e.full(Edges::crammed, "the sixth, at THE LAMP", y -> y.reader(y.count(6), PRINT, 1, 1));
      e.full(Edges::crammed, "the sixth, the most of all", y -> y.reader(23, 5, 20, 9));
      x.hall(5, 5);
      e.due("from 0 again", x.reader(0, PRINT, 1, 1), 0);
    });
    e.holds(4, "the first of: BAD ahead of NO", () -> {
      e.bad(Edges::busy, "on a shelf, kind 6", x -> x.reader(4, 6, 1, 1));
      e.bad(Edges::busy, "on a shelf, no pages", x -> x.reader(4, 0, 0, 1));
      e.bad(Edges::busy, "on somebody, worth 10", x -> x.reader(7, 0, 1, 10));
    });
    e.holds(4, "the first of: BAD ahead of FULL", () -> {
      e.bad(Edges::crammed, "no square", x -> x.reader(25, 0, 1, 1));
      e.bad(Edges::crammed, "21 pages", x -> x.reader(1, 0, 21, 1));
    });
    e.holds(4, "the first of: NO ahead of FULL", () -> {
      e.no(Edges::crammed, "on a shelf", x -> x.reader(6, 0, 1, 1));
      e.no(Edges::crammed, "on somebody", x -> x.reader(24, 0, 1, 1));
    });
    e.holds(4, "a seat at every SQUARE", () -> {
      Edges.Made seats = () -> {
        OneLamp x = hallOf(2, 2);
        for (int q = 0; q < 4; q++) x.reader(q, PRINT, 1, 1);
        return x;
      };
      e.due("count(0)", seats.get().count(0), 4);
      for (int q = 0; q < 4; q++) {
        int at = q;
        e.no(seats, "the fifth", x -> x.reader(at, PRINT, 1, 1));
      }
    });
    e.holds(4, "a READER who comes leaves no minute", () -> {
      OneLamp x = Edges.busy();
      e.due("reader", x.reader(0, PRINT, 1, 1), 2);
      e.due("count(3)", x.count(3), 0);
      e.due("undo()", x.undo(), OneLamp.NO);
    });
  }

  private static void lamp() {
    e.holds(5, "a SQUARE: every one, from every one", () -> {
      OneLamp x = hallOf(5, 5);
      int was = 0;
      for (int q = 24; q >= 0; q--) {
        e.due("lamp(" + q + ")", x.lamp(q), was);
        e.due("count(6)", x.count(6), q);
        was = q;
      }
      e.due("where it is", x.lamp(0), 0);
    });
    e.holds(5, "BAD: -10", () -> {
      e.everywhere("lamp(-1)", x -> x.lamp(-1), -10, Edges.BAD);
      e.everywhere("lamp(W by H)", x -> x.lamp(x.count(5)), -10, Edges.BAD);
      e.everywhere("lamp(MAX)", x -> x.lamp(MAX), -10, Edges.BAD);
      e.everywhere("lamp(MIN)", x -> x.lamp(MIN), -10, Edges.BAD);
    });
    e.holds(5, "NO: -20: a SHELF", () -> {
      e.answers(Edges::busy, "lamp(4)", x -> x.lamp(4), -20, Edges.NO);
      e.answers(Edges::crammed, "lamp(8)", x -> x.lamp(8), -20, Edges.NO);
    });
    e.holds(5, "it may be where somebody sits", () -> {
      OneLamp x = Edges.busy();
      e.due("lamp(14)", x.lamp(14), 8);
      e.due("lamp(7)", x.lamp(7), 14);
    });
    e.holds(5, "it is put: no minute goes by, those that may be undone stay", () -> {
      OneLamp x = Edges.busy();
      x.lamp(14);
      e.due("oil", x.count(2), 2);
      e.due("left", x.left(1), 6);
      e.due("count(3)", x.count(3), 3);
      x.undo();
      e.due("as ahead of the minute", x.count(6), 7);
    });
  }

  private static void oil() {
    e.holds(6, "OIL (0 .. 12 minutes)", () -> {
      OneLamp x = new OneLamp();
      int was = 8;
      for (int n = 0; n <= 12; n++) {
        e.due("oil(" + n + ")", x.oil(n), was);
        e.due("count(2)", x.count(2), n);
        was = n;
      }
    });
    e.holds(6, "BAD", () -> {
      for (int n : new int[] {MIN, -1, 13, 14, MAX}) e.badEverywhere("oil(" + n + ")", x -> x.oil(n));
    });
    e.holds(6, "minutes that may be undone stay", () -> {
      OneLamp x = Edges.busy();
      e.due("oil(12)", x.oil(12), 2);
      e.due("count(3)", x.count(3), 3);
      x.undo();
      e.due("as ahead of the minute", x.count(2), 3);
    });
  }

  private static void string() {
    e.holds(7, "STRENGTH (0 .. 9; 1 at first)", () -> {
      OneLamp x = new OneLamp();
      x.reader(3, PRINT, 1, 1);
      x.reader(4, PRINT, 1, 1);
      int was = 1;
      for (int v = 0; v <= 9; v++) {
        e.due("string(1, " + v + ")", x.string(1, v), was);
        was = v;
      }
      e.due("the other one", x.string(0, 5), 1);
      for (int v : new int[] {MIN, -1, 10, 11, MAX}) {
        e.bad(Edges::busy, "string(0, " + v + ")", y -> y.string(0, v));
        e.bad(Edges::crammed, "string(4, " + v + ")", y -> y.string(4, v));
      }
    });
    e.holds(7, "of a READER: the first, the last", () -> {
      e.due("string(0, 0)", Edges.crammed().string(0, 0), 1);
      e.due("string(4, 0)", Edges.crammed().string(4, 0), 9);
      for (int i : new int[] {MIN, -1, 5, MAX}) e.badEverywhere("string(" + i + ", 1)", x -> x.string(i, 1));
      e.badEverywhere("string(READERS, 1)", x -> x.string(x.count(0), 1));
    });
  }

  private static void stringStays() {
    e.holds(7, "minutes that may be undone stay", () -> {
      OneLamp x = Edges.busy();
      e.due("string(1, 3)", x.string(1, 3), 1);
      e.due("count(3)", x.count(3), 3);
      e.due("undo()", x.undo(), 1);
    });
  }

  private static void light() {
    e.holds(8, "BAD: at is no SQUARE", () -> {
      for (int q : new int[] {MIN, -1, 25, MAX}) e.badEverywhere("light(" + q + ", 0)", x -> x.light(q, 0));
      e.badEverywhere("light(W by H, 0)", x -> x.light(x.count(5), 0));
    });
    e.holds(8, "BAD: lamp is no SQUARE", () -> {
      for (int q : new int[] {MIN, -1, 25, MAX}) e.badEverywhere("light(0, " + q + ")", x -> x.light(0, q));
      e.badEverywhere("light(0, W by H)", x -> x.light(0, x.count(5)));
    });
    e.holds(8, "12 less 2 for each STEP (0 at least)", () -> {
      int[] far = {0, 1, 2, 3, 4, 9, 14, 19, 24};
      for (int steps = 0; steps < far.length; steps++) {
        int due = Math.max(0, 12 - 2 * steps);
        e.due("light(0, " + far[steps] + ")", hallOf(5, 5).light(0, far[steps]), due);
        e.due("light(" + far[steps] + ", 0)", hallOf(5, 5).light(far[steps], 0), due);
      }
    });
    e.holds(8, "less 4 for each SHELF strictly between, in one row", () -> {
      OneLamp x = hallOf(5, 5);
      x.lamp(24);
      x.shelf(11, true);
      int[][] due = {{10, 12, 4}, {12, 10, 4}, {10, 13, 2}, {10, 14, 0}, {14, 10, 0}, {10, 11, 10}, {11, 12, 10}, {11, 13, 8}, {13, 11, 8}, {12, 14, 8}, {14, 11, 6}};
      for (int[] d : due) e.due("light(" + d[0] + ", " + d[1] + ")", x.light(d[0], d[1]), d[2]);
    });
    e.holds(8, "less 4 for each SHELF strictly between, in one column", () -> {
      OneLamp x = hallOf(5, 5);
      x.lamp(24);
      x.shelf(7, true);
      int[][] due = {{2, 12, 4}, {12, 2, 4}, {2, 17, 2}, {2, 22, 0}, {22, 2, 0}, {2, 7, 10}, {7, 12, 10}, {7, 17, 8}, {17, 7, 8}, {12, 22, 8}, {22, 7, 6}};
      for (int[] d : due) e.due("light(" + d[0] + ", " + d[1] + ")", x.light(d[0], d[1]), d[2]);
    });
    e.holds(8, "0 at least behind the SHELVES, too", () -> {
      OneLamp x = hallOf(5, 5);
      x.lamp(24);
      for (int q : new int[] {1, 2, 3, 5, 10, 15}) x.shelf(q, true);
      int[][] pairs = {{0, 3}, {0, 4}, {4, 0}, {1, 4}, {0, 15}, {0, 20}, {20, 0}, {5, 20}};
      for (int[] p : pairs) e.due("light(" + p[0] + ", " + p[1] + ")", x.light(p[0], p[1]), 0);
      e.due("one alone", x.light(0, 2), 4);
    });
    e.holds(8, "between both: not by their numbers, where a row ends", () -> {
      OneLamp x = hallOf(5, 5);
      x.lamp(24);
      x.shelf(4, true);
      x.shelf(5, true);
      e.due("light(3, 6)", x.light(3, 6), 6);
      e.due("light(6, 3)", x.light(6, 3), 6);
      e.due("light(3, 13): a column, shelves aside", x.light(3, 13), 8);
      e.due("light(10, 14): a row, shelves aside", x.light(10, 14), 4);
    });
    e.holds(8, "of others half, if a SHELF is at both corners", () -> {
      int[][] due = {{0, 6, 4}, {0, 7, 3}, {0, 12, 2}, {0, 13, 1}, {0, 18, 0}, {0, 24, 0}, {4, 8, 4}, {4, 12, 2}, {24, 18, 4}, {20, 12, 2}};
      for (int[] d : due) {
        int one = d[0] / 5 * 5 + d[1] % 5, other = d[1] / 5 * 5 + d[0] % 5;
        OneLamp x = hallOf(5, 5);
        x.lamp(d[0]);
        x.shelf(one, true);
        x.shelf(other, true);
        e.due("light(" + d[0] + ", " + d[1] + ")", x.light(d[0], d[1]), d[2]);
        e.due("light(" + d[1] + ", " + d[0] + ")", x.light(d[1], d[0]), d[2]);
      }
    });
    e.holds(8, "of others: a SHELF at one corner alone takes nothing", () -> {
      for (int corner : new int[] {2, 10}) {
        OneLamp x = hallOf(5, 5);
        x.shelf(corner, true);
        e.due("light(0, 12)", x.light(0, 12), 4);
        e.due("light(12, 0)", x.light(12, 0), 4);
      }
    });
    e.holds(8, "of others: SHELVES between that are no corners take nothing", () -> {
      OneLamp x = hallOf(5, 5);
      for (int q : new int[] {1, 5, 6, 7, 11}) x.shelf(q, true);
      e.due("light(0, 12)", x.light(0, 12), 4);
      e.due("light(12, 0)", x.light(12, 0), 4);
      e.due("light(2, 10): shelves aside", x.light(2, 10), 4);
    });
    e.holds(8, "of others alone: in one row or column nothing is halved", () -> {
      OneLamp x = hallOf(5, 5);
      x.lamp(24);
      for (int q : new int[] {6, 8, 16}) x.shelf(q, true);
      e.due("light(6, 8): both are shelves", x.light(6, 8), 8);
      e.due("light(6, 16): both are shelves", x.light(6, 16), 8);
      e.due("light(6, 6): a shelf itself", x.light(6, 6), 12);
    });
    e.holds(8, "of a lamp, whatever OIL THE LAMP has", () -> {
      OneLamp x = new OneLamp();
      x.oil(0);
      e.due("light(0, 0)", x.light(0, 0), 12);
      e.due("light(15, 10)", x.light(15, 10), 8);
    });
    e.holds(8, "nothing changes", () -> e.everywhere("light(1, 0)", x -> x.light(1, 0), 10, Edges.QUIET));
  }

  public static void main(String[] args) {
    newObject();
    hallSides();
    hallAnew();
    shelf();
    reader();
    lamp();
    oil();
    string();
    stringStays();
    light();
    e.end();
  }
}

/** The boundary cases of promises 24 to 28: IMAGES, STATUS, what there is, the digest. */
public final class StateEdgesTest {
  private static final int MAX = Edges.MAX, MIN = Edges.MIN;
  private static final int PRINT = Edges.PRINT, LARGE = Edges.LARGE, HEART = Edges.HEART;
  private static final Edges e = new Edges("StateEdgesTest");

  private static OneLamp hallOf(int w, int h) { return Edges.hallOf(w, h); }

  private static void image() {
    e.holds(24, "IMAGES 0, 1", () -> {
      e.due("image(0)", new OneLamp().image(0), 1);
      e.due("image(1)", new OneLamp().image(1), 1);
      for (int i : new int[] {MIN, -1, 2, 3, MAX}) e.badEverywhere("image(" + i + ")", x -> x.image(i));
    });
    e.holds(24, "an IMAGE is kept: the hall itself does not change", () -> {
      for (int i = 0; i < 2; i++) {
        OneLamp x = Edges.crammed(), y = Edges.crammed();
        x.image(i);
        for (int k = 0; k < 13; k++) {
          e.due("digest", x.digest(), y.digest());
          e.due("undo()", x.undo(), y.undo());
        }
      }
    });
    e.holds(24, "an IMAGE is kept: the newer one in the place of the other", () -> {
      OneLamp x = new OneLamp();
      for (int oil = 1; oil <= 3; oil++) {
        x.oil(oil);
        x.image(0);
      }
      x.oil(9);
      x.from(0);
      e.due("OIL", x.count(2), 3);
    });
    e.holds(24, "each IMAGE for itself", () -> {
      OneLamp x = new OneLamp();
      x.oil(1);
      x.image(0);
      x.oil(2);
      x.image(1);
      x.from(0);
      e.due("OIL of 0", x.count(2), 1);
      x.from(1);
      e.due("OIL of 1", x.count(2), 2);
      x.image(0);
      x.oil(3);
      x.from(0);
      e.due("OIL of 0", x.count(2), 2);
    });
    e.holds(24, "an IMAGE of an empty hall", () -> {
      OneLamp x = new OneLamp();
      long first = x.digest();
      x.image(1);
      x.hall(5, 5);
      x.reader(24, PRINT, 1, 1);
      e.due("from(1)", x.from(1), 1);
      e.due("digest", x.digest(), first);
    });
  }

  private static void from() {
    e.holds(25, "BAD", () -> {
      for (int i : new int[] {MIN, -1, 2, 3, MAX}) e.badEverywhere("from(" + i + ")", x -> x.from(i));
    });
    e.holds(25, "NO: none was kept", () -> {
      e.no(OneLamp::new, "from(0)", x -> x.from(0));
      e.no(OneLamp::new, "from(1)", x -> x.from(1));
      e.no(Edges::busy, "the other one was kept", x -> x.from(1));
      OneLamp x = new OneLamp();
      x.image(1);
      e.due("from(0), the other one was kept", x.from(0), OneLamp.NO);
      x.image(2);
      e.due("from(0), one was refused", x.from(0), OneLamp.NO);
    });
    e.holds(25, "keep all: SQUARES, SHELVES, READERS, THE LAMP, OIL, strings, what was told, who read by LIGHT", () -> {
      OneLamp x = Edges.crammed();
      x.lamp(12);
      x.burn(12);
      long was = x.digest();
      x.image(0);
      x.hall(3, 3);
      x.reader(0, LARGE, 9, 9);
      x.from(0);
      e.due("digest", x.digest(), was);
      x.string(4, 0);
      x.told(0, 0);
      x.oil(0);
      x.burn(12);
      x.shelf(0, true);
      x.lamp(23);
      x.from(0);
      e.due("digest", x.digest(), was);
    });
    e.holds(25, "keep all: the sides of the hall, for WAYS and light", () -> {
      for (int[] other : new int[][] {{5, 2}, {2, 5}, {2, 2}, {5, 5}}) {
        OneLamp x = hallOf(3, 5);
        x.image(0);
        x.hall(other[0], other[1]);
        x.from(0);
        e.due("been(12, 2, 0)", x.been(12, 2, 0), hallOf(3, 5).been(12, 2, 0));
        e.due("been(8, 2, 1)", x.been(8, 2, 1), hallOf(3, 5).been(8, 2, 1));
        e.due("light(2, 3)", x.light(2, 3), 6);
        x.lamp(11);
        e.due("burn(14)", x.burn(14), 0);
        e.due("burn(15)", x.burn(15), OneLamp.BAD);
      }
    });
    e.holds(25, "minutes that may be undone they keep: all twelve", () -> {
      OneLamp x = Edges.crammed(), y = Edges.crammed();
      x.image(0);
      x.hall(2, 2);
      for (int i = 0; i < 13; i++) x.burn(i % 2);
      x.from(0);
      e.due("count(3)", x.count(3), 12);
      for (int i = 0; i < 12; i++) {
        e.due("undo()", x.undo(), 1);
        y.undo();
        e.due("digest", x.digest(), y.digest());
      }
      e.due("undo()", x.undo(), OneLamp.NO);
    });
    e.holds(25, "minutes that may be undone they keep: none, where there were none", () -> {
      OneLamp x = new OneLamp();
      x.image(0);
      x.burn(1);
      x.burn(2);
      x.from(0);
      e.due("count(3)", x.count(3), 0);
      e.due("undo()", x.undo(), OneLamp.NO);
    });
    e.holds(25, "an IMAGE stays as it is, whatever goes on from it", () -> {
      OneLamp x = Edges.busy();
      x.image(1);
      long was = x.digest();
      for (int round = 0; round < 3; round++) {
        x.from(1);
        e.due("digest", x.digest(), was);
        x.undo();
        x.burn(x.count(6));
        x.burn(x.count(6));
        x.shelf(0, true);
        x.reader(1, PRINT, 4, 4);
        x.string(0, 7);
      }
      x.from(1);
      for (int i = 0; i < 3; i++) e.due("undo()", x.undo(), 1);
    });
    e.holds(25, "all but THE TEXT", () -> {
      OneLamp x = new OneLamp();
      Edges.type(x, "hall 2 3;");
      x.image(0);
      x.clear();
      Edges.type(x, "hall 5 5;oil 1;");
      x.from(0);
      e.due("count(4)", x.count(4), 15);
      e.due("read()", x.read(), 2);
      e.due("SQUARES", x.count(5), 25);
    });
    e.holds(25, "all but STATUS", () -> {
      OneLamp x = new OneLamp();
      x.lamp(99);
      x.image(0);
      x.lamp(99);
      x.undo();
      for (int i = 0; i < 25; i++) x.type(0, 8);
      x.type(0, 1);
      x.from(0);
      e.statusIs(x, 2, 1, 1);
    });
    e.holds(25, "all but IMAGES", () -> {
      OneLamp x = new OneLamp();
      x.image(0);
      x.oil(3);
      x.image(1);
      x.from(0);
      e.due("from(1): kept behind the other one", x.from(1), 1);
      e.due("OIL", x.count(2), 3);
    });
  }

  private static void statusBounds() {
    e.holds(26, "BAD (0), NO (1), FULL (2). -1: another what", () -> {
      for (int what : new int[] {MIN, -3, -2, -1, 3, 4, MAX}) e.everywhere("status(" + what + ")", x -> x.status(what), -1, Edges.BAD);
    });
    e.holds(26, "another what counts as BAD", () -> {
      OneLamp x = new OneLamp();
      for (int i = 1; i <= 5; i++) {
        x.status(3);
        e.due("status(0)", x.status(0), i);
      }
      e.statusIs(x, 5, 0, 0);
    });
    e.holds(26, "nothing is refused: none", () -> {
      e.statusIs(new OneLamp(), 0, 0, 0);
      e.statusIs(Edges.busy(), 0, 0, 0);
      e.statusIs(Edges.crammed(), 0, 0, 0);
    });
    e.holds(26, "status itself, asked as told, counts nothing", () -> {
      for (int w = 0; w < 3; w++) {
        int what = w;
        e.everywhere("status(" + what + ")", x -> x.status(what), 0, Edges.QUIET);
      }
    });
  }

  private static void statusReasons() {
    e.holds(26, "each answer told so is such a one: BAD", () -> {
      OneLamp x = Edges.busy();
      Edges.Call[] bad = {
        y -> y.hall(1, 1), y -> y.shelf(15, true), y -> y.reader(15, 0, 1, 1), y -> y.lamp(15), y -> y.oil(13), y -> y.string(2, 1),
        y -> y.light(15, 0), y -> y.type(0, 9), y -> y.burn(15), y -> y.left(2), y -> y.way(7, 0), y -> y.done(7, 0, 0),
        y -> y.stand(2), y -> y.two(2), y -> y.rest(2), y -> y.told(2, 0), y -> y.been(15, 0, 0), y -> y.image(2), y -> y.from(2),
        y -> y.status(3), y -> y.count(7),
      };
      for (int i = 0; i < bad.length; i++) {
        bad[i].on(x);
        e.due("status(0) behind " + (i + 1), x.status(0), i + 1);
      }
      e.statusIs(x, bad.length, 0, 0);
    });
    e.holds(26, "each answer told so is such a one: NO", () -> {
      OneLamp x = hallOf(2, 2);
      for (int q = 1; q < 4; q++) x.shelf(q, true);
      Edges.Call[] no = {y -> y.shelf(1, true), y -> y.reader(1, 0, 1, 1), y -> y.lamp(1), y -> y.burn(1), OneLamp::undo, y -> y.two(0), y -> y.from(0)};
      for (int i = 0; i < no.length; i++) {
        no[i].on(x);
        e.due("status(1) behind " + (i + 1), x.status(1), i + 1);
      }
      e.statusIs(x, 0, no.length, 0);
    });
    e.holds(26, "each answer told so is such a one: FULL", () -> {
      OneLamp x = Edges.crammed();
      x.reader(1, 0, 1, 1);
      e.due("status(2)", x.status(2), 1);
      x.type(0, 1);
      e.statusIs(x, 0, 0, 2);
    });
    e.holds(26, "-5, NONE, the answers of read are none of them", () -> {
      OneLamp x = hallOf(5, 2);
      x.reader(0, PRINT, 20, 1);
      x.reader(1, PRINT, 20, 1);
      e.due("way(1, 1)", x.way(1, 1), -5);
      e.due("done(1, 1, NONE)", x.done(1, 1, -1), OneLamp.NONE);
      e.due("done(1, 0, 1)", x.done(1, 0, 1), -5);
      e.due("seats()", x.seats(), OneLamp.NONE);
      e.due("moved()", x.moved(), OneLamp.NONE);
      e.due("rest(0)", x.rest(0), OneLamp.NONE);
      e.due("read()", x.read(), -10);
      Edges.type(x, "hall 6 6;");
      e.due("read()", x.read(), -1000);
      e.statusIs(x, 0, 0, 0);
    });
    e.holds(26, "hall, read, clear, undo do not make it less", () -> {
      OneLamp x = Edges.busy();
      x.lamp(99);
      x.lamp(4);
      x.hall(2, 2);
      x.read();
      x.clear();
      x.burn(0);
      x.undo();
      e.statusIs(x, 1, 1, 0);
    });
    e.holds(26, "as many as 511 calls", () -> {
      OneLamp x = new OneLamp();
      for (int i = 0; i < 511; i++) x.oil(13);
      e.due("status(0)", x.status(0), 511);
    });
  }

  private static void count() {
    e.holds(27, "what: 0 .. 6. BAD", () -> {
      for (int what : new int[] {MIN, -1, 7, 8, MAX}) e.badEverywhere("count(" + what + ")", x -> x.count(what));
    });
    e.holds(27, "how many: of a new object", () -> counts(new OneLamp(), 0, 0, 8, 0, 0, 16, 0));
    e.holds(27, "how many: of one that can take no more", () -> {
      OneLamp x = Edges.crammed();
      counts(x, 5, 2, 7, 12, 200, 25, 7);
      x.oil(12);
      for (int q = 0; q < 25; q++) x.shelf(q, true);
      counts(x, 5, 19, 12, 0, 200, 25, 7);
      x = hallOf(5, 5);
      x.lamp(24);
      for (int q = 0; q < 24; q++) x.shelf(q, true);
      counts(x, 0, 24, 8, 0, 0, 25, 24);
    });
    e.holds(27, "how many: the least", () -> {
      OneLamp x = hallOf(2, 2);
      x.oil(0);
      counts(x, 0, 0, 0, 0, 0, 4, 0);
    });
    e.holds(27, "nothing changes", () -> {
      for (int w = 0; w <= 6; w++) {
        int what = w;
        e.quiet(Edges::crammed, "count(" + what + ")", x -> x.count(what), Edges.crammed().count(what));
      }
    });
  }

  private static void counts(OneLamp x, int... due) {
    for (int what = 0; what <= 6; what++) e.due("count(" + what + ")", x.count(what), due[what]);
  }

  /** A hall of 2 by 2 with one READER, of which the digest is told by what may change in it. */
  private static long one(OneLamp x, int kind, int pages, int lit) {
    return Edges.digestOf(1, 0, x.count(2), x.count(3), x.count(4), 4, x.count(6), 2, 3, kind, pages, 5, 1, x.left(0), lit, 0, 0, 0, 0, 0);
  }

  private static OneLamp oneOf(int w, int h, int seat, int kind, int pages) {
    OneLamp x = hallOf(w, h);
    x.reader(seat, kind, pages, 5);
    return x;
  }

  private static void digest() {
    e.holds(28, "of a new object, of the least and the greatest hall", () -> {
      for (int[] side : new int[][] {{4, 4}, {2, 2}, {5, 5}, {2, 5}, {5, 2}}) {
        int squares = side[0] * side[1];
        int[] row = new int[8 + squares];
        int[] first = {0, 0, 8, 0, 0, squares, 0, side[0]};
        System.arraycopy(first, 0, row, 0, 8);
        OneLamp x = new OneLamp();
        if (side[0] != 4) x.hall(side[0], side[1]);
        e.due("digest", x.digest(), Edges.digestOf(row));
      }
    });
    e.holds(28, "count(0) to count(6), W, of READERS all, of SQUARES all, in this order", () -> {
      OneLamp x = hallOf(3, 2);
      x.lamp(4);
      x.oil(11);
      x.shelf(0, true);
      x.shelf(5, true);
      x.reader(2, LARGE, 20, 9);
      x.reader(3, PRINT, 1, 0);
      x.string(0, 9);
      x.string(1, 0);
      x.told(0, 20);
      x.burn(4);
      x.burn(1);
      x.type(0, 3);
      e.due("digest", x.digest(), Edges.digestOf(2, 2, 9, 2, 3, 6, 1, 3, 2, 2, 20, 9, 9, 14, 1, 20, 3, 0, 1, 0, 0, 0, 0, 0, 1, 0, 0, 0, 0, 1));
    });
    e.holds(28, "read some by LIGHT in the minute ahead: 0 ahead of all minutes", () -> {
      OneLamp x = oneOf(2, 2, 3, PRINT, 20);
      e.due("digest", x.digest(), one(x, PRINT, 20, 0));
    });
    e.holds(28, "read some by LIGHT in the minute ahead: 1, of every KIND", () -> {
      for (int kind = 0; kind <= 5; kind++) {
        OneLamp x = oneOf(2, 2, 3, kind, 20);
        x.lamp(3);
        x.burn(3);
        e.due("kind " + kind, x.digest(), one(x, kind, 20, 1));
      }
    });
    e.holds(28, "read some: 0, if there was LIGHT, but nothing was read", () -> {
      OneLamp x = oneOf(2, 2, 3, Edges.GREEK, 20);
      x.burn(0);
      e.due("GREEK by 8", x.digest(), one(x, Edges.GREEK, 20, 0));
      x = oneOf(2, 2, 3, PRINT, 2);
      x.burn(0);
      e.due("the last pages", x.digest(), one(x, PRINT, 2, 1));
      x.burn(0);
      e.due("none is left", x.digest(), one(x, PRINT, 2, 0));
    });
    e.holds(28, "read some by LIGHT: 0, if it was by heart", () -> {
      OneLamp x = oneOf(2, 2, 3, HEART, 20);
      x.oil(1);
      x.burn(0);
      e.due("by LIGHT", x.digest(), one(x, HEART, 20, 1));
      e.due("by heart", x.burn(0), 1);
      e.due("by heart", x.digest(), one(x, HEART, 20, 0));
    });
    e.holds(28, "read some in the minute ahead: it stays until another one", () -> {
      OneLamp x = oneOf(2, 2, 3, PRINT, 20);
      x.burn(0);
      x.lamp(1);
      x.oil(0);
      x.string(0, 1);
      x.undo();
      e.due("undone", x.digest(), one(x, PRINT, 20, 0));
      x.burn(0);
      x.lamp(2);
      x.oil(0);
      e.due("put elsewhere, without oil", x.digest(), one(x, PRINT, 20, 1));
      x.burn(2);
      e.due("a dark minute", x.digest(), one(x, PRINT, 20, 0));
    });
    e.holds(28, "read some by LIGHT: however little there was", () -> {
      OneLamp x = hallOf(5, 5);
      x.reader(0, LARGE, 20, 5);
      x.lamp(13);
      x.shelf(3, true);
      x.shelf(10, true);
      e.due("LIGHT", x.light(0, 13), 1);
      e.due("burn(13)", x.burn(13), 1);
      e.due("digest", x.digest(), Edges.digestOf(1, 2, 7, 1, 0, 25, 13, 5, 0, LARGE, 20, 5, 1, 19, 1, 0,
          0, 0, 0, 1, 0, 0, 0, 0, 0, 0, 1, 0, 0, 0, 0, 0, 0, 0, 0, 0, 0, 0, 0, 0, 0));
    });
    e.holds(28, "read some: both, one behind the other", () -> {
      OneLamp x = hallOf(2, 2);
      x.reader(0, PRINT, 20, 1);
      x.reader(1, PRINT, 20, 1);
      x.burn(0);
      e.due("digest", x.digest(), Edges.digestOf(2, 0, 7, 1, 0, 4, 0, 2, 0, 0, 20, 1, 1, 17, 1, 0, 1, 0, 20, 1, 1, 18, 1, 0, 0, 0, 0, 0));
    });
    e.holds(28, "read some: each for himself; who comes has not", () -> {
      OneLamp x = hallOf(5, 2);
      x.reader(0, PRINT, 20, 1);
      x.reader(9, PRINT, 20, 1);
      x.burn(0);
      x.reader(1, PRINT, 20, 1);
      e.due("digest", x.digest(), Edges.digestOf(3, 0, 7, 0, 0, 10, 0, 5, 0, 0, 20, 1, 1, 17, 1, 0, 9, 0, 20, 1, 1, 20, 0, 0, 1, 0, 20, 1, 1, 20, 0, 0,
          0, 0, 0, 0, 0, 0, 0, 0, 0, 0));
    });
    e.holds(28, "SQUARES: every one of them", () -> {
      for (int q = 1; q < 25; q++) {
        int[] row = new int[8 + 25];
        int[] first = {0, 1, 8, 0, 0, 25, 0, 5};
        System.arraycopy(first, 0, row, 0, 8);
        row[8 + q] = 1;
        OneLamp x = hallOf(5, 5);
        x.shelf(q, true);
        e.due("a SHELF at " + q, x.digest(), Edges.digestOf(row));
      }
    });
    e.holds(28, "STATUS, IMAGES, the bytes of THE TEXT have no part in it", () -> {
      OneLamp x = new OneLamp(), y = new OneLamp();
      x.type(65, 1);
      y.type(66, 1);
      y.image(0);
      y.lamp(99);
      e.due("digest", y.digest(), x.digest());
    });
    e.holds(28, "nothing changes, nothing is refused", () -> {
      e.everywhere("digest(), twice", x -> x.digest() == x.digest() ? 1 : 0, 1, Edges.QUIET);
    });
  }

  public static void main(String[] args) {
    image();
    from();
    statusBounds();
    statusReasons();
    count();
    digest();
    e.end();
  }
}

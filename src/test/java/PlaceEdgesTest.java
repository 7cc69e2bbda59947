/** The boundary cases of promises 17 to 21: where one lamp, two lamps stand best, SEATS, SHELF, REST. */
public final class PlaceEdgesTest {
  private static final int MAX = Edges.MAX, MIN = Edges.MIN;
  private static final int PRINT = Edges.PRINT, LARGE = Edges.LARGE, GREEK = Edges.GREEK, HEART = Edges.HEART, DUTIFUL = Edges.DUTIFUL;
  private static final int NONE = OneLamp.NONE;
  private static final Edges e = new Edges("PlaceEdgesTest");

  private static OneLamp hallOf(int w, int h) { return Edges.hallOf(w, h); }

  /** READERS of PRINT with 20 PAGES, by SQUARE and WORTH in turn. */
  private static OneLamp sit(OneLamp x, int... seatAndWorth) {
    for (int i = 0; i + 1 < seatAndWorth.length; i += 2) x.reader(seatAndWorth[i], PRINT, 20, seatAndWorth[i + 1]);
    return x;
  }

  /** SHELVES wherever nobody sits and THE LAMP is not, but on those told. */
  private static OneLamp shelvesBut(OneLamp x, int... open) {
    for (int q = 0; q < x.count(5); q++) {
      boolean put = true;
      for (int o : open) put &= o != q;
      if (put) x.shelf(q, true);
    }
    return x;
  }

  private static OneLamp shelves(OneLamp x, int... squares) {
    for (int q : squares) e.due("shelf(" + q + ")", x.shelf(q, true), 1);
    return x;
  }

  private static OneLamp lampAt(OneLamp x, int square) {
    x.lamp(square);
    return x;
  }

  private static void wrongWhat(String name, Edges.Call below, Edges.Call above, Edges.Call least, Edges.Call most) {
    e.badEverywhere(name + "(-1)", below);
    e.badEverywhere(name + "(2)", above);
    e.badEverywhere(name + "(MIN)", least);
    e.badEverywhere(name + "(MAX)", most);
  }

  private static void standsAt(OneLamp x, int square, int worth) {
    e.due("stand(0)", x.stand(0), square);
    e.due("stand(1)", x.stand(1), worth);
  }

  private static void stand() {
    e.holds(17, "the SQUARE (0), WORTH (1). BAD", () -> wrongWhat("stand", x -> x.stand(-1), x -> x.stand(2), x -> x.stand(MIN), x -> x.stand(MAX)));
    e.holds(17, "nobody reads: the least SQUARE, no WORTH", () -> standsAt(new OneLamp(), 0, 0));
    e.holds(17, "the SQUARE without a SHELF", () -> {
      standsAt(shelves(lampAt(hallOf(2, 2), 3), 0, 1), 2, 0);
      standsAt(shelvesBut(lampAt(hallOf(5, 5), 24)), 24, 0);
      standsAt(shelvesBut(lampAt(hallOf(2, 2), 2)), 2, 0);
      OneLamp x = sit(hallOf(3, 3), 4, 1);
      standsAt(x, 4, 3);
    });
    e.holds(17, "the first SQUARE, the last", () -> {
      standsAt(sit(lampAt(hallOf(5, 5), 12), 0, 1), 0, 3);
      standsAt(sit(hallOf(5, 5), 24, 1), 24, 3);
      standsAt(sit(hallOf(5, 5), 0, 0, 1, 0, 2, 0, 3, 0, 24, 1), 24, 3);
    });
    e.holds(17, "of like ones the least", () -> {
      standsAt(sit(hallOf(5, 5), 24, 1, 0, 1), 0, 3);
      standsAt(sit(lampAt(hallOf(5, 5), 24), 12, 0), 0, 0);
      OneLamp x = hallOf(3, 3);
      x.reader(8, PRINT, 2, 1);
      standsAt(x, 2, 2);
    });
    e.holds(17, "most WORTH: PAGES by WORTH, no more than are left", () -> {
      OneLamp x = hallOf(5, 5);
      x.reader(0, LARGE, 20, 2);
      x.reader(24, PRINT, 3, 3);
      standsAt(x, 24, 9);
      x = hallOf(5, 5);
      x.reader(0, LARGE, 20, 2);
      x.reader(24, PRINT, 2, 3);
      standsAt(x, 0, 8);
    });
    e.holds(17, "whatever OIL there is", () -> {
      for (int oil : new int[] {0, 1, 12}) {
        OneLamp x = sit(hallOf(5, 5), 24, 5);
        x.oil(oil);
        standsAt(x, 24, 15);
      }
    });
    e.holds(17, "from how all is now: PAGES left", () -> {
      OneLamp x = hallOf(5, 5);
      x.reader(24, PRINT, 3, 9);
      x.reader(0, PRINT, 20, 4);
      standsAt(x, 24, 27);
      x.lamp(24);
      x.burn(24);
      standsAt(x, 0, 12);
      x.undo();
      standsAt(x, 24, 27);
    });
    e.holds(17, "from how all is now: by HEART in the dark", () -> {
      OneLamp x = hallOf(5, 5);
      x.reader(0, HEART, 20, 5);
      x.reader(24, PRINT, 20, 9);
      standsAt(x, 24, 27);
      x.burn(0);
      standsAt(x, 24, 27 + 5);
    });
    e.holds(17, "nothing changes", () -> {
      e.quiet(Edges::crammed, "stand(0)", x -> x.stand(0), Edges.crammed().stand(0));
      e.quiet(Edges::busy, "stand(1)", x -> x.stand(1), Edges.busy().stand(1));
    });
  }

  private static void twoAt(OneLamp x, int squares, int worth) {
    e.due("two(0)", x.two(0), squares);
    e.due("two(1)", x.two(1), worth);
  }

  private static void two() {
    e.holds(18, "SQUARES (0), WORTH (1). BAD", () -> wrongWhat("two", x -> x.two(-1), x -> x.two(2), x -> x.two(MIN), x -> x.two(MAX)));
    e.holds(18, "unlike SQUARES, the first", () -> {
      twoAt(new OneLamp(), 1, 0);
      twoAt(shelves(lampAt(hallOf(5, 5), 24), 0, 1, 3), 204, 0);
      twoAt(sit(hallOf(5, 5), 12, 0), 1, 0);
    });
    e.holds(18, "the last two SQUARES", () -> {
      OneLamp x = lampAt(hallOf(5, 5), 24);
      for (int q = 0; q < 23; q++) x.shelf(q, true);
      twoAt(x, 2324, 0);
    });
    e.holds(18, "two SQUARES without a SHELF are enough", () -> {
      twoAt(shelves(hallOf(2, 2), 1, 2), 3, 0);
      twoAt(shelvesBut(lampAt(hallOf(5, 5), 12), 13), 1213, 0);
    });
    e.holds(18, "NO: -20: fewer than two SQUARES without a SHELF", () -> {
      for (int w = 2; w <= 5; w++) {
        int side = w;
        Edges.Made alone = () -> shelvesBut(lampAt(hallOf(side, side), 2));
        e.answers(alone, "two(0)", x -> x.two(0), -20, Edges.NO);
        e.answers(alone, "two(1)", x -> x.two(1), -20, Edges.NO);
      }
    });
    e.holds(18, "the first of: BAD ahead of NO", () -> {
      for (int what : new int[] {MIN, -1, 2, MAX}) e.bad(() -> shelvesBut(hallOf(2, 2)), "two(" + what + ")", x -> x.two(what));
    });
    e.holds(18, "the LIGHT of both together", () -> {
      OneLamp x = hallOf(5, 5);
      x.reader(12, LARGE, 20, 1);
      x.reader(0, GREEK, 20, 9);
      x.reader(24, GREEK, 20, 9);
      e.due("4 and 4 are 8: 3 PAGES; by one alone 2", x.two(1), 9 + 9 + 3);
      e.due("two(0)", x.two(0), 24);
    });
    e.holds(18, "12 at most", () -> {
      OneLamp x = sit(hallOf(2, 2), 0, 1);
      twoAt(x, 1, 3);
      x = hallOf(2, 2);
      x.reader(0, LARGE, 20, 1);
      twoAt(x, 1, 4);
    });
    e.holds(18, "of like ones the first (lesser, other)", () -> {
      twoAt(sit(hallOf(5, 5), 24, 1), 24, 3);
      OneLamp x = hallOf(5, 5);
      x.reader(24, PRINT, 2, 1);
      twoAt(x, 14, 2);
      twoAt(shelves(sit(lampAt(hallOf(5, 5), 12), 24, 1), 0, 1), 224, 3);
    });
    e.holds(18, "whatever OIL there is, from how all is now", () -> {
      OneLamp x = hallOf(5, 5);
      x.reader(0, PRINT, 4, 5);
      x.reader(24, PRINT, 20, 1);
      x.burn(0);
      x.oil(0);
      twoAt(x, 24, 5 + 3);
    });
    e.holds(18, "nothing changes", () -> e.quiet(Edges::crammed, "two(0)", x -> x.two(0), Edges.crammed().two(0)));
  }

  private static void seats() {
    e.holds(19, "NONE: nobody, one alone", () -> {
      e.quiet(OneLamp::new, "seats()", OneLamp::seats, NONE);
      e.quiet(() -> sit(hallOf(5, 5), 24, 9), "seats()", OneLamp::seats, NONE);
    });
    e.holds(19, "if more than now: not, if as much", () -> {
      e.quiet(() -> sit(hallOf(2, 2), 0, 1, 3, 1), "seats()", OneLamp::seats, NONE);
      e.quiet(() -> sit(hallOf(5, 5), 0, 0, 24, 0), "seats()", OneLamp::seats, NONE);
      e.quiet(() -> sit(hallOf(5, 5), 12, 9, 13, 9), "seats()", OneLamp::seats, NONE);
      e.due("by a little", sit(hallOf(5, 5), 0, 9, 24, 1).seats(), 1014);
    });
    e.holds(19, "two change theirs: 100 a and b, the least", () -> {
      OneLamp x = shelvesBut(sit(hallOf(5, 2), 0, 9, 3, 0, 4, 9));
      e.due("stand(1)", x.stand(1), 27);
      e.due("seats()", x.seats(), 1);
    });
    e.holds(19, "two change theirs: 100 a and b, the greatest", () -> {
      OneLamp x = shelvesBut(sit(hallOf(5, 5), 4, 9, 20, 0, 24, 0, 0, 9, 3, 0));
      e.due("stand(1)", x.stand(1), 27);
      e.due("seats()", x.seats(), 304);
    });
    e.holds(19, "one goes to a free SQUARE: 1000 and 100 a and the SQUARE, the least", () -> {
      OneLamp x = sit(lampAt(hallOf(5, 5), 12), 24, 9, 1, 9);
      e.due("seats()", x.seats(), 1000);
    });
    e.holds(19, "one goes to a free SQUARE: the greatest", () -> {
      OneLamp x = shelvesBut(sit(hallOf(5, 5), 4, 0, 20, 0, 14, 0, 23, 9, 0, 9), 24);
      e.due("stand(1)", x.stand(1), 27);
      e.due("seats()", x.seats(), 1424);
    });
    e.holds(19, "a free SQUARE: it may be THE LAMP's", () -> {
      OneLamp x = shelvesBut(sit(lampAt(hallOf(5, 2), 3), 0, 1, 4, 1));
      e.due("stand(1)", x.stand(1), 3);
      e.due("seats()", x.seats(), 1003);
    });
    e.holds(19, "a free SQUARE: no SHELF", () -> {
      e.due("without shelves", sit(hallOf(5, 5), 0, 1, 24, 1).seats(), 1014);
      e.due("a shelf there", shelves(sit(hallOf(5, 5), 0, 1, 24, 1), 14).seats(), 1018);
      e.quiet(() -> shelvesBut(sit(hallOf(5, 5), 0, 1, 24, 1)), "shelves everywhere", OneLamp::seats, NONE);
    });
    e.holds(19, "a free SQUARE: no READER", () -> {
      e.due("nobody at 14", sit(hallOf(5, 5), 0, 1, 24, 1).seats(), 1014);
      OneLamp x = sit(hallOf(5, 5), 0, 1, 24, 1);
      x.reader(14, GREEK, 1, 0);
      e.due("somebody at 14: these two change", x.seats(), 2);
      x = shelvesBut(sit(hallOf(2, 2), 0, 1, 1, 1, 2, 1, 3, 1));
      e.due("all seats are taken", x.seats(), NONE);
    });
    e.holds(19, "the first: all a and b, then all a and SQUARES", () -> {
      OneLamp x = sit(lampAt(hallOf(5, 5), 12), 24, 9, 0, 9, 1, 0);
      e.due("the first and the third change, or the first goes to 2", x.seats(), 2);
    });
    e.holds(19, "the first: by a, then by b", () -> {
      OneLamp x = shelvesBut(sit(hallOf(5, 2), 0, 9, 1, 0, 2, 0, 3, 0, 4, 9));
      e.due("(0, 2), (0, 3), (1, 4), (2, 4) are like", x.seats(), 2);
      x = shelvesBut(sit(hallOf(5, 2), 2, 0, 0, 9, 1, 0, 3, 0, 4, 9));
      e.due("(0, 1), (0, 4), (1, 3), (2, 4) are like", x.seats(), 1);
    });
    e.holds(19, "the first: by a, then by SQUARE", () -> {
      OneLamp x = sit(hallOf(5, 5), 0, 1, 24, 1);
      e.due("the first to 14, 18, ..; the second to 2, 6, ..", x.seats(), 1014);
      x = sit(hallOf(5, 5), 12, 0, 0, 1, 24, 1);
      e.due("the second to 14, 18, ..; the third", x.seats(), 1114);
    });
    e.holds(19, "the most, not the first that is more", () -> {
      OneLamp x = sit(hallOf(5, 5), 0, 1, 24, 9, 12, 0);
      e.due("stand(1)", x.stand(1), 27);
      e.due("the first and the third change: 27 and 1; the first goes to 14: 27 and 2", x.seats(), 1014);
    });
    e.holds(19, "nothing changes", () -> {
      e.quiet(Edges::crammed, "seats()", OneLamp::seats, Edges.crammed().seats());
      e.quiet(Edges::busy, "seats()", OneLamp::seats, Edges.busy().seats());
    });
  }

  /** 3 by 2: both corners between the READERS at 0 and 4 are SHELVES; 2 and 5 are left. */
  private static OneLamp shaded(int lamp) { return shelves(sit(lampAt(hallOf(3, 2), lamp), 0, 1, 4, 1), 1, 3); }

  private static void moved() {
    e.holds(20, "NONE: no SHELF", () -> {
      e.quiet(OneLamp::new, "moved()", OneLamp::moved, NONE);
      e.quiet(() -> sit(hallOf(5, 5), 0, 1, 24, 1), "moved()", OneLamp::moved, NONE);
    });
    e.holds(20, "if more than now: not, if as much", () -> {
      e.quiet(() -> shelves(sit(hallOf(5, 5), 0, 1), 1, 5), "moved()", OneLamp::moved, NONE);
      e.quiet(() -> shelves(sit(hallOf(2, 2), 0, 1, 3, 1), 1), "moved()", OneLamp::moved, NONE);
      e.quiet(() -> shelves(sit(hallOf(5, 5), 0, 0, 2, 0), 1), "moved()", OneLamp::moved, NONE);
    });
    e.holds(20, "100 times from, and to", () -> {
      e.due("stand(1)", shaded(2).stand(1), 4);
      e.due("moved()", shaded(2).moved(), 105);
      OneLamp x = shelves(sit(lampAt(hallOf(5, 5), 12), 20, 1, 24, 1, 15, 0, 19, 0), 22);
      e.due("to 0", x.moved(), 2200);
    });
    e.holds(20, "the first, the last SQUARE: from 0 to 24", () -> {
      OneLamp x = shelvesBut(sit(lampAt(hallOf(5, 5), 12), 1, 9, 5, 9), 24);
      e.due("all but THE LAMP, two seats, one free SQUARE", x.count(1), 21);
      e.due("stand(1)", x.stand(1), 36);
      e.due("moved()", x.moved(), 24);
    });
    e.holds(20, "another SQUARE: no SHELF", () -> {
      e.quiet(() -> shelves(shaded(2), 5), "no SQUARE is left", OneLamp::moved, NONE);
      OneLamp x = shelves(shaded(2), 5);
      x.shelf(5, false);
      e.due("one is left again", x.moved(), 105);
    });
    e.holds(20, "another SQUARE: no READER", () -> {
      Edges.Made made = () -> {
        OneLamp x = shaded(2);
        x.reader(5, GREEK, 1, 0);
        return x;
      };
      e.quiet(made, "no SQUARE is left", OneLamp::moved, NONE);
    });
    e.holds(20, "another SQUARE: not THE LAMP's", () -> {
      e.due("THE LAMP at 5", shaded(5).moved(), 102);
      e.due("THE LAMP at 2", shaded(2).moved(), 105);
      e.quiet(() -> shelves(shaded(5), 2), "no SQUARE is left", OneLamp::moved, NONE);
    });
    e.holds(20, "put to another SQUARE: there it throws shade", () -> {
      OneLamp x = shelves(sit(lampAt(hallOf(5, 2), 9), 0, 1, 3, 1), 2);
      e.due("stand(1)", x.stand(1), 3);
      e.due("at 1 it is between them, too", x.moved(), 204);
      x = shelves(sit(lampAt(hallOf(5, 5), 24), 2, 1, 17, 1), 12, 0, 1, 3, 4, 5);
      e.due("stand(1)", x.stand(1), 3);
      e.due("at 7 it is between them, too; at 6 it is not", x.moved(), 1206);
    });
    e.holds(20, "the first: by SHELF, then SQUARE", () -> {
      OneLamp x = shelves(sit(lampAt(hallOf(3, 3), 8), 0, 1, 4, 1), 1, 3);
      e.due("1 to 2, 5, 6, 7; 3 to 2, 5, 6, 7", x.moved(), 102);
      x = shelves(sit(lampAt(hallOf(3, 3), 8), 0, 1, 4, 1), 1, 2, 3);
      e.due("1 to 5", x.moved(), 105);
    });
    e.holds(20, "the most, not the first that is more", () -> {
      OneLamp x = shelves(sit(lampAt(hallOf(5, 5), 24), 0, 9, 2, 1, 10, 3), 1, 5);
      e.due("stand(1)", x.stand(1), 27 + 1 + 3);
      e.due("1 to 3: 27 and 2 and 3; 5 to 3: 27 and 1 and 6", x.moved(), 503);
    });
    e.holds(20, "where the SHELF was, a lamp may stand", () -> {
      OneLamp x = shelves(sit(lampAt(hallOf(5, 5), 24), 2, 1, 10, 1, 14, 1, 22, 1), 12);
      e.due("stand(1): at 6", x.stand(1), 2 + 2 + 1 + 1);
      e.due("all have 2 of a lamp at 12", x.moved(), 1200);
    });
    e.holds(20, "nothing changes", () -> {
      e.quiet(Edges::crammed, "moved()", OneLamp::moved, Edges.crammed().moved());
      e.quiet(Edges::busy, "moved()", OneLamp::moved, Edges.busy().moved());
    });
  }

  private static void restsAt(OneLamp x, int rounds, int square) {
    e.due("rest(0)", x.rest(0), rounds);
    e.due("rest(1)", x.rest(1), square);
  }

  private static void rest() {
    e.holds(21, "the ROUND (0), the SQUARE (1). BAD", () -> wrongWhat("rest", x -> x.rest(-1), x -> x.rest(2), x -> x.rest(MIN), x -> x.rest(MAX)));
    e.holds(21, "it stays, if both are 0: nobody, one where it is, two on either side", () -> {
      restsAt(lampAt(hallOf(5, 5), 7), 0, 7);
      restsAt(sit(lampAt(hallOf(5, 5), 7), 7, 1), 0, 7);
      restsAt(sit(lampAt(hallOf(5, 5), 7), 5, 1, 9, 1), 0, 7);
      restsAt(sit(lampAt(hallOf(5, 5), 12), 2, 1, 22, 1), 0, 12);
    });
    e.holds(21, "how many ROUNDS: from corner to corner", () -> {
      restsAt(sit(hallOf(5, 5), 24, 1), 8, 24);
      restsAt(sit(lampAt(hallOf(5, 5), 24), 0, 1), 8, 0);
      restsAt(sit(lampAt(hallOf(5, 5), 4), 20, 1), 8, 20);
      restsAt(sit(lampAt(hallOf(5, 5), 20), 4, 1), 8, 4);
    });
    e.holds(21, "none: to and fro without an end", () -> {
      e.quiet(() -> sit(hallOf(5, 2), 0, 1, 1, 1), "rest(0)", x -> x.rest(0), NONE);
      e.quiet(() -> sit(hallOf(5, 2), 0, 1, 1, 1), "rest(1)", x -> x.rest(1), NONE);
    });
    e.holds(21, "along x, if PX without sign is no less than PY without sign", () -> {
      int[][] corner = {{0, 7}, {4, 7}, {20, 17}, {24, 17}};
      for (int[] c : corner) {
        int beside = c[0] % 5 == 0 ? 11 : 13;
        OneLamp x = sit(shelves(hallOf(5, 5), beside), c[0], 1);
        x.lamp(12);
        restsAt(x, 0, 12);
        x.shelf(beside, false);
        x.shelf(c[1], true);
        e.due("a SHELF along y is not in the way of the first ROUND", x.rest(0) > 0 ? 1 : 0, 1);
      }
    });
    e.holds(21, "else along y", () -> {
      OneLamp x = shelves(sit(lampAt(hallOf(5, 5), 12), 22, 1, 11, 1), 21);
      x.string(0, 5);
      restsAt(x, 2, 22);
      x = shelves(sit(lampAt(hallOf(5, 5), 12), 2, 1, 13, 1), 3);
      x.string(0, 5);
      restsAt(x, 2, 2);
      x = sit(lampAt(hallOf(5, 5), 12), 22, 1, 23, 1);
      x.shelf(17, true);
      restsAt(x, 0, 12);
    });
    e.holds(21, "PY alone", () -> {
      restsAt(sit(hallOf(5, 5), 20, 1), 4, 20);
      restsAt(sit(lampAt(hallOf(5, 5), 20), 0, 1), 4, 0);
    });
    e.holds(21, "it stays, if a SHELF is there, on each side", () -> {
      int[][] sides = {{10, 11}, {14, 13}, {2, 7}, {22, 17}};
      for (int[] s : sides) {
        OneLamp x = sit(lampAt(hallOf(5, 5), 12), s[0], 1);
        restsAt(x, 2, s[0]);
        x.shelf(s[1], true);
        restsAt(x, 0, 12);
      }
    });
    e.holds(21, "it stays at a SHELF, though the other way is open", () -> {
      OneLamp x = sit(hallOf(5, 5), 24, 1);
      x.shelf(1, true);
      restsAt(x, 0, 0);
      x.shelf(1, false);
      x.shelf(4, true);
      restsAt(x, 3, 3);
    });
    e.holds(21, "READERS with PAGES left", () -> {
      OneLamp x = hallOf(5, 5);
      x.reader(0, PRINT, 3, 1);
      x.reader(24, PRINT, 20, 1);
      x.string(0, 9);
      restsAt(x, NONE, NONE);
      x.burn(0);
      e.due("left", x.left(0), 0);
      restsAt(x, 8, 24);
      x.undo();
      restsAt(x, NONE, NONE);
    });
    e.holds(21, "READERS with PAGES left: one page is enough", () -> {
      OneLamp x = hallOf(5, 5);
      x.reader(24, PRINT, 1, 1);
      restsAt(x, 8, 24);
      x = hallOf(5, 5);
      x.reader(24, PRINT, 4, 1);
      x.lamp(24);
      x.burn(24);
      x.lamp(0);
      e.due("left", x.left(0), 1);
      restsAt(x, 8, 24);
    });
    e.holds(21, "STRENGTH (0 .. 9): none does not pull", () -> {
      OneLamp x = sit(hallOf(5, 5), 24, 1);
      x.string(0, 0);
      restsAt(x, 0, 0);
    });
    e.holds(21, "STRENGTH (0 .. 9): 9 against 8, 9 against 9", () -> {
      OneLamp x = shelves(sit(lampAt(hallOf(5, 2), 3), 0, 1, 4, 1), 1);
      x.string(0, 9);
      x.string(1, 8);
      restsAt(x, 1, 2);
      x.string(1, 9);
      restsAt(x, 0, 3);
    });
    e.holds(21, "nobody reads by it, THE LAMP stays, no OIL is burnt", () -> {
      e.quiet(Edges::crammed, "rest(0)", x -> x.rest(0), Edges.crammed().rest(0));
      e.quiet(() -> sit(hallOf(5, 5), 24, 1), "rest(1)", x -> x.rest(1), 24);
    });
    e.holds(21, "without OIL, too", () -> {
      OneLamp x = sit(hallOf(5, 5), 24, 1);
      x.oil(0);
      restsAt(x, 8, 24);
    });
    e.holds(21, "a DUTIFUL one pulls as others", () -> {
      OneLamp x = hallOf(5, 5);
      x.reader(0, PRINT, 20, 1);
      x.reader(24, DUTIFUL, 20, 1);
      x.string(0, 0);
      restsAt(x, 8, 24);
    });
  }

  public static void main(String[] args) {
    stand();
    two();
    seats();
    moved();
    rest();
    e.end();
  }
}

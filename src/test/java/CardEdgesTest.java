/** The boundary cases of promises 9 to 11: THE TEXT, and THE CARD that it is. */
public final class CardEdgesTest {
  private static final int MAX = Edges.MAX, MIN = Edges.MIN;
  private static final Edges e = new Edges("CardEdgesTest");
  private static final String HALL = "hall 2 2;";

  /** What read answers to a text; a text that is not taken changes nothing and counts in no STATUS. */
  private static void reads(String text, int want) {
    Edges.Made fresh = () -> with(new OneLamp(), text);
    if (want < 0) {
      e.quiet(fresh, "read of '" + text + "'", OneLamp::read, want);
      e.quiet(() -> with(Edges.busy(), text), "read of '" + text + "' (busy)", OneLamp::read, want);
      return;
    }
    OneLamp x = fresh.get();
    e.due("read of '" + text + "'", x.read(), want);
    e.due("count(4)", x.count(4), text.length());
    e.statusIs(x, 0, 0, 0);
  }

  private static void fault(String text, int place) { reads(text, -10 - place); }
  private static void refused(String text, int item) { reads(text, -1000 - item); }

  private static OneLamp with(OneLamp x, String text) {
    x.clear();
    Edges.type(x, text);
    return x;
  }

  private static OneLamp textOf(int length) { return with(new OneLamp(), " ".repeat(length)); }

  private static void type() {
    e.holds(9, "n (1 .. 8): each that is taken", () -> {
      for (int n = 1; n <= 8; n++) {
        e.due("type(-1, " + n + ")", new OneLamp().type(-1, n), n);
        e.due("type behind others", textOf(100).type(0, n), 100 + n);
      }
    });
    e.holds(9, "BAD: n", () -> {
      for (int n : new int[] {MIN, -1, 0, 9, 10, 64, MAX}) e.badEverywhere("type(32, " + n + ")", x -> x.type(32, n));
    });
    e.holds(9, "the lowest bytes, the highest of them first", () -> {
      OneLamp x = new OneLamp();
      e.due("eight", x.type(0x68616c6c20332032L, 8), 8);
      e.due("one, of more", x.type(0x3220322032203b3bL, 1), 9);
      e.due("read", x.read(), 1);
      e.due("SQUARES", x.count(5), 6);
      x = new OneLamp();
      x.type(0xffffff68616c6c20L, 5);
      x.type(0xffffffffff203520L, 3);
      x.type(0xffffffffffff343bL, 2);
      e.due("read of ' hall 5 4;', its bytes of longer ones", x.read(), 1);
      e.due("SQUARES", x.count(5), 20);
    });
    e.holds(9, "bytes are 0 .. 255, all of them", () -> {
      for (int b = 0; b < 256; b++) e.due("type(" + b + ", 1)", textOf(3).type(b, 1), 4);
      e.due("type(MIN, 8)", new OneLamp().type(Long.MIN_VALUE, 8), 8);
      e.due("type(MAX, 8)", new OneLamp().type(Long.MAX_VALUE, 8), 8);
    });
    e.holds(9, "a TEXT (200 bytes at most): just so many", () -> {
      for (int n = 1; n <= 8; n++) {
        OneLamp x = textOf(200 - n);
        e.due("the last " + n, x.type(0, n), 200);
        e.due("count(4)", x.count(4), 200);
      }
    });
    e.holds(9, "FULL: one too many, nothing of it is typed", () -> {
      for (int n = 1; n <= 8; n++) {
        int bytes = n;
        e.full(() -> textOf(201 - bytes), "type of " + n + " behind " + (201 - n), x -> x.type(-1, bytes));
        e.full(() -> textOf(200), "type of " + n + " behind 200", x -> x.type(-1, bytes));
      }
      OneLamp x = textOf(199);
      x.type(-1, 2);
      e.due("count(4)", x.count(4), 199);
    });
    e.holds(9, "the first of: BAD ahead of FULL", () -> {
      for (int n : new int[] {MIN, 0, 9, MAX}) e.bad(() -> textOf(200), "type(0, " + n + ")", x -> x.type(0, n));
    });
    e.holds(9, "THE TEXT alone changes", () -> {
      OneLamp x = Edges.busy(), y = Edges.busy();
      e.due("type", x.type(32, 1), 25);
      e.due("count(3)", x.count(3), 3);
      x.clear();
      y.clear();
      e.due("all the rest", x.digest(), y.digest());
    });
  }

  private static void clear() {
    e.holds(10, "how many it had: none, one, all", () -> {
      for (int n : new int[] {0, 1, 199, 200}) {
        OneLamp x = textOf(n);
        e.due("clear()", x.clear(), n);
        e.due("count(4)", x.count(4), 0);
        e.due("clear() again", x.clear(), 0);
        e.due("there is room again", x.type(0, 8), 8);
      }
    });
    e.holds(10, "THE TEXT alone changes, nothing is refused", () -> {
      OneLamp x = Edges.crammed(), y = Edges.crammed();
      x.clear();
      Edges.type(x, "hall 5 5;" + "oil 12;".repeat(27) + "  ");
      e.due("typed again", x.digest(), y.digest());
      e.due("read again", x.read(), 28);
      e.statusIs(x, 0, 0, 0);
    });
  }

  private static void endsTooEarly() {
    e.holds(11, "FAULT: an empty TEXT", () -> {
      fault("", 0);
      fault(" ", 1);
      fault("   ", 3);
      fault(" ".repeat(200), 200);
    });
    e.holds(11, "FAULT: the TEXT's length, if it ends too early", () -> {
      String text = "hall 2 2 ;";
      for (int n = 4; n < text.length(); n++) fault(text.substring(0, n), n);
      String more = HALL + "reader 1 2 3 4 ;";
      for (int n = 15; n < more.length(); n++) fault(more.substring(0, n), n);
      for (String word : new String[] {"shelf", "shelf 1", "lamp", "lamp 1", "oil", "oil 1", "string", "string 0", "string 0 1"}) fault(HALL + word, 9 + word.length());
      fault("hall 2 2  ", 10);
      fault(HALL + " ".repeat(185) + "oil 1 ", 200);
      fault("hall 2 2" + " ".repeat(192), 200);
    });
    e.holds(11, "an end behind an ITEM is none too early, blanks or not", () -> {
      reads(HALL, 1);
      reads(HALL + "  ", 1);
      reads(HALL + " ".repeat(191), 1);
      reads(" ".repeat(191) + HALL, 1);
      reads(HALL + "oil 1; ", 2);
    });
  }

  private static void words() {
    e.holds(11, "FAULT: a word that is none", () -> {
      for (String word : new String[] {"h", "ha", "hal", "halll", "halls", "ahall", "hell", "a", "z", "zhall", "halloil"}) {
        fault(word + " 2 2;", 0);
        fault("  " + word + " 2 2;", 2);
      }
      for (String word : new String[] {"book", "shel", "shelff", "shelv", "reade", "readers", "lam", "lamps", "oi", "oils", "oip", "strin", "strings", "strinh", "told", "burn"}) {
        fault(HALL + word + " 1;", 9);
        fault(HALL + " " + word, 10);
      }
    });
    e.holds(11, "FAULT: a word that is none by one letter, by one letter more", () -> {
      for (String word : new String[] {"hall", "shelf", "reader", "lamp", "oil", "string"}) {
        String ahead = word.equals("hall") ? "" : HALL;
        for (int i = 0; i <= word.length(); i++) {
          for (char c : new char[] {'a', 'q', 'z'}) {
            String longer = word.substring(0, i) + c + word.substring(i);
            fault(ahead + longer + " 1 1;", ahead.length());
            if (i == word.length() || word.charAt(i) == c) continue;
            String other = word.substring(0, i) + c + word.substring(i + 1);
            fault(ahead + other + " 1 1;", ahead.length());
          }
        }
      }
    });
    e.holds(11, "words of letters a .. z", () -> {
      fault("HALL 2 2;", 0);
      fault("Hall 2 2;", 0);
      fault("halL 2 2;", 0);
      fault(HALL + "oIl 1;", 9);
      fault(HALL + "a 1;", 9);
      fault(HALL + "z 1;", 9);
      fault("hall z 2;", 5);
      fault("hall a 2;", 5);
    });
    e.holds(11, "FAULT: hall again", () -> {
      fault("hall 2 2;hall 2 2;", 9);
      fault("hall 2 2; hall", 10);
      fault("hall 2 2;oil 1;hall 3 3;", 15);
      fault("hall hall 2;", 5);
    });
    e.holds(11, "FAULT: anything ahead of hall", () -> {
      for (String item : new String[] {"shelf 1;", "reader 1 0 1 0;", "lamp 1;", "oil 1;", "string 0 1;", "1 ", "12;", ";", "book;", "#", "111"}) {
        fault(item + HALL, 0);
        fault(" " + item + HALL, 1);
      }
    });
    e.holds(11, "each word's numbers: one too few", () -> {
      fault("hall 2;", 6);
      fault("hall;", 4);
      fault(HALL + "shelf;", 14);
      fault(HALL + "reader 1 2 3;", 21);
      fault(HALL + "reader;", 15);
      fault(HALL + "lamp;", 13);
      fault(HALL + "oil;", 12);
      fault(HALL + "string 0;", 17);
    });
    e.holds(11, "each word's numbers: one too many", () -> {
      fault("hall 2 2 2;", 9);
      fault(HALL + "shelf 1 1;", 17);
      fault(HALL + "reader 1 2 3 4 5;", 24);
      fault(HALL + "lamp 1 1;", 16);
      fault(HALL + "oil 1 1;", 15);
      fault(HALL + "string 0 1 1;", 20);
    });
    e.holds(11, "each ended by ;", () -> {
      fault("hall 2 2 oil 1;", 9);
      fault(HALL + "oil 1 oil 2;", 15);
      fault(HALL + "oil oil;", 13);
      fault(HALL + ";", 9);
      fault(HALL + " ; ", 10);
      fault(HALL + "oil 1;;", 15);
      fault(";", 0);
      fault("hall ; 2 2;", 5);
      fault("hall 2 ; 2;", 7);
    });
  }

  private static void figures() {
    e.holds(11, "figures (1 or 2 are one number)", () -> {
      OneLamp x = with(new OneLamp(), "hall 02 05;oil 12;lamp 09;");
      e.due("read", x.read(), 3);
      e.due("SQUARES", x.count(5), 10);
      e.due("OIL", x.count(2), 12);
      e.due("THE LAMP", x.count(6), 9);
      e.due("W", x.light(0, 2), 10);
      fault("hall 22;", 7);
      fault("hall 2 2;oil;", 12);
      reads("hall 5 5;lamp 00;oil 0;oil 9;oil 10;", 5);
    });
    e.holds(11, "FAULT: a third figure's number", () -> {
      fault("hall 222;", 5);
      fault("hall 002 2;", 5);
      fault("hall 2 002;", 7);
      fault("hall 2 22222222222;", 7);
      fault(HALL + "oil 100;", 13);
      fault(HALL + "oil 001;", 13);
      fault(HALL + "oil 100", 13);
      fault(HALL + "string 0 111;", 18);
      fault(HALL + "reader 1 2 3 999;", 22);
      fault("222 hall 2 2;", 0);
      fault("hall 2 " + "2".repeat(193), 7);
    });
    e.holds(11, "a number where none can stand", () -> {
      fault("2", 0);
      fault(HALL + "2;", 9);
      fault(HALL + "12 oil;", 9);
      fault("hall 2 2 12;", 9);
    });
  }

  private static void bytes() {
    e.holds(11, "FAULT: a byte that begins none", () -> {
      for (int b = 0; b < 256; b++) {
        boolean begins = b >= 'a' && b <= 'z' || b >= '0' && b <= '9' || b == ';' || b == 32;
        if (begins) continue;
        String sign = String.valueOf((char) b);
        fault(sign + HALL, 0);
        fault("hall" + sign + " 2 2;", 4);
        fault("hall " + sign + "2 2;", 5);
        fault("hall 2" + sign + "2;", 6);
        fault("hall 2 2" + sign + ";", 8);
        fault(HALL + sign, 9);
        fault(HALL + "  " + sign + " ", 11);
      }
    });
    e.holds(11, "a byte that begins none inside a word: the word that is none is first", () -> {
      fault("ha-l 2 2;", 0);
      fault(HALL + "oi{ 1;", 9);
    });
    e.holds(11, "blanks (32) between: none needed, many will do", () -> {
      reads("hall2 2;oil3;", 2);
      reads("  hall   2   2   ;   oil   3   ;   ", 2);
      reads(HALL + "reader1 2 3 4;string0 5;shelf2;lamp3;", 5);
      fault("ha ll 2 2;", 0);
      fault("hall 2 2;o il 1;", 9);
    });
    e.holds(11, "FAULT: the first one counts", () -> {
      fault("hall # 2 book", 5);
      fault(HALL + "oil 100 ; book 1;", 13);
      fault("shelf 1; hall 2 2; hall", 0);
    });
    e.holds(11, "a FAULT goes ahead of an ITEM that would be refused", () -> {
      fault("hall 9 9;book", 9);
      fault("hall 2 6;oil 13;lamp 99", 23);
      fault("hall 1 1", 8);
    });
  }

  private static void items() {
    e.holds(11, "the first ITEM (0 on) that is refused: hall", () -> {
      for (int side : new int[] {0, 1, 6, 7, 99}) {
        refused("hall " + side + " 2;", 0);
        refused("hall 5 " + side + ";", 0);
      }
      for (int side = 2; side <= 5; side++) reads("hall " + side + " " + (7 - side) + ";", 1);
    });
    e.holds(11, "an ITEM is refused as its call is: shelf", () -> {
      reads("hall 5 5;shelf 24;shelf 1;", 3);
      refused("hall 5 5;shelf 25;", 1);
      refused("hall 5 5;shelf 99;", 1);
      refused("hall 5 5;shelf 0;", 1);
      refused("hall 5 5;shelf 24;shelf 24;", 2);
      refused("hall 5 5;reader 3 0 1 0;shelf 3;", 2);
      refused("hall 5 5;lamp 3;shelf 3;", 2);
    });
    e.holds(11, "an ITEM is refused as its call is: reader", () -> {
      reads("hall 5 5;reader 24 5 20 9;reader 0 0 1 0;", 3);
      refused("hall 5 5;reader 25 0 1 0;", 1);
      refused("hall 5 5;reader 1 6 1 0;", 1);
      refused("hall 5 5;reader 1 0 0 0;", 1);
      refused("hall 5 5;reader 1 0 21 0;", 1);
      refused("hall 5 5;reader 1 0 1 10;", 1);
      refused("hall 5 5;shelf 1;reader 1 0 1 0;", 2);
      refused("hall 5 5;reader 1 0 1 0;reader 1 0 1 0;", 2);
      String five = "hall 5 5;";
      for (int i = 0; i < 5; i++) five += "reader " + i + " 0 1 0;";
      reads(five, 6);
      refused(five + "reader 5 0 1 0;", 6);
    });
    e.holds(11, "an ITEM is refused as its call is: lamp", () -> {
      reads("hall 5 5;lamp 24;lamp 0;", 3);
      refused("hall 5 5;lamp 25;", 1);
      refused("hall 5 5;shelf 24;lamp 24;", 2);
    });
    e.holds(11, "an ITEM is refused as its call is: oil", () -> {
      reads("hall 5 5;oil 0;oil 12;", 3);
      refused("hall 5 5;oil 13;", 1);
      refused("hall 5 5;oil 99;", 1);
    });
    e.holds(11, "an ITEM is refused as its call is: string", () -> {
      reads("hall 5 5;reader 1 0 1 0;string 0 0;string 0 9;", 4);
      refused("hall 5 5;string 0 1;", 1);
      refused("hall 5 5;reader 1 0 1 0;string 1 1;", 2);
      refused("hall 5 5;reader 1 0 1 0;string 0 10;", 2);
    });
    e.holds(11, "the first ITEM: of two that are refused", () -> {
      refused("hall 9 9;oil 99;", 0);
      refused("hall 2 2;oil 99;lamp 99;", 1);
    });
    e.holds(11, "in their order", () -> {
      reads("hall 2 2;lamp 1;shelf 0;", 3);
      refused("hall 2 2;shelf 0;lamp 1;", 1);
      refused("hall 2 2;string 0 2;reader 1 0 1 0;", 1);
      OneLamp x = with(new OneLamp(), "hall 2 2;oil 3;lamp 3;reader 2 0 5 1;oil 4;lamp 1;reader 0 1 6 2;");
      e.due("read", x.read(), 7);
      e.due("digest", x.digest(), Edges.digestOf(2, 0, 4, 0, 65, 4, 1, 2, 2, 0, 5, 1, 1, 5, 0, 0, 0, 1, 6, 2, 1, 6, 0, 0, 0, 0, 0, 0));
    });
    e.holds(11, "the most ITEMS that a TEXT can have", () -> {
      reads("hall2 2;" + "oil1;".repeat(38), 39);
      refused("hall2 2;" + "oil1;".repeat(37) + "oil13;", 38);
      fault("hall2 2;" + "oil1;".repeat(38) + "oi", 198);
      fault("hall2 2;" + "oil1;".repeat(38) + " ;", 199);
    });
  }

  private static void toldAnew() {
    e.holds(11, "told anew by these alone: nothing stays of the hall of before", () -> {
      OneLamp x = with(Edges.crammed(), "hall 2 2;");
      e.due("read", x.read(), 1);
      e.due("digest", x.digest(), Edges.digestOf(0, 0, 8, 0, 9, 4, 0, 2, 0, 0, 0, 0));
      e.due("undo()", x.undo(), OneLamp.NO);
    });
    e.holds(11, "told anew: who comes has STRENGTH 1, nothing told, has read nothing", () -> {
      OneLamp x = hallWhereOneHasRead();
      Edges.type(x, "hall 2 2;reader 0 4 20 1;");
      e.due("read", x.read(), 2);
      e.due("digest", x.digest(), Edges.digestOf(1, 0, 8, 0, 25, 4, 0, 2, 0, 4, 20, 1, 1, 20, 0, 0, 0, 0, 0, 0));
    });
    e.holds(11, "told anew: the sides of the hall, for WAYS and light", () -> {
      for (int[] other : new int[][] {{5, 2}, {2, 5}, {2, 2}, {5, 5}}) {
        OneLamp x = with(Edges.hallOf(other[0], other[1]), "hall 3 5;");
        e.due("read", x.read(), 1);
        e.due("been(12, 2, 0)", x.been(12, 2, 0), Edges.hallOf(3, 5).been(12, 2, 0));
        e.due("been(8, 2, 1)", x.been(8, 2, 1), Edges.hallOf(3, 5).been(8, 2, 1));
        e.due("light(2, 3)", x.light(2, 3), 6);
        x.lamp(11);
        e.due("burn(14)", x.burn(14), 0);
        e.due("burn(15)", x.burn(15), OneLamp.BAD);
      }
    });
    e.holds(11, "THE TEXT stays, and is read again", () -> {
      OneLamp x = with(Edges.busy(), "hall 3 3;lamp 8;");
      e.due("read", x.read(), 2);
      long told = x.digest();
      x.lamp(0);
      x.burn(1);
      e.due("read again", x.read(), 2);
      e.due("digest", x.digest(), told);
    });
    e.holds(11, "IMAGES stay", () -> {
      OneLamp x = with(Edges.crammed(), "hall 2 2;");
      x.read();
      e.due("from(0)", x.from(0), 1);
      e.due("READERS", x.count(0), 5);
      e.due("from(1)", x.from(1), 1);
      e.due("minutes", x.count(3), 12);
    });
    e.holds(11, "refused ITEMS, FAULTS count in no STATUS", () -> {
      OneLamp x = new OneLamp();
      for (String text : new String[] {"hall 6 6;", "hall 2 2;shelf 0;", "hall 2 2;lamp 9;", "hall 2 2;shelf 1;lamp 1;", "book", ""}) {
        with(x, text);
        x.read();
      }
      e.statusIs(x, 0, 0, 0);
    });
    e.holds(11, "a CARD that is refused is told by nothing later", () -> {
      OneLamp x = with(Edges.busy(), "hall 2 2;reader 1 0 9 9;lamp 3;oil 1;oil 13;");
      e.due("read", x.read(), -1004);
      e.due("seats()", x.seats(), Edges.busy().seats());
      e.due("stand(0)", x.stand(0), Edges.busy().stand(0));
      with(x, "hall 3 3;");
      e.due("read", x.read(), 1);
      e.due("READERS", x.count(0), 0);
      e.due("OIL", x.count(2), 8);
    });
  }

  private static OneLamp hallWhereOneHasRead() {
    OneLamp x = Edges.hallOf(2, 2);
    x.reader(0, Edges.HEART, 20, 1);
    x.string(0, 9);
    x.told(0, 9);
    x.burn(0);
    return x;
  }

  public static void main(String[] args) {
    type();
    clear();
    endsTooEarly();
    words();
    figures();
    bytes();
    items();
    toldAnew();
    e.end();
  }
}

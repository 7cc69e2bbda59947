/**
 * One lamp for a hall of readers: who reads how much by its light, on which way most is read,
 * where it stands best, and what was refused. The document's promises say what each call answers.
 */
public final class OneLamp {
    public static final int NONE = -1, BAD = -2, NO = -3, FULL = -4;

    private static final int NOT_SO_MANY = -5;
    private static final int BAD_TEN = -10;
    private static final int NO_TWENTY = -20;
    private static final int FAULT_BASE = -10;
    private static final int ITEM_BASE = -1000;

    private static final int LEAST_SIDE = 2;
    private static final int MOST_SIDE = 5;
    private static final int FIRST_SIDE = 4;
    private static final int MOST_SQUARES = 25;
    private static final int MOST_READERS = 5;
    private static final int FIRST_OIL = 8;
    private static final int MOST_OIL = 12;
    private static final int FULL_LIGHT = 12;
    private static final int LIGHT_A_STEP = 2;
    private static final int LIGHT_A_SHELF = 4;
    private static final int LIGHT_A_PAGE = 4;
    private static final int MOST_PAGES = 20;
    private static final int MOST_WORTH = 9;
    private static final int FIRST_STRENGTH = 1;
    private static final int MOST_STRENGTH = 9;
    private static final int MOST_WAY = 6;
    private static final int MOST_BEEN = 5;
    private static final int MOST_UNDONE = 12;
    private static final int MOST_ROUNDS = 20;
    private static final int MOST_TEXT = 200;
    private static final int IMAGES = 2;

    private static final int SMALL = 1;
    private static final int LARGE = 2;
    private static final int GREEK = 3;
    private static final int HEART = 4;
    private static final int DUTIFUL = 5;

    private final Hall now = new Hall();
    private final Hall trial = new Hall();
    private final Hall[] images = new Hall[IMAGES];
    private final boolean[] kept = new boolean[IMAGES];
    private final Card card = new Card();
    private final Ways ways = new Ways();
    private final Places places = new Places();
    private int refusedBad;
    private int refusedNo;
    private int refusedFull;

    public OneLamp() {
        for (int i = 0; i < IMAGES; i++) {
            images[i] = new Hall();
        }
    }

    // ---- a hall

    public int hall(int w, int h) {
        return counted(now.setUp(w, h));
    }

    public int shelf(int square, boolean is) {
        return counted(now.putShelf(square, is));
    }

    public int reader(int square, int kind, int pages, int worth) {
        return counted(now.addReader(square, kind, pages, worth));
    }

    public int lamp(int square) {
        return asTens(counted(now.putLamp(square)));
    }

    public int oil(int n) {
        return counted(now.pourOil(n));
    }

    public int string(int reader, int v) {
        return counted(now.tieString(reader, v));
    }

    public int light(int at, int lamp) {
        if (!now.hasSquare(at) || !now.hasSquare(lamp)) {
            return counted(BAD);
        }
        return now.lightAt(at, lamp);
    }

    public int type(long v, int n) {
        return counted(card.addBytes(v, n));
    }

    public int clear() {
        return card.empty();
    }

    public int read() {
        int fault = card.findItems();
        if (fault != NONE) {
            return FAULT_BASE - fault;
        }
        int refused = card.tellItems(trial);
        if (refused != NONE) {
            return ITEM_BASE - refused;
        }
        now.become(trial);
        return card.items;
    }

    // ---- minutes

    public int burn(int square) {
        return counted(now.burnMinute(square));
    }

    public int undo() {
        return counted(now.takeBackMinute());
    }

    public int left(int reader) {
        return now.hasReader(reader) ? now.books.left[reader] : counted(BAD);
    }

    // ---- ways, places

    public int way(int m, int i) {
        return bestWay(m, 0, i);
    }

    public int done(int m, int who, int i) {
        return bestWay(m, who, i);
    }

    public int stand(int what) {
        if (!isZeroOrOne(what)) {
            return counted(BAD);
        }
        places.findStand(now);
        return what == 0 ? places.first : places.worth;
    }

    public int two(int what) {
        if (!isZeroOrOne(what)) {
            return counted(BAD);
        }
        if (now.squares - Integer.bitCount(now.shelves) < 2) {
            return asTens(counted(NO));
        }
        places.findTwo(now);
        return what == 0 ? 100 * places.first + places.second : places.worth;
    }

    public int seats() {
        return places.bestSeats(now, trial);
    }

    public int moved() {
        return places.bestShelf(now, trial);
    }

    public int rest(int what) {
        if (!isZeroOrOne(what)) {
            return counted(BAD);
        }
        int square = now.lamp;
        for (int round = 0; round <= MOST_ROUNDS; round++) {
            int next = now.squareAfterRound(square);
            if (next == square) {
                return what == 0 ? round : square;
            }
            square = next;
        }
        return NONE;
    }

    public int told(int reader, int pages) {
        return counted(now.tellPages(reader, pages));
    }

    public int been(int from, int m, int what) {
        if (!now.isOpen(from) || m < 0 || m > MOST_BEEN || !isZeroOrOne(what)) {
            return counted(BAD);
        }
        ways.findBeen(now, from, m);
        return what == 0 ? ways.howMany : ways.ends;
    }

    // ---- what there is

    public int image(int i) {
        if (i < 0 || i >= IMAGES) {
            return counted(BAD);
        }
        images[i].become(now);
        kept[i] = true;
        return 1;
    }

    public int from(int i) {
        if (i < 0 || i >= IMAGES) {
            return counted(BAD);
        }
        if (!kept[i]) {
            return counted(NO);
        }
        now.become(images[i]);
        return 1;
    }

    public int status(int what) {
        switch (what) {
            case 0:
                return refusedBad;
            case 1:
                return refusedNo;
            case 2:
                return refusedFull;
            default:
                counted(BAD);
                return NONE;
        }
    }

    public int count(int what) {
        return counted(sizeOf(what));
    }

    public long digest() {
        long h = 769;
        for (int what = 0; what <= 6; what++) {
            h = 31 * h + sizeOf(what);
        }
        h = 31 * h + now.w;
        for (int i = 0; i < now.readers; i++) {
            Reader one = now.reader[i];
            h = 31 * h + one.square;
            h = 31 * h + one.kind;
            h = 31 * h + one.pages;
            h = 31 * h + one.worth;
            h = 31 * h + one.strength;
            h = 31 * h + now.books.left[i];
            h = 31 * h + (now.books.isLit(i) ? 1 : 0);
            h = 31 * h + one.told;
        }
        for (int square = 0; square < now.squares; square++) {
            h = 31 * h + (now.hasShelf(square) ? 1 : 0);
        }
        return h;
    }

    private int sizeOf(int what) {
        switch (what) {
            case 0:
                return now.readers;
            case 1:
                return Integer.bitCount(now.shelves);
            case 2:
                return now.oil;
            case 3:
                return now.minutes.kept;
            case 4:
                return card.length;
            case 5:
                return now.squares;
            case 6:
                return now.lamp;
            default:
                return BAD;
        }
    }

    /** A way without told readers is one on which nobody must be done. */
    private int bestWay(int m, int who, int i) {
        if (m < 0 || m > MOST_WAY || m > now.oil || i < NONE || who < 0 || who >= 1 << now.readers) {
            return asTens(counted(BAD));
        }
        ways.findBest(now, m, who);
        // only a way that there is has minutes to be asked for
        if (ways.most == NONE) {
            return NONE;
        }
        if (i >= m) {
            return NOT_SO_MANY;
        }
        return i == NONE ? ways.most : ways.best[i];
    }

    /** Every refusal passes here once, so that STATUS counts it. */
    private int counted(int answer) {
        if (answer == BAD) {
            refusedBad++;
        } else if (answer == NO) {
            refusedNo++;
        } else if (answer == FULL) {
            refusedFull++;
        }
        return answer;
    }

    /** Some calls tell their refusals by other numbers, because the document says so. */
    private static int asTens(int answer) {
        if (answer == BAD) {
            return BAD_TEN;
        }
        return answer == NO ? NO_TWENTY : answer;
    }

    private static boolean isZeroOrOne(int what) {
        return what == 0 || what == 1;
    }

    /** The pages of a minute by light alone; each kind rests on the one that it is under. */
    private static int pagesByLight(int kind, int light) {
        int print = light / LIGHT_A_PAGE;
        int small = print > 0 ? print - 1 : 0;
        int large = light > 0 ? print + 1 : 0;
        switch (kind) {
            case SMALL:
                return small;
            case LARGE:
            case HEART:
                return large;
            case GREEK:
                return small / 2;
            default:
                return print;
        }
    }

    /**
     * All read for a minute, by the lights that stand in the row from a place on, one a reader.
     * Answers the pages; before and after may be the same books.
     */
    private static int readMinute(Hall hall, int[] lights, int place, Books before, Books after) {
        if (place < 0 || place + hall.readers > lights.length) {
            return 0;
        }
        int sum = 0;
        int lit = 0;
        boolean othersLeft = false;
        for (int i = 0; i < hall.readers; i++) {
            int light = lights[place + i];
            int left = before.left[i];
            int kind = hall.reader[i].kind;
            int pages = pagesByLight(kind, light);
            if (kind == HEART && light == 0 && before.isLit(i)) {
                pages = 1;
            } else if (kind == DUTIFUL && othersLeft) {
                pages = 0;
            }
            pages = Math.min(pages, left);
            if (pages > 0 && light > 0) {
                lit |= 1 << i;
            }
            // the duty looks at what was left ahead of the minute, not behind it
            othersLeft = othersLeft || left > 0;
            after.left[i] = left - pages;
            sum += pages;
        }
        after.lit = lit;
        return sum;
    }

    /** The worth of all pages that lie between two states of the books. */
    private static int worthBetween(Hall hall, Books before, Books after) {
        int sum = 0;
        for (int i = 0; i < hall.readers; i++) {
            sum += (before.left[i] - after.left[i]) * hall.reader[i].worth;
        }
        return sum;
    }

    /** One who reads: the seat, the book, the string. */
    private static final class Reader {
        int square;
        int kind;
        int pages;
        int worth;
        int strength;
        int told;

        void become(Reader other) {
            square = other.square;
            kind = other.kind;
            pages = other.pages;
            worth = other.worth;
            strength = other.strength;
            told = other.told;
        }
    }

    /** How far all have read: what a minute changes beside the lamp and the oil. */
    private static final class Books {
        final int[] left = new int[MOST_READERS];
        /** A bit for each who read some by light in the minute ahead. */
        int lit;

        boolean isLit(int i) {
            return (lit >> i & 1) == 1;
        }

        void become(Books other) {
            System.arraycopy(other.left, 0, left, 0, MOST_READERS);
            lit = other.lit;
        }
    }

    /** The minutes that may be undone, the oldest first. */
    private static final class Minutes {
        final int[] lamp = new int[MOST_UNDONE];
        final int[] oil = new int[MOST_UNDONE];
        final int[] lit = new int[MOST_UNDONE];
        final int[] left = new int[MOST_UNDONE * MOST_READERS];
        int kept;

        void keep(Hall hall) {
            if (kept >= MOST_UNDONE) {
                dropOldest();
            }
            lamp[kept] = hall.lamp;
            oil[kept] = hall.oil;
            lit[kept] = hall.books.lit;
            System.arraycopy(hall.books.left, 0, left, kept * MOST_READERS, MOST_READERS);
            kept++;
        }

        void giveBack(Hall hall) {
            if (kept < 1) {
                return;
            }
            kept--;
            hall.lamp = lamp[kept];
            hall.oil = oil[kept];
            hall.books.lit = lit[kept];
            System.arraycopy(left, kept * MOST_READERS, hall.books.left, 0, MOST_READERS);
        }

        void become(Minutes other) {
            System.arraycopy(other.lamp, 0, lamp, 0, MOST_UNDONE);
            System.arraycopy(other.oil, 0, oil, 0, MOST_UNDONE);
            System.arraycopy(other.lit, 0, lit, 0, MOST_UNDONE);
            System.arraycopy(other.left, 0, left, 0, MOST_UNDONE * MOST_READERS);
            kept = other.kept;
        }

        private void dropOldest() {
            int stay = MOST_UNDONE - 1;
            System.arraycopy(lamp, 1, lamp, 0, stay);
            System.arraycopy(oil, 1, oil, 0, stay);
            System.arraycopy(lit, 1, lit, 0, stay);
            System.arraycopy(left, MOST_READERS, left, 0, stay * MOST_READERS);
            kept = stay;
        }
    }

    /** All that an image keeps; its changes answer as the calls do, but count no refusal. */
    private static final class Hall {
        /** Up, left, here, right, down: in this order the squares rise. */
        static final int SIDES = 5;

        final Reader[] reader = new Reader[MOST_READERS];
        final Books books = new Books();
        final Minutes minutes = new Minutes();
        final int[] lights = new int[MOST_READERS];
        int w;
        int h;
        int squares;
        int lamp;
        int oil;
        int readers;
        /** A bit for each square with a shelf. */
        int shelves;

        Hall() {
            for (int i = 0; i < MOST_READERS; i++) {
                reader[i] = new Reader();
            }
            setUp(FIRST_SIDE, FIRST_SIDE);
        }

        void become(Hall other) {
            w = other.w;
            h = other.h;
            squares = other.squares;
            lamp = other.lamp;
            oil = other.oil;
            readers = other.readers;
            shelves = other.shelves;
            for (int i = 0; i < MOST_READERS; i++) {
                reader[i].become(other.reader[i]);
            }
            books.become(other.books);
            minutes.become(other.minutes);
        }

        int setUp(int newW, int newH) {
            if (newW < LEAST_SIDE || newW > MOST_SIDE || newH < LEAST_SIDE || newH > MOST_SIDE) {
                return BAD;
            }
            w = newW;
            h = newH;
            squares = newW * newH;
            lamp = 0;
            oil = FIRST_OIL;
            readers = 0;
            shelves = 0;
            // whoever comes has read nothing yet: no later call sets a bit of nobody
            books.lit = 0;
            minutes.kept = 0;
            return squares;
        }

        int putShelf(int square, boolean is) {
            if (!hasSquare(square)) {
                return BAD;
            }
            if (hasShelf(square) == is || readerAt(square) != NONE || lamp == square) {
                return NO;
            }
            shelves ^= 1 << square;
            minutes.kept = 0;
            return 1;
        }

        int addReader(int square, int kind, int pages, int worth) {
            if (!hasSquare(square) || kind < 0 || kind > DUTIFUL
                    || pages < 1 || pages > MOST_PAGES || worth < 0 || worth > MOST_WORTH) {
                return BAD;
            }
            if (!isFree(square)) {
                return NO;
            }
            if (readers >= MOST_READERS) {
                return FULL;
            }
            Reader one = reader[readers];
            one.square = square;
            one.kind = kind;
            one.pages = pages;
            one.worth = worth;
            one.strength = FIRST_STRENGTH;
            one.told = 0;
            books.left[readers] = pages;
            minutes.kept = 0;
            readers++;
            return readers - 1;
        }

        int putLamp(int square) {
            if (!hasSquare(square)) {
                return BAD;
            }
            if (hasShelf(square)) {
                return NO;
            }
            int was = lamp;
            lamp = square;
            return was;
        }

        int pourOil(int n) {
            if (n < 0 || n > MOST_OIL) {
                return BAD;
            }
            int was = oil;
            oil = n;
            return was;
        }

        int tieString(int who, int v) {
            if (!hasReader(who) || v < 0 || v > MOST_STRENGTH) {
                return BAD;
            }
            int was = reader[who].strength;
            reader[who].strength = v;
            return was;
        }

        int tellPages(int who, int pages) {
            if (!hasReader(who) || pages < 0 || pages > MOST_PAGES) {
                return BAD;
            }
            int was = reader[who].told;
            reader[who].told = pages;
            return was;
        }

        int burnMinute(int square) {
            if (!hasSquare(square)) {
                return BAD;
            }
            if (hasShelf(square) || stepsBetween(lamp, square) > 1) {
                return NO;
            }
            minutes.keep(this);
            lamp = square;
            for (int i = 0; i < readers; i++) {
                lights[i] = oil > 0 ? lightAt(reader[i].square, lamp) : 0;
            }
            oil = Math.max(0, oil - 1);
            return readMinute(this, lights, 0, books, books);
        }

        int takeBackMinute() {
            if (minutes.kept < 1) {
                return NO;
            }
            minutes.giveBack(this);
            return 1;
        }

        boolean hasSquare(int square) {
            return square >= 0 && square < squares;
        }

        boolean hasReader(int who) {
            return who >= 0 && who < readers;
        }

        boolean hasShelf(int square) {
            return square >= 0 && square < squares && (shelves >> square & 1) == 1;
        }

        /** A square of the hall where a lamp may be. */
        boolean isOpen(int square) {
            return square >= 0 && square < squares && !hasShelf(square);
        }

        boolean isFree(int square) {
            return isOpen(square) && readerAt(square) == NONE;
        }

        int readerAt(int square) {
            for (int i = 0; i < readers; i++) {
                if (reader[i].square == square) {
                    return i;
                }
            }
            return NONE;
        }

        int column(int square) {
            return w > 0 ? square % w : 0;
        }

        int row(int square) {
            return w > 0 ? square / w : 0;
        }

        int stepsBetween(int a, int b) {
            return Math.abs(column(a) - column(b)) + Math.abs(row(a) - row(b));
        }

        /** The square beside (or this one itself) on a side, NONE where a lamp can not go. */
        int squareBeside(int square, int side) {
            int x = column(square) + (side == 3 ? 1 : 0) - (side == 1 ? 1 : 0);
            int y = row(square) + (side == 4 ? 1 : 0) - (side == 0 ? 1 : 0);
            if (x < 0 || x >= w || y < 0 || y >= h) {
                return NONE;
            }
            int next = y * w + x;
            return isOpen(next) ? next : NONE;
        }

        int lightAt(int at, int from) {
            int acrossX = Math.abs(column(at) - column(from));
            int acrossY = Math.abs(row(at) - row(from));
            int light = FULL_LIGHT - LIGHT_A_STEP * (acrossX + acrossY);
            if (acrossY == 0) {
                light -= LIGHT_A_SHELF * shelvesBetween(at, from, 1);
            } else if (acrossX == 0) {
                light -= LIGHT_A_SHELF * shelvesBetween(at, from, w);
            } else if (hasShelf(row(at) * w + column(from)) && hasShelf(row(from) * w + column(at))) {
                light /= 2;
            }
            return Math.max(0, light);
        }

        private int shelvesBetween(int a, int b, int step) {
            int end = Math.max(a, b);
            int sum = 0;
            for (int square = Math.min(a, b) + step; step > 0 && square < end; square += step) {
                sum += shelves >> square & 1;
            }
            return sum;
        }

        /** A row of lights for each square where a lamp may be, one a reader. */
        void fillLights(int[] table) {
            for (int square = 0; square < squares; square++) {
                int place = square * MOST_READERS;
                if (hasShelf(square) || place + readers > table.length) {
                    continue;
                }
                for (int i = 0; i < readers; i++) {
                    table[place + i] = lightAt(reader[i].square, square);
                }
            }
        }

        /** Where a lamp is behind a round that it begins at a square; the same one, if it stays. */
        int squareAfterRound(int square) {
            int pullX = 0;
            int pullY = 0;
            for (int i = 0; i < readers; i++) {
                if (books.left[i] > 0) {
                    Reader one = reader[i];
                    pullX += one.strength * Integer.compare(column(one.square), column(square));
                    pullY += one.strength * Integer.compare(row(one.square), row(square));
                }
            }
            int next = Math.abs(pullX) >= Math.abs(pullY)
                    ? square + Integer.signum(pullX)
                    : square + w * Integer.signum(pullY);
            return isOpen(next) ? next : square;
        }
    }

    /** All ways of some minutes, one by one; those that can not count any more are left early. */
    private static final class Ways {
        final int[] best = new int[MOST_WAY];
        int most;
        int howMany;
        int ends;
        private final Books[] books = new Books[MOST_WAY + 1];
        private final int[] lights = new int[MOST_SQUARES * MOST_READERS];
        private final int[] squares = new int[MOST_WAY];
        private int minutes;
        private int who;

        Ways() {
            for (int i = 0; i <= MOST_WAY; i++) {
                books[i] = new Books();
            }
        }

        /** The way of most worth on which the told ones are done; most is NONE without one. */
        void findBest(Hall hall, int m, int toldOnes) {
            hall.fillLights(lights);
            books[0].become(hall.books);
            minutes = Math.min(m, MOST_WAY);
            who = toldOnes;
            most = NONE;
            goForWorth(hall, 0, hall.lamp, 0);
        }

        /** How many ways come out as told from the first page on, and where they end. */
        void findBeen(Hall hall, int square, int m) {
            hall.fillLights(lights);
            for (int i = 0; i < hall.readers; i++) {
                books[0].left[i] = hall.reader[i].pages;
            }
            books[0].lit = 0;
            minutes = Math.min(m, MOST_WAY);
            howMany = 0;
            ends = 0;
            goForTold(hall, 0, square);
        }

        private void goForWorth(Hall hall, int depth, int square, int worth) {
            if (!mayBeBest(hall, depth, worth)) {
                return;
            }
            if (depth >= minutes) {
                most = worth;
                System.arraycopy(squares, 0, best, 0, MOST_WAY);
                return;
            }
            for (int side = 0; side < Hall.SIDES; side++) {
                int next = hall.squareBeside(square, side);
                if (next != NONE) {
                    goMinute(hall, depth, next);
                    int more = worthBetween(hall, books[depth], books[depth + 1]);
                    goForWorth(hall, depth + 1, next, worth + more);
                }
            }
        }

        private void goForTold(Hall hall, int depth, int square) {
            if (!mayBeAsTold(hall, depth)) {
                return;
            }
            if (depth >= minutes) {
                howMany++;
                ends |= 1 << square;
                return;
            }
            for (int side = 0; side < Hall.SIDES; side++) {
                int next = hall.squareBeside(square, side);
                if (next != NONE) {
                    goMinute(hall, depth, next);
                    goForTold(hall, depth + 1, next);
                }
            }
        }

        private void goMinute(Hall hall, int depth, int square) {
            squares[depth] = square;
            readMinute(hall, lights, square * MOST_READERS, books[depth], books[depth + 1]);
        }

        /** Only more than the best so far will do: of like ways the first one stays. */
        private boolean mayBeBest(Hall hall, int depth, int worth) {
            int sum = worth;
            for (int i = 0; i < hall.readers; i++) {
                int pages = pagesToCome(hall, depth, i);
                if ((who >> i & 1) == 1 && pages < books[depth].left[i]) {
                    return false;
                }
                sum += pages * hall.reader[i].worth;
            }
            return sum > most;
        }

        private boolean mayBeAsTold(Hall hall, int depth) {
            for (int i = 0; i < hall.readers; i++) {
                Reader one = hall.reader[i];
                int wanted = one.told - (one.pages - books[depth].left[i]);
                if (wanted < 0 || wanted > pagesToCome(hall, depth, i)) {
                    return false;
                }
            }
            return true;
        }

        /** No less than one can read until the end: as if the lamp stood at the seat. */
        private int pagesToCome(Hall hall, int depth, int i) {
            int byLight = (minutes - depth) * pagesByLight(hall.reader[i].kind, FULL_LIGHT);
            return Math.min(byLight, books[depth].left[i]);
        }
    }

    /** Where one lamp or two stand best, and by which change one would stand better. */
    private static final class Places {
        int first;
        int second;
        int worth;
        private final int[] lights = new int[MOST_SQUARES * MOST_READERS];
        private final int[] both = new int[MOST_READERS];
        private final Books after = new Books();
        private int most;
        private int change;

        void findStand(Hall hall) {
            hall.fillLights(lights);
            forget();
            for (int square = 0; square < hall.squares; square++) {
                if (hall.isOpen(square)) {
                    weigh(hall, lights, square * MOST_READERS, square, square);
                }
            }
        }

        void findTwo(Hall hall) {
            hall.fillLights(lights);
            forget();
            for (int a = 0; a < hall.squares; a++) {
                for (int b = a + 1; b < hall.squares; b++) {
                    if (hall.isOpen(a) && hall.isOpen(b)) {
                        joinLights(hall, a, b);
                        weigh(hall, both, 0, a, b);
                    }
                }
            }
        }

        /** The change of seats by which one lamp would stand best; trial is written over. */
        int bestSeats(Hall hall, Hall trial) {
            beginChanges(hall, trial);
            for (int a = 0; a < hall.readers; a++) {
                for (int b = a + 1; b < hall.readers; b++) {
                    trial.reader[a].square = hall.reader[b].square;
                    trial.reader[b].square = hall.reader[a].square;
                    weighChange(trial, 100 * a + b);
                    trial.reader[b].square = hall.reader[b].square;
                }
                trial.reader[a].square = hall.reader[a].square;
            }
            for (int a = 0; a < hall.readers; a++) {
                for (int square = 0; square < hall.squares; square++) {
                    if (hall.isFree(square)) {
                        trial.reader[a].square = square;
                        weighChange(trial, 1000 + 100 * a + square);
                    }
                }
                trial.reader[a].square = hall.reader[a].square;
            }
            return change;
        }

        /** The shelf's move by which one lamp would stand best; trial is written over. */
        int bestShelf(Hall hall, Hall trial) {
            beginChanges(hall, trial);
            for (int shelf = 0; shelf < hall.squares; shelf++) {
                for (int square = 0; square < hall.squares; square++) {
                    if (hall.hasShelf(shelf) && hall.isFree(square) && square != hall.lamp) {
                        trial.shelves = hall.shelves & ~(1 << shelf) | 1 << square;
                        weighChange(trial, 100 * shelf + square);
                    }
                }
            }
            return change;
        }

        private void forget() {
            worth = NONE;
            first = NONE;
            second = NONE;
        }

        private void beginChanges(Hall hall, Hall trial) {
            trial.become(hall);
            findStand(hall);
            most = worth;
            change = NONE;
        }

        private void weighChange(Hall trial, int number) {
            findStand(trial);
            if (worth > most) {
                most = worth;
                change = number;
            }
        }

        private void weigh(Hall hall, int[] row, int place, int a, int b) {
            readMinute(hall, row, place, hall.books, after);
            int sum = worthBetween(hall, hall.books, after);
            if (sum > worth) {
                worth = sum;
                first = a;
                second = b;
            }
        }

        private void joinLights(Hall hall, int a, int b) {
            for (int i = 0; i < hall.readers; i++) {
                int sum = lights[a * MOST_READERS + i] + lights[b * MOST_READERS + i];
                both[i] = Math.min(FULL_LIGHT, sum);
            }
        }
    }

    /** The text, and the items that were last found in it. */
    private static final class Card {
        private static final int HALL = 0;
        private static final int SHELF = 1;
        private static final int READER = 2;
        private static final int LAMP = 3;
        private static final int OIL = 4;
        private static final int STRING = 5;
        private static final int WORDS = 6;

        private static final int END = 0;
        private static final int WORD = 1;
        private static final int NUMBER = 2;
        private static final int SEMICOLON = 3;
        private static final int WRONG = 4;

        private static final int BLANK = 32;
        private static final int MOST_FIGURES = 2;
        private static final int MOST_NUMBERS = 4;
        /** The shortest item has five bytes: oil1; */
        private static final int MOST_ITEMS = 40;

        int length;
        int items;
        private final int[] text = new int[MOST_TEXT];
        private final int[] words = new int[MOST_ITEMS];
        private final int[] numbers = new int[MOST_ITEMS * MOST_NUMBERS];
        private int tokenStart;
        private int tokenEnd;

        int addBytes(long v, int n) {
            if (n < 1 || n > 8) {
                return BAD;
            }
            if (length + n > MOST_TEXT) {
                return FULL;
            }
            for (int i = n - 1; i >= 0; i--) {
                text[length] = (int) (v >> 8 * i) & 255;
                length++;
            }
            return length;
        }

        int empty() {
            int was = length;
            length = 0;
            return was;
        }

        /** The place of the fault; NONE, if all items could be found. */
        int findItems() {
            items = 0;
            tokenEnd = 0;
            for (int i = 0; i < MOST_ITEMS && !(items > 0 && isAtEnd()); i++) {
                int fault = findItem();
                if (fault != NONE) {
                    return fault;
                }
            }
            return NONE;
        }

        /** Tells the items to a hall; the number of the first that is refused, or NONE. */
        int tellItems(Hall hall) {
            for (int i = 0; i < items; i++) {
                if (tellItem(hall, words[i], i * MOST_NUMBERS) < 0) {
                    return i;
                }
            }
            return NONE;
        }

        private int tellItem(Hall hall, int word, int place) {
            int first = numbers[place];
            int second = numbers[place + 1];
            switch (word) {
                case HALL:
                    return hall.setUp(first, second);
                case SHELF:
                    return hall.putShelf(first, true);
                case READER:
                    return hall.addReader(first, second, numbers[place + 2], numbers[place + 3]);
                case LAMP:
                    return hall.putLamp(first);
                case OIL:
                    return hall.pourOil(first);
                default:
                    return hall.tieString(first, second);
            }
        }

        private int findItem() {
            if (nextToken() != WORD) {
                return tokenStart;
            }
            int word = wordOfToken();
            if (word == NONE || (word == HALL) != (items == 0)) {
                return tokenStart;
            }
            words[items] = word;
            for (int i = 0; i < numbersOf(word); i++) {
                if (nextToken() != NUMBER) {
                    return tokenStart;
                }
                numbers[items * MOST_NUMBERS + i] = numberOfToken();
            }
            if (nextToken() != SEMICOLON) {
                return tokenStart;
            }
            items++;
            return NONE;
        }

        private boolean isAtEnd() {
            return skipBlanks(tokenEnd) >= length;
        }

        private int skipBlanks(int place) {
            int at = place;
            while (at < length && text[at] == BLANK) {
                at++;
            }
            return at;
        }

        /** The kind of the next token; at the end it starts at the text's length, where a fault is told. */
        private int nextToken() {
            tokenStart = skipBlanks(tokenEnd);
            tokenEnd = tokenStart;
            if (tokenStart >= length) {
                return END;
            }
            if (isLetter(text[tokenStart])) {
                while (tokenEnd < length && isLetter(text[tokenEnd])) {
                    tokenEnd++;
                }
                return WORD;
            }
            if (isFigure(text[tokenStart])) {
                while (tokenEnd < length && isFigure(text[tokenEnd])) {
                    tokenEnd++;
                }
                return tokenEnd - tokenStart <= MOST_FIGURES ? NUMBER : WRONG;
            }
            tokenEnd++;
            return text[tokenStart] == ';' ? SEMICOLON : WRONG;
        }

        private int wordOfToken() {
            for (int word = 0; word < WORDS; word++) {
                if (isToken(nameOf(word))) {
                    return word;
                }
            }
            return NONE;
        }

        private boolean isToken(String name) {
            if (name.length() != tokenEnd - tokenStart) {
                return false;
            }
            for (int i = 0; i < name.length(); i++) {
                if (text[tokenStart + i] != name.charAt(i)) {
                    return false;
                }
            }
            return true;
        }

        private int numberOfToken() {
            int value = 0;
            for (int i = tokenStart; i < tokenEnd; i++) {
                value = 10 * value + text[i] - '0';
            }
            return value;
        }

        private static String nameOf(int word) {
            switch (word) {
                case HALL:
                    return "hall";
                case SHELF:
                    return "shelf";
                case READER:
                    return "reader";
                case LAMP:
                    return "lamp";
                case OIL:
                    return "oil";
                default:
                    return "string";
            }
        }

        private static int numbersOf(int word) {
            switch (word) {
                case READER:
                    return 4;
                case HALL:
                case STRING:
                    return 2;
                default:
                    return 1;
            }
        }

        private static boolean isLetter(int sign) {
            return sign >= 'a' && sign <= 'z';
        }

        private static boolean isFigure(int sign) {
            return sign >= '0' && sign <= '9';
        }
    }
}

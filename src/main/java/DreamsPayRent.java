/**
 * A lodging house for dreams: who is let in where, what each one pays a night by a rule of texts,
 * what leaks through which wall, and how the house would be let best.
 */
public final class DreamsPayRent {
    public static final int NONE = -1, BAD = -2, STATE = -3, FULL = -4;
    public static final long NO = -4611686018427387904L;

    private static final int MISSING = -11, OUTSIDE = -12, OTHER_SORT = -13, BELOW_ZERO = -14;
    private static final int NOT_ANSWERED = -100000, FAULT_BASE = -100;

    private static final int ROOMS = 8, WALLS = 10, DREAMS = 5;
    private static final int KINDS = 6, NUMBER_MOST = 9, SPACE_MOST = 20, SIZE_MOST = 40;
    private static final int LINED_MOST = 1023, NIGHT_MOST = 999, PURSE_MOST = 9999, OWE_MOST = 9999;
    private static final int FIRST_SIZE = 10, FIRST_PURSE = 100;
    private static final int RUN_MOST = 60, DRAWN_NIGHTS = 20, SEEDS_MOST = 20, TOLD_NIGHTS = 100;

    private static final int[] WALL_ONE = {0, 2, 4, 6, 0, 1, 2, 3, 4, 5};
    private static final int[] WALL_OTHER = {1, 3, 5, 7, 2, 3, 4, 5, 6, 7};

    private static final int TEXTS = 6, PARTS = 3, NAMES = 6, TAPE_MOST = 160;
    private static final int RENTS = 0, LEAKS = 1, MINDS = 2;
    private static final String FIRST_TEXT = "rents size + floor ; leaks space ; minds 0 ;";

    private static final int SHEETS = 4, SHEET_MOST = 40;
    private static final int BYTES = 0, SHORTS = 1, INTS = 2;

    private final Texts texts;
    private final Reader reader;
    private final House house;
    private final House kept;
    private final House thought;
    private final Ways ways;
    private final Sheets sheets;
    private boolean hasImage;

    public DreamsPayRent() {
        texts = new Texts();
        reader = new Reader();
        house = new House(texts);
        kept = new House(texts);
        thought = new House(texts);
        ways = new Ways();
        sheets = new Sheets();
        for (int i = 0; i < FIRST_TEXT.length(); i++) {
            reader.append(FIRST_TEXT.charAt(i));
        }
        if (reader.read() == NONE) {
            texts.add(reader);
        }
    }

    // ---- the house, dreams

    public int set(int what, int of, int v) {
        int was = told(of, what);
        if (!isSettable(what, of) || v < leastOf(what) || v > mostOf(what)) {
            return BAD;
        }
        switch (what) {
            case 0: house.lined = v; break;
            case 1: house.nightNow = v; break;
            case 2: house.size[of] = v; break;
            case 3: house.number[of] = v; break;
            case 4: house.space[of] = v; break;
            case 5: house.purse[of] = v; break;
            default: house.owe[of] = v; break;
        }
        return was;
    }

    public int dream(int kind, int number, int space) {
        if (!isKind(kind) || number < 0 || number > NUMBER_MOST || space < 1 || space > SPACE_MOST) {
            return BAD;
        }
        return house.add(kind, number, space);
    }

    public int let(int dream, int room) {
        if (!house.isDream(dream) || (room != NONE && !isRoom(room))) {
            return BAD;
        }
        if (room != NONE) {
            if (!house.fits(dream, room)) {
                return STATE;
            }
            int there = house.lodger(room);
            if (there != NONE && there != dream) {
                return FULL;
            }
        }
        int was = house.room[dream];
        house.room[dream] = room;
        return was;
    }

    public int told(int of, int what) {
        if (what == 0) {
            return house.lined;
        }
        if (what == 1) {
            return house.nightNow;
        }
        if (what == 2) {
            return isRoom(of) ? house.size[of] : BAD;
        }
        if (!house.isDream(of)) {
            return BAD;
        }
        switch (what) {
            case 3: return house.number[of];
            case 4: return house.space[of];
            case 5: return house.purse[of];
            case 6: return house.owe[of];
            case 7: return house.room[of];
            case 8: return house.kind[of];
            case 9: return house.needs(of);
            case 10: return house.bears(of);
            default: return BAD;
        }
    }

    public int would(int dream, int room, int what) {
        if (!house.isDream(dream) || !isRoom(room)) {
            return BAD;
        }
        switch (what) {
            case 0: return house.fits(dream, room) ? 1 : 0;
            case 1: return house.pays(dream, room);
            case 2: return house.leaks(dream, room);
            case 3: return house.minds(dream, room);
            default: return BAD;
        }
    }

    public int who(int room) {
        return isRoom(room) ? house.lodger(room) : BAD;
    }

    // ---- texts

    public int feed(int letter) {
        if (letter < 0 || letter > 255) {
            return BAD;
        }
        return reader.append(letter);
    }

    public int text() {
        if (texts.count >= TEXTS) {
            return FULL;
        }
        int fault = reader.read();
        return fault == NONE ? texts.add(reader) : FAULT_BASE - fault;
    }

    public int force(int text) {
        if (text < 0 || text >= texts.count) {
            return BAD;
        }
        int was = house.rule;
        house.rule = text;
        return was;
    }

    // ---- walls, nights

    public int leak(int wall) {
        return wall >= 0 && wall < WALLS ? house.leakOf(wall) : BAD;
    }

    public int worth() {
        return house.worthNow();
    }

    public int night() {
        if (house.nightNow >= NIGHT_MOST) {
            return STATE;
        }
        return Integer.bitCount(house.passNight());
    }

    public int run(int n, int what) {
        boolean ofDream = what >= 10 && house.isDream(what - 10);
        if (n < 0 || n > RUN_MOST || what < 0 || (what > 3 && !ofDream)) {
            return BAD;
        }
        thought.become(house);
        int first = NONE;
        int when = NONE;
        for (int i = 0; i < n; i++) {
            int putOut = thought.passNight();
            if (putOut != 0 && first == NONE) {
                first = lowestBit(putOut);
                when = i;
            }
        }
        switch (what) {
            case 0: return thought.taken - house.taken;
            case 1: return first;
            case 2: return when;
            case 3: return thought.lodgers();
            default: return thought.purse[what - 10];
        }
    }

    // ---- what would be best

    public int best(int what) {
        if (what < 0 || what > house.dreamCount) {
            return NOT_ANSWERED;
        }
        ways.seek(house);
        return what == 0 ? ways.bestWorth : ways.bestWay[what - 1];
    }

    public int change(int what) {
        if (what != 0 && what != 1) {
            return NOT_ANSWERED;
        }
        int most = house.worthNow();
        int found = NONE;
        thought.become(house);
        for (int one = 0; one < house.dreamCount; one++) {
            for (int other = one + 1; other < house.dreamCount; other++) {
                if (!house.canSwap(one, other)) {
                    continue;
                }
                thought.swap(one, other);
                int then = thought.worthNow();
                thought.swap(one, other);
                if (then > most) {
                    most = then;
                    found = 10 * one + other;
                }
            }
        }
        return what == 0 ? found : most;
    }

    public int putOut(int what) {
        if (what != 0 && what != 1) {
            return NOT_ANSWERED;
        }
        int most = house.worthNow();
        int found = NONE;
        thought.become(house);
        for (int dream = 0; dream < house.dreamCount; dream++) {
            thought.room[dream] = NONE;
            int then = thought.worthNow();
            thought.room[dream] = house.room[dream];
            if (then > most) {
                most = then;
                found = dream;
            }
        }
        return what == 0 ? found : most;
    }

    public int line(int what) {
        if (what != 0 && what != 1) {
            return NOT_ANSWERED;
        }
        int now = house.worthNow();
        int mostLeak = 0;
        int found = NONE;
        for (int wall = 0; wall < WALLS; wall++) {
            int leak = house.leakOf(wall);
            if (leak > mostLeak) {
                mostLeak = leak;
                found = wall;
            }
        }
        return what == 0 ? found : now + mostLeak;
    }

    // ---- rents that were told

    public int rents(int sheet, int dream, int what) {
        if (!isSheet(sheet) || !house.isDream(dream) || what < 0 || what > 7) {
            return BAD;
        }
        if (sheets.sort[sheet] == NONE) {
            return MISSING;
        }
        if (sheets.size[sheet] != ROOMS) {
            return BAD;
        }
        thought.become(house);
        return what == 0 ? firstOtherwise(sheet, dream) : readBack(sheet, dream, what);
    }

    public int film(int sheet, int dream) {
        if (!isSheet(sheet) || !house.isDream(dream)) {
            return BAD;
        }
        sheets.become(sheet, SHORTS, ROOMS);
        for (int room = 0; room < ROOMS; room++) {
            sheets.put(sheet, room, house.pays(dream, room));
        }
        return ROOMS;
    }

    public int drawn(int seed) {
        runDrawn(seed);
        return thought.taken - house.taken;
    }

    public long chance(int seed, int n, int part) {
        if (n < 1 || n > SEEDS_MOST || (part != 0 && part != 1)) {
            return NO;
        }
        int good = 0;
        for (int i = 0; i < n; i++) {
            if (!runDrawn(seed + i)) {
                good++;
            }
        }
        return inLowestTerms(part == 0 ? good : n, good, n);
    }

    public int image() {
        kept.become(house);
        hasImage = true;
        return kept.dreamCount;
    }

    public int back() {
        if (!hasImage) {
            return STATE;
        }
        house.become(kept);
        return house.dreamCount;
    }

    public int count(int what) {
        switch (what) {
            case 0: return house.dreamCount;
            case 1: return house.lodgers();
            case 2: return house.nightNow;
            case 3: return house.taken;
            case 4: return texts.count;
            case 5: return reader.size;
            case 6: return house.rule;
            default: return BAD;
        }
    }

    // ---- the host

    public int sheet(int sheet, int sort, int n) {
        if (!isSheet(sheet) || sort < NONE || sort > INTS) {
            return BAD;
        }
        if (sort == NONE) {
            sheets.become(sheet, NONE, 0);
            return 1;
        }
        if (n > SHEET_MOST) {
            return BAD;
        }
        if (n < 0) {
            return BELOW_ZERO;
        }
        sheets.become(sheet, sort, n);
        return 1;
    }

    public int cell(int sheet, int i, int v) {
        if (!isSheet(sheet)) {
            return BAD;
        }
        if (sheets.sort[sheet] == NONE) {
            return MISSING;
        }
        if (i < 0 || i >= sheets.size[sheet]) {
            return OUTSIDE;
        }
        sheets.put(sheet, i, v);
        return 1;
    }

    public int copy(int sheet, int i, int other, int j, int n) {
        if (!isSheet(sheet) || !isSheet(other)) {
            return BAD;
        }
        if (sheets.sort[sheet] == NONE || sheets.sort[other] == NONE) {
            return MISSING;
        }
        if (sheets.sort[sheet] != sheets.sort[other]) {
            return OTHER_SORT;
        }
        if (!sheets.holds(sheet, i, n) || !sheets.holds(other, j, n)) {
            return OUTSIDE;
        }
        System.arraycopy(sheets.items[sheet], i, sheets.items[other], j, n);
        return n;
    }

    public int dreams(int sheet, int sort, int from, int n) {
        if (!isSheet(sheet) || sort < BYTES || sort > INTS || n < 0 || n > DREAMS) {
            return BAD;
        }
        if (sheets.sort[sheet] == NONE) {
            return MISSING;
        }
        if (sheets.sort[sheet] != sort) {
            return OTHER_SORT;
        }
        int came = 0;
        int at = from;
        for (int i = 0; i < n; i++) {
            if (!sheets.holds(sheet, at, 3)) {
                return OUTSIDE;
            }
            int[] items = sheets.items[sheet];
            if (dream(items[at], items[at + 1], items[at + 2]) >= 0) {
                came++;
            }
            at += 3;
        }
        return came;
    }

    public int taken(int dream, int k) {
        if (!isKind(k)) {
            return BAD;
        }
        if (!house.isDream(dream)) {
            return MISSING;
        }
        return Kinds.isUnder(house.kind[dream], k) ? house.number[dream] : OTHER_SORT;
    }

    // ---- what the calls above share

    private boolean isSettable(int what, int of) {
        if (what == 0 || what == 1) {
            return true;
        }
        return what == 2 ? isRoom(of) : what > 2 && what <= 6 && house.isDream(of);
    }

    private static int leastOf(int what) {
        return what == 2 || what == 4 ? 1 : 0;
    }

    private static int mostOf(int what) {
        switch (what) {
            case 0: return LINED_MOST;
            case 1: return NIGHT_MOST;
            case 2: return SIZE_MOST;
            case 3: return NUMBER_MOST;
            case 4: return SPACE_MOST;
            case 5: return PURSE_MOST;
            default: return OWE_MOST;
        }
    }

    /** The first room in which the dream, as it is thought to be, pays otherwise than the sheet tells. */
    private int firstOtherwise(int sheet, int dream) {
        for (int room = 0; room < ROOMS; room++) {
            if (thought.pays(dream, room) != sheets.items[sheet][room]) {
                return room;
            }
        }
        return NONE;
    }

    /** All that could be supposed by which the sheet would be right: as bits, how many, or the least. */
    private int readBack(int sheet, int dream, int what) {
        int bits = 0;
        int many = 0;
        int least = NONE;
        int end = supposedEnd(what);
        for (int v = what >= 6 ? 1 : 0; v < end; v++) {
            suppose(what, dream, v);
            if (firstOtherwise(sheet, dream) == NONE) {
                bits |= 1 << v;
                least = many == 0 ? v : least;
                many++;
            }
        }
        if (what <= 3) {
            return bits;
        }
        return what == 4 || what == 6 ? many : least;
    }

    private int supposedEnd(int what) {
        switch (what) {
            case 1: return KINDS;
            case 2: return NUMBER_MOST + 1;
            case 3: return texts.count;
            case 4:
            case 5: return TOLD_NIGHTS;
            default: return SPACE_MOST + 1;
        }
    }

    private void suppose(int what, int dream, int v) {
        switch (what) {
            case 1: thought.kind[dream] = v; break;
            case 2: thought.number[dream] = v; break;
            case 3: thought.rule = v; break;
            case 4:
            case 5: thought.nightNow = v; break;
            default: thought.space[dream] = v; break;
        }
    }

    /** A run, in thought, with the purses that the seed draws: whether anybody is put out in it. */
    private boolean runDrawn(int seed) {
        thought.become(house);
        int z = seed;
        for (int dream = 0; dream < house.dreamCount; dream++) {
            z = z * 1103515245 + 12345;
            thought.purse[dream] = (z >>> 9) % 200;
        }
        int putOut = 0;
        for (int i = 0; i < DRAWN_NIGHTS; i++) {
            putOut |= thought.passNight();
        }
        return putOut != 0;
    }

    /** What is above or below a line, less what both share. */
    private static int inLowestTerms(int part, int above, int below) {
        for (int d = below; d > 1; d--) {
            if (above % d == 0 && below % d == 0) {
                return part / d;
            }
        }
        return part;
    }

    private static int lowestBit(int bits) {
        for (int i = 0; i < DREAMS; i++) {
            if ((bits >> i & 1) != 0) {
                return i;
            }
        }
        return NONE;
    }

    private static int bounded(int v, int most) {
        return Math.max(0, Math.min(most, v));
    }

    private static boolean isRoom(int room) {
        return room >= 0 && room < ROOMS;
    }

    private static boolean isKind(int kind) {
        return kind >= 0 && kind < KINDS;
    }

    private static boolean isSheet(int sheet) {
        return sheet >= 0 && sheet < SHEETS;
    }

    /** What the kinds of dreams have of their own. */
    private static final class Kinds {
        static final int DREAM = 0, SEA = 1, FLYING = 2, NIGHTMARE = 3, PARTY = 4, SIMPLE = 5;

        static int above(int kind) {
            switch (kind) {
                case SEA:
                case FLYING:
                case SIMPLE: return DREAM;
                case NIGHTMARE: return SEA;
                case PARTY: return FLYING;
                default: return NONE;
            }
        }

        static boolean isUnder(int kind, int k) {
            int at = kind;
            for (int i = 0; i < KINDS && at != NONE; i++) {
                if (at == k) {
                    return true;
                }
                at = above(at);
            }
            return false;
        }

        static int needs(int kind, int number, int space) {
            switch (kind) {
                case SEA:
                case NIGHTMARE: return 2 * space;
                case PARTY: return space + number;
                case SIMPLE: return space / 2;
                default: return space;
            }
        }

        static boolean lies(int kind, int floor) {
            switch (kind) {
                case SEA: return floor < 2;
                case NIGHTMARE: return floor < 2 || floor == 3;
                case FLYING:
                case PARTY: return floor >= 2;
                default: return true;
            }
        }

        static int pays(int kind, int number, int v) {
            switch (kind) {
                case SEA: return v + number;
                case FLYING: return 2 * v;
                case NIGHTMARE: return (v + number) / 2;
                case PARTY: return 2 * v + number;
                default: return v;
            }
        }

        static int bears(int kind, int number) {
            switch (kind) {
                case FLYING:
                case PARTY: return 20 + number;
                case NIGHTMARE: return 0;
                case SIMPLE: return 20 + 5 * number;
                default: return 20;
            }
        }
    }

    /**
     * The house as it is, as an image keeps it, or as it is thought to be.
     * Its methods are given dreams and rooms that their callers have tested.
     */
    private static final class House {
        final Texts texts;
        final int[] size = new int[ROOMS];
        final int[] kind = new int[DREAMS];
        final int[] number = new int[DREAMS];
        final int[] space = new int[DREAMS];
        final int[] purse = new int[DREAMS];
        final int[] owe = new int[DREAMS];
        final int[] room = new int[DREAMS];
        int dreamCount;
        int lined;
        int nightNow;
        int taken;
        int rule;

        House(Texts texts) {
            this.texts = texts;
            for (int i = 0; i < ROOMS; i++) {
                size[i] = FIRST_SIZE;
            }
        }

        void become(House other) {
            System.arraycopy(other.size, 0, size, 0, ROOMS);
            System.arraycopy(other.kind, 0, kind, 0, DREAMS);
            System.arraycopy(other.number, 0, number, 0, DREAMS);
            System.arraycopy(other.space, 0, space, 0, DREAMS);
            System.arraycopy(other.purse, 0, purse, 0, DREAMS);
            System.arraycopy(other.owe, 0, owe, 0, DREAMS);
            System.arraycopy(other.room, 0, room, 0, DREAMS);
            dreamCount = other.dreamCount;
            lined = other.lined;
            nightNow = other.nightNow;
            taken = other.taken;
            rule = other.rule;
        }

        boolean isDream(int dream) {
            return dream >= 0 && dream < dreamCount;
        }

        int add(int newKind, int newNumber, int newSpace) {
            if (dreamCount >= DREAMS) {
                return FULL;
            }
            int dream = dreamCount;
            kind[dream] = newKind;
            number[dream] = newNumber;
            space[dream] = newSpace;
            purse[dream] = FIRST_PURSE;
            owe[dream] = 0;
            room[dream] = NONE;
            dreamCount++;
            return dream;
        }

        int lodger(int ofRoom) {
            for (int dream = 0; dream < dreamCount; dream++) {
                if (room[dream] == ofRoom) {
                    return dream;
                }
            }
            return NONE;
        }

        int lodgers() {
            int many = 0;
            for (int dream = 0; dream < dreamCount; dream++) {
                if (room[dream] != NONE) {
                    many++;
                }
            }
            return many;
        }

        int needs(int dream) {
            return Kinds.needs(kind[dream], number[dream], space[dream]);
        }

        int bears(int dream) {
            return Kinds.bears(kind[dream], number[dream]);
        }

        boolean fits(int dream, int inRoom) {
            return Kinds.lies(kind[dream], inRoom / 2) && needs(dream) <= size[inRoom];
        }

        int pays(int dream, int inRoom) {
            int v = bounded(reckon(RENTS, dream, inRoom), 99);
            return bounded(Kinds.pays(kind[dream], number[dream], v), 999);
        }

        int leaks(int dream, int inRoom) {
            return bounded(reckon(LEAKS, dream, inRoom), 99);
        }

        int minds(int dream, int inRoom) {
            return bounded(reckon(MINDS, dream, inRoom), 9);
        }

        private int reckon(int part, int dream, int inRoom) {
            int[] names = texts.names;
            names[0] = size[inRoom];
            names[1] = inRoom / 2;
            names[2] = nightNow;
            names[3] = number[dream];
            names[4] = owe[dream];
            names[5] = space[dream];
            return texts.value(rule, part);
        }

        int leakOf(int wall) {
            int one = lodger(WALL_ONE[wall]);
            int other = lodger(WALL_OTHER[wall]);
            if ((lined >> wall & 1) != 0 || one == NONE || other == NONE) {
                return 0;
            }
            return leaks(one, WALL_ONE[wall]) * minds(other, WALL_OTHER[wall])
                + leaks(other, WALL_OTHER[wall]) * minds(one, WALL_ONE[wall]);
        }

        int worthNow() {
            int worth = 0;
            for (int dream = 0; dream < dreamCount; dream++) {
                if (isRoom(room[dream])) {
                    worth += pays(dream, room[dream]);
                }
            }
            for (int wall = 0; wall < WALLS; wall++) {
                worth -= leakOf(wall);
            }
            return worth;
        }

        /** A night: the dreams that are put out in it, as bits. */
        int passNight() {
            int putOut = 0;
            for (int dream = 0; dream < dreamCount; dream++) {
                if (!isRoom(room[dream])) {
                    continue;
                }
                int due = pays(dream, room[dream]);
                if (purse[dream] >= due) {
                    purse[dream] -= due;
                    taken += due;
                } else {
                    owe[dream] = Math.min(OWE_MOST, owe[dream] + due);
                }
                // one that could pay is put out too, if it owes too much from before
                if (owe[dream] > bears(dream)) {
                    room[dream] = NONE;
                    putOut |= 1 << dream;
                }
            }
            nightNow++;
            return putOut;
        }

        boolean canSwap(int one, int other) {
            return canCome(one, room[other]) && canCome(other, room[one]);
        }

        private boolean canCome(int dream, int inRoom) {
            return !isRoom(inRoom) || fits(dream, inRoom);
        }

        void swap(int one, int other) {
            int was = room[one];
            room[one] = room[other];
            room[other] = was;
        }
    }

    /** Seeks, of all ways to let the house, the first one of most worth. */
    private static final class Ways {
        final int[][] pays = new int[DREAMS][ROOMS];
        final int[][] leaks = new int[DREAMS][ROOMS];
        final int[][] minds = new int[DREAMS][ROOMS];
        final int[] mostFrom = new int[DREAMS + 1];
        final int[] lodger = new int[ROOMS];
        final int[] way = new int[DREAMS];
        final int[] bestWay = new int[DREAMS];
        int bestWorth;
        int dreamCount;
        int lined;

        void seek(House house) {
            dreamCount = house.dreamCount;
            lined = house.lined;
            mostFrom[dreamCount] = 0;
            for (int dream = dreamCount - 1; dream >= 0; dream--) {
                mostFrom[dream] = mostFrom[dream + 1] + weigh(house, dream);
            }
            for (int room = 0; room < ROOMS; room++) {
                lodger[room] = NONE;
            }
            // less than the way that is tried first, all out, is worth
            bestWorth = -1;
            place(this, 0, 0);
        }

        /** What the dream pays (NONE where it does not fit), leaks, minds in each room: the most it pays. */
        private int weigh(House house, int dream) {
            int most = 0;
            for (int room = 0; room < ROOMS; room++) {
                pays[dream][room] = house.fits(dream, room) ? house.pays(dream, room) : NONE;
                leaks[dream][room] = house.leaks(dream, room);
                minds[dream][room] = house.minds(dream, room);
                most = Math.max(most, pays[dream][room]);
            }
            return most;
        }

        private static void place(Ways w, int dream, int worth) {
            if (dream >= w.dreamCount) {
                w.keepIfBetter(worth);
                return;
            }
            // leaks only take away, and a way must be better to replace an earlier one
            if (worth + w.mostFrom[dream] <= w.bestWorth) {
                return;
            }
            w.way[dream] = NONE;
            place(w, dream + 1, worth);
            for (int room = 0; room < ROOMS; room++) {
                if (w.pays[dream][room] != NONE && w.lodger[room] == NONE) {
                    w.way[dream] = room;
                    int then = worth + w.pays[dream][room] - w.leakWith(dream, room);
                    w.lodger[room] = dream;
                    place(w, dream + 1, then);
                    w.lodger[room] = NONE;
                }
            }
        }

        private void keepIfBetter(int worth) {
            if (worth > bestWorth) {
                bestWorth = worth;
                System.arraycopy(way, 0, bestWay, 0, DREAMS);
            }
        }

        /** What leaks between the dream, if it comes into the room, and those that are in by now. */
        private int leakWith(int dream, int room) {
            int leak = 0;
            for (int wall = 0; wall < WALLS; wall++) {
                int next = NONE;
                if (WALL_ONE[wall] == room) {
                    next = WALL_OTHER[wall];
                } else if (WALL_OTHER[wall] == room) {
                    next = WALL_ONE[wall];
                }
                if (next == NONE || lodger[next] == NONE || (lined >> wall & 1) != 0) {
                    continue;
                }
                int other = lodger[next];
                leak += leaks[dream][room] * minds[other][next] + leaks[other][next] * minds[dream][room];
            }
            return leak;
        }
    }

    /** What a token or a step of a text's code is. A sign's sort is its own character. */
    private static final class Sorts {
        static final int KEY = 256;
        static final int RENTS_KEY = KEY + 6, OR = KEY + 9, AND = KEY + 10, NOT = KEY + 11;
        static final int NAME = 300, NUMBER = 301, END = 302, WRONG = 303;
        // only a step: the - ahead of a ONE
        static final int MINUS = 304;
        static final int WORDS = 12;

        /** The names first, in their order, then the keys. */
        static String word(int n) {
            switch (n) {
                case 0: return "size";
                case 1: return "floor";
                case 2: return "night";
                case 3: return "number";
                case 4: return "owes";
                case 5: return "space";
                case 6: return "rents";
                case 7: return "leaks";
                case 8: return "minds";
                case 9: return "or";
                case 10: return "and";
                default: return "not";
            }
        }

        static boolean isSign(int c) {
            return c == '(' || c == ')' || c == ';' || c == '+' || c == '-' || c == '*' || c == '<' || c == '=';
        }
    }

    /** The texts, as steps: a number of 0 or more stands for itself, -1 .. -6 for a name, below for -sort. */
    private static final class Texts {
        // six E's in one another, each with an or, and, <, +, * that wait, leave 31 numbers waiting at most
        static final int WAITING_MOST = 40;
        final int[][] steps = new int[TEXTS][TAPE_MOST];
        final int[][] ends = new int[TEXTS][PARTS];
        final int[] names = new int[NAMES];
        final int[] waiting = new int[WAITING_MOST];
        int count;

        int add(Reader reader) {
            if (count >= TEXTS) {
                return FULL;
            }
            System.arraycopy(reader.steps, 0, steps[count], 0, TAPE_MOST);
            System.arraycopy(reader.ends, 0, ends[count], 0, PARTS);
            count++;
            return count - 1;
        }

        int value(int text, int part) {
            int from = part == 0 ? 0 : ends[text][part - 1];
            int end = ends[text][part];
            int top = 0;
            for (int i = from; i < end; i++) {
                int step = steps[text][i];
                if (step >= -NAMES) {
                    if (top < WAITING_MOST) {
                        waiting[top++] = step >= 0 ? step : names[-1 - step];
                    }
                } else if (step == -Sorts.NOT || step == -Sorts.MINUS) {
                    if (top >= 1) {
                        waiting[top - 1] = alone(step, waiting[top - 1]);
                    }
                } else if (top >= 2) {
                    top--;
                    waiting[top - 1] = together(step, waiting[top - 1], waiting[top]);
                }
            }
            return top >= 1 ? waiting[0] : 0;
        }

        private static int alone(int step, int a) {
            if (step == -Sorts.MINUS) {
                return -a;
            }
            return a == 0 ? 1 : 0;
        }

        private static int together(int step, int a, int b) {
            switch (step) {
                case -Sorts.OR: return a != 0 || b != 0 ? 1 : 0;
                case -Sorts.AND: return a != 0 && b != 0 ? 1 : 0;
                case -'<': return a < b ? 1 : 0;
                case -'=': return a == b ? 1 : 0;
                case -'+': return a + b;
                case -'-': return a - b;
                default: return a * b;
            }
        }
    }

    /** The tape, cut into tokens, and the steps that are made of them. */
    private static final class Reader {
        static final int OPEN_MOST = 5, DIGITS_MOST = 4;
        static final int OR_LEVEL = 0, AND_LEVEL = 1, NOT_LEVEL = 2, SUM_LEVEL = 3, TERM_LEVEL = 4, ONE_LEVEL = 5;
        final int[] tape = new int[TAPE_MOST];
        int size;
        final int[] sorts = new int[TAPE_MOST + 1];
        final int[] places = new int[TAPE_MOST + 1];
        final int[] values = new int[TAPE_MOST + 1];
        int tokens;
        int at;
        int fault;
        final int[] steps = new int[TAPE_MOST];
        int stepCount;
        final int[] ends = new int[PARTS];

        int append(int letter) {
            if (size >= TAPE_MOST) {
                return FULL;
            }
            tape[size] = letter;
            size++;
            return size;
        }

        /** Reads the tape as a text, and empties it: the place of its fault, or NONE. */
        int read() {
            cut();
            at = 0;
            fault = NONE;
            stepCount = 0;
            for (int part = 0; part < PARTS; part++) {
                need(Sorts.RENTS_KEY + part);
                expression(this, OR_LEVEL, 0);
                need(';');
                ends[part] = stepCount;
            }
            need(Sorts.END);
            size = 0;
            return fault;
        }

        private void cut() {
            tokens = 0;
            int i = 0;
            for (int turn = 0; turn < TAPE_MOST && i < size; turn++) {
                int c = tape[i];
                if (c == 32 || c == 10) {
                    i++;
                } else if (isDigit(c)) {
                    i = cutNumber(i);
                } else if (isLetter(c)) {
                    i = cutWord(i);
                } else {
                    token(Sorts.isSign(c) ? c : Sorts.WRONG, i, 0);
                    i++;
                }
            }
            token(Sorts.END, size, 0);
        }

        private int cutNumber(int from) {
            int v = 0;
            int to = from;
            while (to < size && isDigit(tape[to])) {
                v = v * 10 + tape[to] - '0';
                to++;
            }
            token(to - from > DIGITS_MOST ? Sorts.WRONG : Sorts.NUMBER, from, v);
            return to;
        }

        private int cutWord(int from) {
            int to = from;
            while (to < size && isLetter(tape[to])) {
                to++;
            }
            int word = wordAt(from, to);
            if (word == NONE) {
                token(Sorts.WRONG, from, 0);
            } else if (word < NAMES) {
                token(Sorts.NAME, from, word);
            } else {
                token(Sorts.KEY + word, from, 0);
            }
            return to;
        }

        private int wordAt(int from, int to) {
            for (int n = 0; n < Sorts.WORDS; n++) {
                if (stands(Sorts.word(n), from, to)) {
                    return n;
                }
            }
            return NONE;
        }

        private boolean stands(String word, int from, int to) {
            if (word.length() != to - from) {
                return false;
            }
            for (int i = from; i < to; i++) {
                if (word.charAt(i - from) != tape[i]) {
                    return false;
                }
            }
            return true;
        }

        private static boolean isDigit(int c) {
            return c >= '0' && c <= '9';
        }

        private static boolean isLetter(int c) {
            return c >= 'a' && c <= 'z';
        }

        private void token(int sort, int place, int value) {
            if (tokens < sorts.length) {
                sorts[tokens] = sort;
                places[tokens] = place;
                values[tokens] = value;
                tokens++;
            }
        }

        /** OR, AND, NOT, SUM, TERM by their levels; open: how many ( not - are open. */
        private static void expression(Reader r, int level, int open) {
            if (r.fault != NONE) {
                return;
            }
            if (level >= ONE_LEVEL) {
                one(r, open);
                return;
            }
            if (level == NOT_LEVEL && r.sorts[r.at] == Sorts.NOT) {
                if (r.opens(open)) {
                    expression(r, NOT_LEVEL, open + 1);
                    r.step(-Sorts.NOT);
                }
                return;
            }
            expression(r, level + 1, open);
            int most = level == NOT_LEVEL ? 1 : TAPE_MOST;
            for (int i = 0; i < most && r.fault == NONE && joins(r.sorts[r.at], level); i++) {
                int sort = r.sorts[r.at];
                r.pass();
                expression(r, level + 1, open);
                r.step(-sort);
            }
        }

        private static void one(Reader r, int open) {
            int sort = r.sorts[r.at];
            if (sort == Sorts.NUMBER) {
                r.step(r.values[r.at]);
                r.pass();
            } else if (sort == Sorts.NAME) {
                r.step(-1 - r.values[r.at]);
                r.pass();
            } else if (sort == '-') {
                if (r.opens(open)) {
                    one(r, open + 1);
                    r.step(-Sorts.MINUS);
                }
            } else if (sort == '(') {
                if (r.opens(open)) {
                    expression(r, OR_LEVEL, open + 1);
                    r.need(')');
                }
            } else {
                r.fail();
            }
        }

        private static boolean joins(int sort, int level) {
            switch (level) {
                case OR_LEVEL: return sort == Sorts.OR;
                case AND_LEVEL: return sort == Sorts.AND;
                case NOT_LEVEL: return sort == '<' || sort == '=';
                case SUM_LEVEL: return sort == '+' || sort == '-';
                default: return sort == '*';
            }
        }

        /** Goes past a ( not - if one more may be open. */
        private boolean opens(int open) {
            if (open >= OPEN_MOST) {
                fail();
                return false;
            }
            pass();
            return true;
        }

        private void need(int sort) {
            if (sorts[at] == sort) {
                pass();
            } else {
                fail();
            }
        }

        private void pass() {
            if (fault == NONE && at + 1 < tokens) {
                at++;
            }
        }

        private void fail() {
            if (fault == NONE) {
                fault = places[at];
            }
        }

        private void step(int step) {
            if (fault == NONE && stepCount < TAPE_MOST) {
                steps[stepCount] = step;
                stepCount++;
            }
        }
    }

    /** The host's sheets: rows of numbers, each as wide as its sort. */
    private static final class Sheets {
        final int[] sort = new int[SHEETS];
        final int[] size = new int[SHEETS];
        final int[][] items = new int[SHEETS][SHEET_MOST];

        Sheets() {
            for (int i = 0; i < SHEETS; i++) {
                sort[i] = NONE;
            }
        }

        void become(int sheet, int newSort, int newSize) {
            sort[sheet] = newSort;
            size[sheet] = newSize;
            for (int i = 0; i < SHEET_MOST; i++) {
                items[sheet][i] = 0;
            }
        }

        void put(int sheet, int i, int v) {
            switch (sort[sheet]) {
                case BYTES: items[sheet][i] = (byte) v; break;
                case SHORTS: items[sheet][i] = (short) v; break;
                default: items[sheet][i] = v; break;
            }
        }

        boolean holds(int sheet, int from, int n) {
            return from >= 0 && n >= 0 && from <= size[sheet] && n <= size[sheet] - from;
        }
    }
}

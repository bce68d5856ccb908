import java.util.Arrays;

/** An inn of rooms, keys, doors and guests, told as a text; see README.md. */
public final class KeyInn {
    public static final int NONE = -1;

    private static final int ABSENT = -2;
    private static final int REFUSED = -3;
    private static final int FAULTY = -4;
    private static final int IMPOSSIBLE = -5;
    private static final int EMPTY = -6;
    private static final int BEYOND = -7;
    private static final int UNLIKE = -8;

    private static final int MOST_BYTES = 1600;
    private static final int FEWEST_ROOMS = 2;
    private static final int MOST_ROOMS = 10;
    private static final int MOST_NIGHTS = 20;
    private static final int MOST_KEYS = 12;
    private static final int MOST_DOORS = 8;
    private static final int MOST_GUESTS = 9;
    private static final int MOST_LUGGAGE = 99;
    private static final int MOST_THEFTS = 20;
    private static final int MOST_HOUSED = 4;
    private static final int MOST_CHAINED = 7;
    private static final int ROOMS_OF_KEY = 3;
    private static final int SLOTS = 4;
    private static final int WIDTHS = 4;
    private static final int MOST_NUMBERS = 60;
    private static final int IMAGES = 3;
    private static final int MOST_SEED = 2000000000;
    private static final int MOST_SEASONS = 20;
    private static final int FIRST_NIGHT = 10;
    private static final int MODULUS = 1000000007;

    private final Tape tape;
    private final Reader reader;
    private final World now;
    /** Bookings in thought are tried here, so that a question leaves the inn as it is. */
    private final World thought;
    private final World[] images;
    private final Row[] slots;
    private final Beds beds;
    private final Chain chain;
    private final Least least;
    /** A set of guests each: those whom a guest fears, or those who can have done a theft. */
    private final int[] sets;

    public KeyInn() {
        tape = new Tape();
        reader = new Reader(tape);
        now = new World();
        thought = new World();
        images = new World[IMAGES];
        for (int k = 0; k < IMAGES; k++) {
            images[k] = new World();
        }
        slots = new Row[SLOTS];
        for (int s = 0; s < SLOTS; s++) {
            slots[s] = new Row();
        }
        beds = new Beds();
        chain = new Chain();
        least = new Least();
        sets = new int[MOST_THEFTS];
    }

    // ---- the text ----

    public int feed(int a, int b, int c, int d, int e) {
        if (tape.length + 20 > MOST_BYTES) {
            return NONE;
        }
        tape.append(a);
        tape.append(b);
        tape.append(c);
        tape.append(d);
        tape.append(e);
        return tape.length;
    }

    public int end(int n) {
        if (n < 0 || n > tape.length) {
            return NONE;
        }
        tape.length = n;
        return n;
    }

    public int inn() {
        boolean isFaultless = reader.readInn();
        tape.length = 0;
        if (!isFaultless) {
            return FAULTY;
        }
        now.renew(reader.draft);
        return now.inn.lines;
    }

    public int fault(int what) {
        switch (what) {
            case 0:
                return reader.fault;
            case 1:
                return reader.place;
            default:
                return NONE;
        }
    }

    // ---- keys, rooms and guests ----

    public int key(int key, int what) {
        if (!now.inn.hasKey(key)) {
            return ABSENT;
        }
        if (what == 0) {
            return now.opens[key];
        }
        if (what == 1) {
            return hasBit(now.lost, key) ? 1 : 0;
        }
        if (what < FIRST_NIGHT || !now.inn.hasNight(what - FIRST_NIGHT)) {
            return ABSENT;
        }
        return now.ownerOf(key, what - FIRST_NIGHT);
    }

    public int reach(int keys) {
        if (!now.inn.stands() || !isSetOf(keys, now.inn.keys)) {
            return ABSENT;
        }
        return now.rangeOf(keys);
    }

    public int steps(int keys, int room) {
        if (!isSetOf(keys, now.inn.keys) || !now.inn.hasRoom(room)) {
            return ABSENT;
        }
        int been = now.openedBy(keys);
        for (int rooms = 1; rooms <= now.inn.rooms; rooms++) {
            if (hasBit(been, room)) {
                return rooms;
            }
            been = now.inn.oneDoorOn(been);
        }
        return NONE;
    }

    public int trusts(int guest, int other) {
        if (!now.inn.hasGuest(guest) || !now.inn.hasGuest(other) || guest == other) {
            return ABSENT;
        }
        return now.inn.isTrusted(guest, other) ? 1 : 0;
    }

    public int guest(int guest, int what) {
        if (!now.inn.hasGuest(guest)) {
            return ABSENT;
        }
        switch (what) {
            case 0:
                return now.room[guest];
            case 1:
                return now.key[guest];
            case 2:
                return now.inn.from[guest];
            case 3:
                return now.inn.until[guest];
            case 4:
                return now.inn.luggage[guest];
            case 5:
                return now.inn.wants[guest];
            default:
                return ABSENT;
        }
    }

    // ---- bookings and fears ----

    public int book(int guest, int room, int key) {
        if (!now.inn.hasGuest(guest) || !now.inn.hasRoom(room) || !now.inn.hasKey(key)) {
            return ABSENT;
        }
        if (now.isBooked(guest)) {
            return REFUSED;
        }
        if (!now.canTake(guest, room, key)) {
            return IMPOSSIBLE;
        }
        now.take(guest, room, key);
        return 0;
    }

    public int off(int guest) {
        if (!now.inn.hasGuest(guest)) {
            return ABSENT;
        }
        if (!now.isBooked(guest)) {
            return NONE;
        }
        int had = wayOf(now.room[guest], now.key[guest]);
        now.take(guest, NONE, NONE);
        return had;
    }

    public int comes(int guest, int night) {
        if (!now.inn.hasGuest(guest) || !now.inn.hasNight(night)) {
            return ABSENT;
        }
        return now.comesTo(guest, night);
    }

    public int fears(int guest, int night) {
        if (!now.inn.hasGuest(guest) || !now.inn.hasNight(night)) {
            return ABSENT;
        }
        return now.fearedBy(guest, night);
    }

    public int unsafe(int night, int what) {
        if (!now.inn.hasNight(night)) {
            return ABSENT;
        }
        switch (what) {
            case 0:
                return Integer.bitCount(now.fearful(night));
            case 1:
                return now.pairs(night);
            case 2:
                return now.firstPair(night);
            default:
                return ABSENT;
        }
    }

    public int risk(int night) {
        if (!now.inn.hasNight(night)) {
            return ABSENT;
        }
        int uneasy = now.fearful(night) | now.sleepersIn(now.rangeOf(now.lost), night);
        int sum = 0;
        for (int g = 0; g < now.inn.guests; g++) {
            if (hasBit(uneasy, g)) {
                sum += now.inn.luggage[g];
            }
        }
        return sum;
    }

    public int fits(int guest) {
        int refusal = refuseFitting(guest);
        return refusal != 0 ? refusal : now.quietWays(guest);
    }

    public int first(int guest) {
        int refusal = refuseFitting(guest);
        return refusal != 0 ? refusal : now.quietWay(guest, 0);
    }

    public int give(int guest) {
        int refusal = refuseFitting(guest);
        return refusal != 0 ? refusal : kindestWay(guest);
    }

    public int still(int guest) {
        int refusal = refuseFitting(guest);
        if (refusal != 0) {
            return refusal;
        }
        int way = kindestWay(guest);
        return way == NONE ? NONE : othersBehind(guest, way);
    }

    private int refuseFitting(int guest) {
        if (!now.inn.hasGuest(guest)) {
            return ABSENT;
        }
        return now.isBooked(guest) ? REFUSED : 0;
    }

    /** The way behind which most others still fit, the first of several. */
    private int kindestWay(int guest) {
        int ways = now.quietWays(guest);
        int best = NONE;
        int most = -1;
        for (int i = 0; i < ways; i++) {
            int way = now.quietWay(guest, i);
            int others = othersBehind(guest, way);
            if (others > most) {
                most = others;
                best = way;
            }
        }
        return best;
    }

    private int othersBehind(int guest, int way) {
        thought.copyOf(now);
        thought.take(guest, way / 100, way % 100);
        int others = 0;
        for (int g = 0; g < thought.inn.guests; g++) {
            if (!thought.isBooked(g) && thought.quietWay(g, 0) != NONE) {
                others++;
            }
        }
        return others;
    }

    // ---- who can be housed on a night ----

    public int most(int night) {
        int refusal = refuseHousing(night);
        if (refusal != 0) {
            return refusal;
        }
        beds.prepare(now, night);
        return beds.mostWithout(NONE);
    }

    public int ways(int night) {
        int refusal = refuseHousing(night);
        if (refusal != 0) {
            return refusal;
        }
        beds.prepare(now, night);
        return beds.waysForAll();
    }

    public int lay(int night, int guest) {
        if (!now.inn.isThere(guest, night)) {
            return ABSENT;
        }
        int refusal = refuseHousing(night);
        if (refusal != 0) {
            return refusal;
        }
        beds.prepare(now, night);
        beds.mostWithout(NONE);
        return beds.firstWayOf(guest);
    }

    public int spare(int night) {
        int refusal = refuseHousing(night);
        if (refusal != 0) {
            return refusal;
        }
        beds.prepare(now, night);
        int best = NONE;
        int most = -1;
        // No key can be missed better than one without which as many are housed as by all.
        int byAll = beds.mostWithout(NONE);
        for (int k = 0; k < now.inn.keys && most < byAll; k++) {
            int housed = beds.mostWithout(k);
            if (housed > most) {
                most = housed;
                best = k;
            }
        }
        return best;
    }

    private int refuseHousing(int night) {
        if (!now.inn.hasNight(night)) {
            return ABSENT;
        }
        return Integer.bitCount(now.inn.guestsOn(night)) > MOST_HOUSED ? REFUSED : 0;
    }

    // ---- rings in which each trusts the one whose key opens his room ----

    public int full(int night) {
        int refusal = refuseChaining(night);
        if (refusal != 0) {
            return refusal;
        }
        chain.search(now.inn, night);
        return chain.ways;
    }

    public int rings(int night, int what) {
        if (what != 0 && what != 1) {
            return ABSENT;
        }
        int refusal = refuseChaining(night);
        if (refusal != 0) {
            return refusal;
        }
        chain.search(now.inn, night);
        return what == 0 ? chain.fewest : chain.most;
    }

    public int next(int night, int guest) {
        if (!now.inn.isThere(guest, night)) {
            return ABSENT;
        }
        int refusal = refuseChaining(night);
        if (refusal != 0) {
            return refusal;
        }
        chain.search(now.inn, night);
        return chain.firstNextOf(guest);
    }

    private int refuseChaining(int night) {
        if (!now.inn.hasNight(night)) {
            return ABSENT;
        }
        int guests = Integer.bitCount(now.inn.guestsOn(night));
        return guests < 2 || guests > MOST_CHAINED ? REFUSED : 0;
    }

    // ---- keys that are lost ----

    public int lose(int key, boolean is) {
        if (!now.inn.hasKey(key)) {
            return ABSENT;
        }
        if (hasBit(now.lost, key) == is) {
            return IMPOSSIBLE;
        }
        now.lost ^= 1 << key;
        return 0;
    }

    public int open() {
        return now.inn.stands() ? now.rangeOf(now.lost) : ABSENT;
    }

    public int bare(int night) {
        if (!now.inn.hasNight(night)) {
            return ABSENT;
        }
        return now.sleepersIn(now.rangeOf(now.lost), night);
    }

    public int harm(int key, int night) {
        if (!now.inn.hasKey(key) || !now.inn.hasNight(night)) {
            return ABSENT;
        }
        return bareIfLost(key, night);
    }

    public int worst(int night) {
        if (!now.inn.hasNight(night)) {
            return ABSENT;
        }
        int best = NONE;
        int most = -1;
        for (int k = 0; k < now.inn.keys; k++) {
            int bared = bareIfLost(k, night);
            if (bared > most) {
                most = bared;
                best = k;
            }
        }
        return best;
    }

    private int bareIfLost(int key, int night) {
        return Integer.bitCount(now.sleepersIn(now.rangeOf(now.lost | 1 << key), night));
    }

    public int change(int room) {
        return now.inn.hasRoom(room) ? now.changeLock(room) : ABSENT;
    }

    public int fewest(int night, int what) {
        if (!now.inn.hasNight(night) || what != 0 && what != 1) {
            return ABSENT;
        }
        // A room that a lost key opens must be changed just if a sleeper's room is joined
        // to it: no other change can bar that way, so this set is the only fewest one.
        int sleptIn = now.roomsSleptIn(night);
        int opened = now.openedBy(now.lost);
        int locks = 0;
        for (int r = 0; r < now.inn.rooms; r++) {
            if (hasBit(opened, r) && (now.inn.joined[r] & sleptIn) != 0) {
                locks |= 1 << r;
            }
        }
        return what == 0 ? Integer.bitCount(locks) : locks;
    }

    // ---- thefts ----

    public int theft(int room, int night) {
        if (!now.inn.hasRoom(room) || !now.inn.hasNight(night)) {
            return ABSENT;
        }
        if (now.thefts >= MOST_THEFTS) {
            return REFUSED;
        }
        now.theftRoom[now.thefts] = room;
        now.theftNight[now.thefts] = night;
        now.thefts++;
        return now.thefts;
    }

    public int away(int guest, int night) {
        if (!now.inn.hasGuest(guest) || !now.inn.hasNight(night)) {
            return ABSENT;
        }
        if (hasBit(now.away[guest], night)) {
            return IMPOSSIBLE;
        }
        now.away[guest] |= 1 << night;
        return 0;
    }

    public int could(int i) {
        return i >= 0 && i < now.thefts ? now.suspectsOf(i) : ABSENT;
    }

    public int all() {
        if (!now.inn.stands()) {
            return ABSENT;
        }
        int suspects = setOf(now.inn.guests);
        for (int i = 0; i < now.thefts; i++) {
            suspects &= now.suspectsOf(i);
        }
        return suspects;
    }

    public int gang(int what) {
        if (!now.inn.stands() || what != 0 && what != 1) {
            return ABSENT;
        }
        for (int i = 0; i < now.thefts; i++) {
            sets[i] = now.suspectsOf(i);
        }
        least.forget();
        for (int guests = 0; guests <= setOf(now.inn.guests); guests++) {
            if (least.isBetter(guests) && didAll(guests)) {
                least.hold(guests);
            }
        }
        return least.answer(what);
    }

    /** Whether each theft (its suspects stand in sets) can be one of theirs. */
    private boolean didAll(int guests) {
        for (int i = 0; i < now.thefts; i++) {
            if ((sets[i] & guests) == 0) {
                return false;
            }
        }
        return true;
    }

    // ---- a cleaner's keys ----

    public int round(int what) {
        return cleanersKeys(setOf(now.inn.rooms), what);
    }

    public int rounds(int rooms, int what) {
        return isSetOf(rooms, now.inn.rooms) ? cleanersKeys(rooms, what) : ABSENT;
    }

    private int cleanersKeys(int rooms, int what) {
        if (!now.inn.stands() || what != 0 && what != 1) {
            return ABSENT;
        }
        least.forget();
        for (int keys = 0; keys <= setOf(now.inn.keys); keys++) {
            if ((keys & now.lost) == 0 && least.isBetter(keys) && (rooms & ~now.rangeOf(keys)) == 0) {
                least.hold(keys);
            }
        }
        return least.answer(what);
    }

    public int loops() {
        return now.inn.stands() ? now.inn.ringsWithout(now.lost) : ABSENT;
    }

    // ---- what would make a night safer ----

    public int leave(int night, int what) {
        if (!now.inn.hasNight(night) || what != 0 && what != 1) {
            return ABSENT;
        }
        for (int g = 0; g < now.inn.guests; g++) {
            sets[g] = now.fearedBy(g, night);
        }
        least.forget();
        for (int guests = 0; guests <= setOf(now.inn.guests); guests++) {
            if (least.isBetter(guests) && restIsCalm(guests)) {
                least.hold(guests);
            }
        }
        return least.answer(what);
    }

    /** Whether nobody of the others fears (sets tells whom) another one of them. */
    private boolean restIsCalm(int gone) {
        for (int g = 0; g < now.inn.guests; g++) {
            if (!hasBit(gone, g) && (sets[g] & ~gone) != 0) {
                return false;
            }
        }
        return true;
    }

    public int shut(int night, int what) {
        if (!now.inn.hasNight(night) || what != 0 && what != 1) {
            return ABSENT;
        }
        thought.copyOf(now);
        int best = NONE;
        int fewest = NONE;
        for (int d = 0; d < now.inn.doors; d++) {
            thought.inn.join(d);
            thought.measure();
            int pairs = thought.pairs(night);
            if (best == NONE || pairs < fewest) {
                fewest = pairs;
                best = d;
            }
        }
        return what == 0 ? best : fewest;
    }

    public int swap(int one, int other, int night) {
        Inn inn = now.inn;
        if (!inn.hasGuest(one) || !inn.hasGuest(other) || one == other || !inn.hasNight(night)) {
            return ABSENT;
        }
        if (!now.isBooked(one) || !now.isBooked(other)
                || inn.from[one] != inn.from[other] || inn.until[one] != inn.until[other]) {
            return REFUSED;
        }
        if (!hasBit(inn.wants[one], now.room[other]) || !hasBit(inn.wants[other], now.room[one])) {
            return IMPOSSIBLE;
        }
        thought.copyOf(now);
        thought.take(one, now.room[other], now.key[other]);
        thought.take(other, now.room[one], now.key[one]);
        return thought.pairs(night);
    }

    public int visitors(int room, int night) {
        if (!now.inn.hasRoom(room) || !now.inn.hasNight(night)) {
            return ABSENT;
        }
        return now.comersTo(room, night);
    }

    public int calm() {
        if (!now.inn.stands()) {
            return ABSENT;
        }
        int lostRange = now.rangeOf(now.lost);
        int most = 0;
        int inRow = 0;
        for (int n = 0; n < now.inn.nights; n++) {
            boolean isCalm = now.fearful(n) == 0 && now.sleepersIn(lostRange, n) == 0;
            inRow = isCalm ? inRow + 1 : 0;
            most = Math.max(most, inRow);
        }
        return most;
    }

    // ---- bookings in thought ----

    public int judge(int slot) {
        if (!isSlot(slot) || !now.inn.stands()) {
            return ABSENT;
        }
        return slots[slot].filled ? bookInThought(slots[slot]) : EMPTY;
    }

    public int then(int slot, int night) {
        if (!isSlot(slot) || !now.inn.hasNight(night)) {
            return ABSENT;
        }
        if (!slots[slot].filled) {
            return EMPTY;
        }
        bookInThought(slots[slot]);
        return thought.pairs(night);
    }

    /** Books the row's numbers in thought up to the first that can't be: how many. */
    private int bookInThought(Row bookings) {
        thought.copyOf(now);
        for (int i = 0; i < bookings.size; i++) {
            if (!thought.takeNumber(bookings.numbers[i])) {
                return i;
            }
        }
        return bookings.size;
    }

    public int season(int seed) {
        return now.inn.stands() && isSeed(seed) ? bookedBySeason(seed) : ABSENT;
    }

    public int seasons(int seed, int n, int what) {
        if (!now.inn.stands() || !isSeed(seed) || n < 1 || n > MOST_SEASONS
                || !isSeed(seed + n - 1) || what < 0 || what > 2) {
            return ABSENT;
        }
        int sum = 0;
        int most = 0;
        int fewest = MOST_GUESTS;
        for (int i = 0; i < n; i++) {
            int booked = bookedBySeason(seed + i);
            sum += booked;
            most = Math.max(most, booked);
            fewest = Math.min(fewest, booked);
        }
        if (what == 0) {
            return sum;
        }
        return what == 1 ? most : fewest;
    }

    private int bookedBySeason(int seed) {
        thought.copyOf(now);
        long x = seed;
        for (int g = 0; g < thought.inn.guests; g++) {
            int ways = thought.isBooked(g) ? 0 : thought.quietWays(g);
            if (ways > 0) {
                x = (1103515245L * x + 12345L) % 2147483648L;
                int way = thought.quietWay(g, (int) (x / 65536L % ways));
                thought.take(g, way / 100, way % 100);
            }
        }
        return Integer.bitCount(thought.booked());
    }

    // ---- counts and images ----

    public int count(int what) {
        switch (what) {
            case 0:
                return now.inn.rooms;
            case 1:
                return now.inn.nights;
            case 2:
                return now.inn.keys;
            case 3:
                return now.inn.doors;
            case 4:
                return now.inn.guests;
            case 5:
                return now.inn.lines;
            case 6:
                return tape.length;
            case 7:
                return now.booked();
            case 8:
                return now.lost;
            case 9:
                return now.thefts;
            case 10:
                return filledSlots();
            default:
                return NONE;
        }
    }

    private int filledSlots() {
        int filled = 0;
        for (int s = 0; s < SLOTS; s++) {
            if (slots[s].filled) {
                filled++;
            }
        }
        return filled;
    }

    public int keep(int k) {
        if (k < 0 || k >= IMAGES) {
            return ABSENT;
        }
        images[k].copyOf(now);
        images[k].kept = true;
        return 0;
    }

    public int back(int k) {
        if (k < 0 || k >= IMAGES) {
            return ABSENT;
        }
        if (!images[k].kept) {
            return EMPTY;
        }
        now.copyOf(images[k]);
        return 0;
    }

    // ---- rows of numbers ----

    public int row(int slot, int width, int n) {
        if (!isSlot(slot) || width < 0 || width >= WIDTHS || n > MOST_NUMBERS) {
            return ABSENT;
        }
        if (n < 0) {
            return REFUSED;
        }
        slots[slot].begin(width, n);
        return 0;
    }

    public int write(int slot, int i, long v) {
        if (!isSlot(slot)) {
            return ABSENT;
        }
        if (!slots[slot].filled) {
            return EMPTY;
        }
        if (i < 0 || i >= slots[slot].size) {
            return BEYOND;
        }
        slots[slot].put(i, v);
        return 0;
    }

    public int paste(int slot, int i, int to, int k, int n) {
        if (!isSlot(slot) || !isSlot(to)) {
            return ABSENT;
        }
        Row source = slots[slot];
        Row target = slots[to];
        if (!source.filled || !target.filled) {
            return EMPTY;
        }
        if (source.width != target.width) {
            return UNLIKE;
        }
        if (!source.spans(i, n) || !target.spans(k, n)) {
            return BEYOND;
        }
        System.arraycopy(source.numbers, i, target.numbers, k, n);
        return 0;
    }

    // ---- small questions ----

    private static boolean hasBit(int set, int i) {
        return (set >> i & 1) != 0;
    }

    /** The set of 0 .. n less 1. */
    private static int setOf(int n) {
        return (1 << n) - 1;
    }

    private static boolean isSetOf(int set, int n) {
        return (set & ~setOf(n)) == 0;
    }

    private static int wayOf(int room, int key) {
        return 100 * room + key;
    }

    private static boolean isSlot(int slot) {
        return slot >= 0 && slot < SLOTS;
    }

    private static boolean isSeed(int seed) {
        return seed >= 0 && seed <= MOST_SEED;
    }

    /** The bytes that have come and are not read yet. */
    private static final class Tape {
        final byte[] bytes = new byte[MOST_BYTES];
        int length;

        /** Puts four bytes behind the others, the highest first. */
        void append(int four) {
            for (int shift = 24; shift >= 0 && length < MOST_BYTES; shift -= 8) {
                bytes[length] = (byte) (four >> shift);
                length++;
            }
        }

        /** NONE: the tape has not so many. */
        int signAt(int i) {
            return i >= 0 && i < length ? bytes[i] & 255 : NONE;
        }
    }

    /** What the text tells; it stays until another text is read. */
    private static final class Inn {
        int rooms;
        int nights;
        int lines;
        int keys;
        int doors;
        int guests;
        final int[] told = new int[MOST_KEYS];
        final int[] doorFrom = new int[MOST_DOORS];
        final int[] doorTo = new int[MOST_DOORS];
        final int[] from = new int[MOST_GUESTS];
        final int[] until = new int[MOST_GUESTS];
        final int[] luggage = new int[MOST_GUESTS];
        final int[] trust = new int[MOST_GUESTS];
        final int[] wants = new int[MOST_GUESTS];
        /** Of each room those to which doors lead from it, itself too. */
        final int[] joined = new int[MOST_ROOMS];

        void clear() {
            rooms = 0;
            nights = 0;
            lines = 0;
            keys = 0;
            doors = 0;
            guests = 0;
        }

        void copyOf(Inn other) {
            rooms = other.rooms;
            nights = other.nights;
            lines = other.lines;
            keys = other.keys;
            doors = other.doors;
            guests = other.guests;
            System.arraycopy(other.told, 0, told, 0, MOST_KEYS);
            System.arraycopy(other.doorFrom, 0, doorFrom, 0, MOST_DOORS);
            System.arraycopy(other.doorTo, 0, doorTo, 0, MOST_DOORS);
            System.arraycopy(other.from, 0, from, 0, MOST_GUESTS);
            System.arraycopy(other.until, 0, until, 0, MOST_GUESTS);
            System.arraycopy(other.luggage, 0, luggage, 0, MOST_GUESTS);
            System.arraycopy(other.trust, 0, trust, 0, MOST_GUESTS);
            System.arraycopy(other.wants, 0, wants, 0, MOST_GUESTS);
            System.arraycopy(other.joined, 0, joined, 0, MOST_ROOMS);
        }

        /** An empty text is no inn: each inn that is told has rooms. */
        boolean stands() {
            return rooms > 0;
        }

        boolean hasRoom(int room) {
            return room >= 0 && room < rooms;
        }

        boolean hasNight(int night) {
            return night >= 0 && night < nights;
        }

        boolean hasKey(int key) {
            return key >= 0 && key < keys;
        }

        boolean hasGuest(int guest) {
            return guest >= 0 && guest < guests;
        }

        boolean isTrusted(int guest, int other) {
            return hasBit(trust[guest], other);
        }

        /** Whether it is a guest and one of his nights. */
        boolean isThere(int guest, int night) {
            return guest >= 0 && guest < guests && night >= from[guest] && night <= until[guest];
        }

        boolean meet(int guest, int other) {
            return from[guest] <= until[other] && from[other] <= until[guest];
        }

        int guestsOn(int night) {
            int there = 0;
            for (int g = 0; g < guests; g++) {
                if (isThere(g, night)) {
                    there |= 1 << g;
                }
            }
            return there;
        }

        /** Finds the rooms that doors join; one door may be shut (NONE: none is). */
        void join(int shutDoor) {
            for (int r = 0; r < rooms; r++) {
                joined[r] = 1 << r;
            }
            // Each pass carries every room one door farther at least.
            for (int pass = 1; pass < rooms; pass++) {
                for (int d = 0; d < doors; d++) {
                    if (d != shutDoor) {
                        int both = joined[doorFrom[d]] | joined[doorTo[d]];
                        joined[doorFrom[d]] = both;
                        joined[doorTo[d]] = both;
                    }
                }
            }
        }

        int joinedTo(int set) {
            int all = 0;
            for (int r = 0; r < rooms; r++) {
                if (hasBit(set, r)) {
                    all |= joined[r];
                }
            }
            return all;
        }

        int oneDoorOn(int set) {
            int wider = set;
            for (int d = 0; d < doors; d++) {
                if (hasBit(set, doorFrom[d])) {
                    wider |= 1 << doorTo[d];
                }
                if (hasBit(set, doorTo[d])) {
                    wider |= 1 << doorFrom[d];
                }
            }
            return wider;
        }

        /** How many rings the keys make as they are told, but for those that are lost. */
        int ringsWithout(int lost) {
            int rings = 0;
            int seen = lost;
            for (int k = 0; k < keys; k++) {
                if (!hasBit(seen, k)) {
                    int group = groupOf(k, lost);
                    seen |= group;
                    if (isRing(group)) {
                        rings++;
                    }
                }
            }
            return rings;
        }

        /** The keys that hang together with a key by rooms that two of them open. */
        private int groupOf(int key, int lost) {
            int group = 1 << key;
            for (int pass = 1; pass < keys; pass++) {
                int opened = toldRooms(group);
                for (int k = 0; k < keys; k++) {
                    if (!hasBit(lost, k) && (told[k] & opened) != 0) {
                        group |= 1 << k;
                    }
                }
            }
            return group;
        }

        private int toldRooms(int set) {
            int opened = 0;
            for (int k = 0; k < keys; k++) {
                if (hasBit(set, k)) {
                    opened |= told[k];
                }
            }
            return opened;
        }

        /** A whole group is one ring just if each key opens two rooms, and two keys each room. */
        private boolean isRing(int group) {
            int once = 0;
            int twice = 0;
            for (int k = 0; k < keys; k++) {
                if (hasBit(group, k)) {
                    if (Integer.bitCount(told[k]) != 2 || (told[k] & twice) != 0) {
                        return false;
                    }
                    twice |= told[k] & once;
                    once |= told[k];
                }
            }
            return once == twice;
        }
    }

    /** Reads a tape as an inn, token by token, up to the first fault. */
    private static final class Reader {
        private static final int END = 0;
        private static final int WORD = 1;
        private static final int NUMBER = 2;
        private static final int SIGN = 3;
        private static final int NO_TOKEN = 4;

        private static final int INN = 0;
        private static final int KEY = 1;
        private static final int DOOR = 2;
        private static final int GUEST = 3;
        private static final int TRUST = 4;
        private static final int WANTS = 5;

        /** Far above every bound, and far below where ten times it would wrap around. */
        private static final int HUGE = 100000;

        final Inn draft = new Inn();
        int fault;
        int place = NONE;
        private final Tape source;
        private int kind;
        private int start;
        private int stop;
        private int value;
        /** The guests whose wants have been told: the others want all rooms. */
        private int choosy;

        Reader(Tape tape) {
            source = tape;
        }

        boolean readInn() {
            fault = 0;
            place = NONE;
            stop = 0;
            choosy = 0;
            draft.clear();
            advance();
            for (int i = 0; i < MOST_BYTES && fault == 0 && kind != END; i++) {
                readLine(headOfLine());
            }
            draft.join(NONE);
            return fault == 0;
        }

        private int headOfLine() {
            if (isWord("inn")) {
                return INN;
            }
            if (isWord("key")) {
                return KEY;
            }
            if (isWord("door")) {
                return DOOR;
            }
            if (isWord("guest")) {
                return GUEST;
            }
            if (isWord("trust")) {
                return TRUST;
            }
            return isWord("wants") ? WANTS : NONE;
        }

        private void readLine(int head) {
            if (head == NONE || (head == INN) != (draft.lines == 0)) {
                fail(1);
                return;
            }
            if (isOneTooMany(head)) {
                fail(3);
                return;
            }
            advance();
            switch (head) {
                case INN:
                    readHouse();
                    break;
                case KEY:
                    readKey();
                    break;
                case DOOR:
                    readDoor();
                    break;
                case GUEST:
                    readGuest();
                    break;
                case TRUST:
                    readTrust();
                    break;
                default:
                    readWants();
                    break;
            }
            readSign();
            draft.lines++;
        }

        private boolean isOneTooMany(int head) {
            return head == KEY && draft.keys >= MOST_KEYS
                    || head == DOOR && draft.doors >= MOST_DOORS
                    || head == GUEST && draft.guests >= MOST_GUESTS;
        }

        private void readHouse() {
            readWord("rooms");
            draft.rooms = readNumber(FEWEST_ROOMS, MOST_ROOMS, 0);
            readWord("nights");
            draft.nights = readNumber(1, MOST_NIGHTS, 0);
        }

        private void readKey() {
            int last = draft.rooms - 1;
            int opened = 1 << readNumber(0, last, 0);
            opened |= 1 << readNumber(0, last, opened);
            if (kind == NUMBER) {
                opened |= 1 << readNumber(0, last, opened);
            }
            draft.told[draft.keys] = opened;
            draft.keys++;
        }

        private void readDoor() {
            int last = draft.rooms - 1;
            int room = readNumber(0, last, 0);
            readWord("to");
            draft.doorFrom[draft.doors] = room;
            draft.doorTo[draft.doors] = readNumber(0, last, 1 << room);
            draft.doors++;
        }

        private void readGuest() {
            int g = draft.guests;
            int last = draft.nights - 1;
            readWord("from");
            draft.from[g] = readNumber(0, last, 0);
            readWord("to");
            draft.until[g] = readNumber(draft.from[g], last, 0);
            readWord("luggage");
            draft.luggage[g] = readNumber(0, MOST_LUGGAGE, 0);
            draft.trust[g] = 0;
            draft.wants[g] = setOf(draft.rooms);
            draft.guests++;
        }

        private void readTrust() {
            int last = draft.guests - 1;
            int g = readNumber(0, last, 0);
            int others = 1 << readNumber(0, last, 1 << g);
            for (int i = 0; i < MOST_BYTES && kind == NUMBER && fault == 0; i++) {
                others |= 1 << readNumber(0, last, 1 << g);
            }
            if (fault == 0) {
                draft.trust[g] |= others;
            }
        }

        private void readWants() {
            int last = draft.rooms - 1;
            int g = readNumber(0, draft.guests - 1, 0);
            int rooms = 1 << readNumber(0, last, 0);
            for (int i = 0; i < MOST_BYTES && kind == NUMBER && fault == 0; i++) {
                rooms |= 1 << readNumber(0, last, 0);
            }
            if (fault == 0) {
                draft.wants[g] = hasBit(choosy, g) ? draft.wants[g] | rooms : rooms;
                choosy |= 1 << g;
            }
        }

        /** A number in its bounds that is none of those taken; behind a fault the low bound. */
        private int readNumber(int low, int high, int taken) {
            int number = low;
            if (kind != NUMBER) {
                fail(1);
            } else if (value < low || value > high || hasBit(taken, value)) {
                fail(2);
            } else if (fault == 0) {
                number = value;
                advance();
            }
            return number;
        }

        private void readWord(String word) {
            if (isWord(word)) {
                advance();
            } else {
                fail(1);
            }
        }

        private void readSign() {
            if (kind == SIGN) {
                advance();
            } else {
                fail(1);
            }
        }

        /** The first fault alone is told, and behind it no token is gone on to. */
        private void fail(int number) {
            if (fault == 0) {
                fault = number;
                place = start;
            }
        }

        private boolean isWord(String word) {
            if (kind != WORD || stop - start != word.length()) {
                return false;
            }
            for (int i = 0; i < word.length(); i++) {
                if (source.signAt(start + i) != word.charAt(i)) {
                    return false;
                }
            }
            return true;
        }

        private void advance() {
            if (fault != 0) {
                return;
            }
            start = stop;
            while (start < source.length && isBlank(source.signAt(start))) {
                start++;
            }
            stop = start;
            int sign = source.signAt(start);
            if (sign == NONE) {
                kind = END;
            } else if (isLetter(sign)) {
                takeWord();
            } else if (isDigit(sign)) {
                takeNumber();
            } else {
                kind = sign == ';' ? SIGN : NO_TOKEN;
                stop = start + 1;
            }
        }

        private void takeWord() {
            kind = WORD;
            while (stop < source.length && isLetter(source.signAt(stop))) {
                stop++;
            }
        }

        private void takeNumber() {
            kind = NUMBER;
            value = 0;
            while (stop < source.length && isDigit(source.signAt(stop))) {
                value = Math.min(HUGE, value * 10 + source.signAt(stop) - '0');
                stop++;
            }
        }

        private static boolean isBlank(int sign) {
            return sign == 32 || sign == 10;
        }

        private static boolean isLetter(int sign) {
            return sign >= 'a' && sign <= 'z';
        }

        private static boolean isDigit(int sign) {
            return sign >= '0' && sign <= '9';
        }
    }

    /** An inn with all that happens in it: what an image keeps. */
    private static final class World {
        final Inn inn = new Inn();
        final int[] room = new int[MOST_GUESTS];
        final int[] key = new int[MOST_GUESTS];
        final int[] opens = new int[MOST_KEYS];
        /** The reach of each key alone. */
        final int[] range = new int[MOST_KEYS];
        int lost;
        final int[] away = new int[MOST_GUESTS];
        int thefts;
        final int[] theftRoom = new int[MOST_THEFTS];
        final int[] theftNight = new int[MOST_THEFTS];
        boolean kept;

        void renew(Inn told) {
            inn.copyOf(told);
            Arrays.fill(room, NONE);
            Arrays.fill(key, NONE);
            System.arraycopy(told.told, 0, opens, 0, MOST_KEYS);
            lost = 0;
            Arrays.fill(away, 0);
            thefts = 0;
            measure();
        }

        void copyOf(World other) {
            inn.copyOf(other.inn);
            System.arraycopy(other.room, 0, room, 0, MOST_GUESTS);
            System.arraycopy(other.key, 0, key, 0, MOST_GUESTS);
            System.arraycopy(other.opens, 0, opens, 0, MOST_KEYS);
            System.arraycopy(other.range, 0, range, 0, MOST_KEYS);
            lost = other.lost;
            System.arraycopy(other.away, 0, away, 0, MOST_GUESTS);
            thefts = other.thefts;
            System.arraycopy(other.theftRoom, 0, theftRoom, 0, MOST_THEFTS);
            System.arraycopy(other.theftNight, 0, theftNight, 0, MOST_THEFTS);
        }

        /** Whenever locks or doors are others, so are the ranges. */
        void measure() {
            for (int k = 0; k < inn.keys; k++) {
                range[k] = inn.joinedTo(opens[k]);
            }
        }

        int rangeOf(int keys) {
            int all = 0;
            for (int k = 0; k < inn.keys; k++) {
                if (hasBit(keys, k)) {
                    all |= range[k];
                }
            }
            return all;
        }

        int openedBy(int keys) {
            int all = 0;
            for (int k = 0; k < inn.keys; k++) {
                if (hasBit(keys, k)) {
                    all |= opens[k];
                }
            }
            return all;
        }

        int changeLock(int changed) {
            int shutOut = 0;
            for (int k = 0; k < inn.keys; k++) {
                if (hasBit(lost, k) && hasBit(opens[k], changed)) {
                    opens[k] &= ~(1 << changed);
                    shutOut++;
                }
            }
            measure();
            return shutOut;
        }

        boolean isBooked(int guest) {
            return room[guest] != NONE;
        }

        int booked() {
            int set = 0;
            for (int g = 0; g < inn.guests; g++) {
                if (isBooked(g)) {
                    set |= 1 << g;
                }
            }
            return set;
        }

        int ownerOf(int which, int night) {
            for (int g = 0; g < inn.guests; g++) {
                if (sleeps(g, night) && key[g] == which) {
                    return g;
                }
            }
            return NONE;
        }

        void take(int guest, int newRoom, int newKey) {
            room[guest] = newRoom;
            key[guest] = newKey;
        }

        /** Whether a guest who is not booked can be, fears aside. */
        boolean canTake(int guest, int newRoom, int newKey) {
            if (!hasBit(inn.wants[guest], newRoom) || !hasBit(opens[newKey], newRoom) || hasBit(lost, newKey)) {
                return false;
            }
            for (int g = 0; g < inn.guests; g++) {
                if (g != guest && isBooked(g) && inn.meet(g, guest)
                        && (room[g] == newRoom || key[g] == newKey)) {
                    return false;
                }
            }
            return true;
        }

        /** Books a number of a row (10,000 guest, 100 room and key), if that can be. */
        boolean takeNumber(long number) {
            if (number < 0 || number >= 10000L * inn.guests) {
                return false;
            }
            int guest = (int) (number / 10000L);
            int newRoom = (int) (number / 100L % 100L);
            int newKey = (int) (number % 100L);
            if (!inn.hasGuest(guest) || !inn.hasRoom(newRoom) || !inn.hasKey(newKey)
                    || isBooked(guest) || !canTake(guest, newRoom, newKey)) {
                return false;
            }
            take(guest, newRoom, newKey);
            return true;
        }

        /** Whether nobody would fear the guest there, nor he anybody: others' fears stay. */
        private boolean staysQuiet(int guest, int newRoom, int newKey) {
            for (int g = 0; g < inn.guests; g++) {
                if (g != guest && isBooked(g) && inn.meet(g, guest)) {
                    boolean fearsHim = hasBit(range[key[g]], newRoom) && !inn.isTrusted(guest, g);
                    boolean isFeared = hasBit(range[newKey], room[g]) && !inn.isTrusted(g, guest);
                    if (fearsHim || isFeared) {
                        return false;
                    }
                }
            }
            return true;
        }

        private boolean isQuietWay(int guest, int newRoom, int newKey) {
            return canTake(guest, newRoom, newKey) && staysQuiet(guest, newRoom, newKey);
        }

        int quietWays(int guest) {
            int ways = 0;
            for (int r = 0; r < inn.rooms; r++) {
                for (int k = 0; k < inn.keys; k++) {
                    if (isQuietWay(guest, r, k)) {
                        ways++;
                    }
                }
            }
            return ways;
        }

        /** The one with so many ahead of it; NONE: there are not so many. */
        int quietWay(int guest, int ahead) {
            int ways = 0;
            for (int r = 0; r < inn.rooms; r++) {
                for (int k = 0; k < inn.keys; k++) {
                    if (isQuietWay(guest, r, k)) {
                        if (ways == ahead) {
                            return wayOf(r, k);
                        }
                        ways++;
                    }
                }
            }
            return NONE;
        }

        boolean sleeps(int guest, int night) {
            return isBooked(guest) && inn.isThere(guest, night);
        }

        int comesTo(int guest, int night) {
            return sleeps(guest, night) ? range[key[guest]] : 0;
        }

        int comersTo(int where, int night) {
            int comers = 0;
            for (int g = 0; g < inn.guests; g++) {
                if (hasBit(comesTo(g, night), where)) {
                    comers |= 1 << g;
                }
            }
            return comers;
        }

        int fearedBy(int guest, int night) {
            if (!sleeps(guest, night)) {
                return 0;
            }
            return comersTo(room[guest], night) & ~inn.trust[guest] & ~(1 << guest);
        }

        /** Those who must fear somebody. */
        int fearful(int night) {
            int set = 0;
            for (int g = 0; g < inn.guests; g++) {
                if (fearedBy(g, night) != 0) {
                    set |= 1 << g;
                }
            }
            return set;
        }

        int pairs(int night) {
            int pairs = 0;
            for (int g = 0; g < inn.guests; g++) {
                pairs += Integer.bitCount(fearedBy(g, night));
            }
            return pairs;
        }

        int firstPair(int night) {
            for (int g = 0; g < inn.guests; g++) {
                int feared = fearedBy(g, night);
                if (feared != 0) {
                    return 10 * g + Integer.numberOfTrailingZeros(feared);
                }
            }
            return NONE;
        }

        int sleepersIn(int rooms, int night) {
            int sleepers = 0;
            for (int g = 0; g < inn.guests; g++) {
                if (sleeps(g, night) && hasBit(rooms, room[g])) {
                    sleepers |= 1 << g;
                }
            }
            return sleepers;
        }

        int roomsSleptIn(int night) {
            int rooms = 0;
            for (int g = 0; g < inn.guests; g++) {
                if (sleeps(g, night)) {
                    rooms |= 1 << room[g];
                }
            }
            return rooms;
        }

        int suspectsOf(int theft) {
            int where = theftRoom[theft];
            int night = theftNight[theft];
            int suspects = comersTo(where, night);
            for (int g = 0; g < inn.guests; g++) {
                if (hasBit(away[g], night) || room[g] == where) {
                    suspects &= ~(1 << g);
                }
            }
            return suspects;
        }
    }

    /** Searches how the guests of a night, four at most, can be housed. */
    private static final class Beds {
        private static final int MOST_OPTIONS = MOST_KEYS * ROOMS_OF_KEY;

        private final int[] guest = new int[MOST_HOUSED];
        private int guests;
        /** Of each guest, by his place here, those whom he trusts. */
        private final int[] trust = new int[MOST_HOUSED];
        private final int[] optionRoom = new int[MOST_OPTIONS];
        private final int[] optionKey = new int[MOST_OPTIONS];
        private int options;
        /** Of each option those of the same room or key. */
        private final long[] clashes = new long[MOST_OPTIONS];
        /** Of each option those whose key comes to its room. */
        private final long[] comers = new long[MOST_OPTIONS];
        /** Of each option those to whose room its key comes. */
        private final long[] goals = new long[MOST_OPTIONS];
        private final long[] wanted = new long[MOST_HOUSED];
        /** By depth: what is left for each guest behind the choices ahead of it. */
        private final long[][] left = new long[MOST_HOUSED + 1][MOST_HOUSED];
        private final int[] chosen = new int[MOST_HOUSED];
        private final int[] firstWay = new int[MOST_HOUSED];
        private int best;

        void prepare(World world, int night) {
            listOptions(world);
            for (int o = 0; o < options; o++) {
                relate(world, o);
            }
            listGuests(world.inn, night);
        }

        /** By 100 times the room and the key, so that the first way is found first. */
        private void listOptions(World world) {
            options = 0;
            for (int r = 0; r < world.inn.rooms; r++) {
                for (int k = 0; k < world.inn.keys; k++) {
                    if (hasBit(world.opens[k], r) && !hasBit(world.lost, k) && options < MOST_OPTIONS) {
                        optionRoom[options] = r;
                        optionKey[options] = k;
                        options++;
                    }
                }
            }
        }

        private void relate(World world, int option) {
            int room = optionRoom[option];
            int key = optionKey[option];
            long clash = 0;
            long comer = 0;
            long goal = 0;
            for (int o = 0; o < options; o++) {
                long bit = 1L << o;
                if (optionRoom[o] == room || optionKey[o] == key) {
                    clash |= bit;
                }
                if (hasBit(world.range[optionKey[o]], room)) {
                    comer |= bit;
                }
                if (hasBit(world.range[key], optionRoom[o])) {
                    goal |= bit;
                }
            }
            clashes[option] = clash;
            comers[option] = comer;
            goals[option] = goal;
        }

        private void listGuests(Inn inn, int night) {
            guests = 0;
            for (int g = 0; g < inn.guests; g++) {
                if (inn.isThere(g, night) && guests < MOST_HOUSED) {
                    guest[guests] = g;
                    wanted[guests] = optionsIn(inn.wants[g]);
                    guests++;
                }
            }
            for (int i = 0; i < guests; i++) {
                trust[i] = 0;
                for (int j = 0; j < guests; j++) {
                    if (inn.isTrusted(guest[i], guest[j])) {
                        trust[i] |= 1 << j;
                    }
                }
            }
        }

        private long optionsIn(int rooms) {
            long set = 0;
            for (int o = 0; o < options; o++) {
                if (hasBit(rooms, optionRoom[o])) {
                    set |= 1L << o;
                }
            }
            return set;
        }

        private long optionsOf(int key) {
            long set = 0;
            for (int o = 0; o < options; o++) {
                if (optionKey[o] == key) {
                    set |= 1L << o;
                }
            }
            return set;
        }

        /** How many can be housed without a key (NONE: with all); the first way is held then. */
        int mostWithout(int key) {
            long banned = optionsOf(key);
            for (int i = 0; i < guests; i++) {
                left[0][i] = wanted[i] & ~banned;
            }
            best = -1;
            seekMost(this, 0, 0);
            return best;
        }

        int waysForAll() {
            for (int i = 0; i < guests; i++) {
                left[0][i] = wanted[i];
            }
            return (int) (countAll(this, 0) % MODULUS);
        }

        int firstWayOf(int who) {
            for (int i = 0; i < guests; i++) {
                if (guest[i] == who && firstWay[i] != NONE) {
                    return wayOf(optionRoom[firstWay[i]], optionKey[firstWay[i]]);
                }
            }
            return NONE;
        }

        /** Ways are gone through in their order, so the first of most is the one that is held. */
        private static void seekMost(Beds beds, int depth, int housed) {
            if (housed + beds.hopeful(depth) <= beds.best) {
                return;
            }
            if (depth >= beds.guests) {
                beds.best = housed;
                System.arraycopy(beds.chosen, 0, beds.firstWay, 0, MOST_HOUSED);
                return;
            }
            for (int o = 0; o < beds.options; o++) {
                if ((beds.left[depth][depth] >> o & 1L) != 0) {
                    beds.choose(depth, o);
                    seekMost(beds, depth + 1, housed + 1);
                }
            }
            beds.choose(depth, NONE);
            seekMost(beds, depth + 1, housed);
        }

        private static long countAll(Beds beds, int depth) {
            if (depth >= beds.guests) {
                return 1;
            }
            if (depth == beds.guests - 1) {
                return Long.bitCount(beds.left[depth][depth]);
            }
            long ways = 0;
            for (int o = 0; o < beds.options; o++) {
                if ((beds.left[depth][depth] >> o & 1L) != 0) {
                    beds.choose(depth, o);
                    ways += countAll(beds, depth + 1);
                }
            }
            return ways;
        }

        /** How many from this depth on have an option left. */
        private int hopeful(int depth) {
            int some = 0;
            for (int i = depth; i < guests; i++) {
                if (left[depth][i] != 0) {
                    some++;
                }
            }
            return some;
        }

        /** An option (NONE: not housed) for the guest of this depth, who leaves the rest to others. */
        private void choose(int depth, int option) {
            chosen[depth] = option;
            for (int i = depth + 1; i < guests; i++) {
                left[depth + 1][i] = left[depth][i];
                if (option != NONE) {
                    left[depth + 1][i] &= ~clashes[option];
                    if (!hasBit(trust[depth], i)) {
                        left[depth + 1][i] &= ~comers[option];
                    }
                    if (!hasBit(trust[i], depth)) {
                        left[depth + 1][i] &= ~goals[option];
                    }
                }
            }
        }
    }

    /** Searches how the guests of a night, seven at most, can be laid in rings. */
    private static final class Chain {
        int ways;
        int fewest;
        int most;
        private final int[] guest = new int[MOST_CHAINED];
        private int guests;
        /** Of each guest, by his place here, those who trust him: one of them can be his next. */
        private final int[] trusting = new int[MOST_CHAINED];
        private final int[] follower = new int[MOST_CHAINED];
        private final int[] firstWay = new int[MOST_CHAINED];

        void search(Inn inn, int night) {
            listGuests(inn, night);
            ways = 0;
            fewest = NONE;
            most = NONE;
            seekWays(this, 0, 0);
        }

        int firstNextOf(int who) {
            for (int i = 0; i < guests; i++) {
                if (ways > 0 && guest[i] == who) {
                    return guest[firstWay[i]];
                }
            }
            return NONE;
        }

        private void listGuests(Inn inn, int night) {
            guests = 0;
            for (int g = 0; g < inn.guests; g++) {
                if (inn.isThere(g, night) && guests < MOST_CHAINED) {
                    guest[guests] = g;
                    guests++;
                }
            }
            for (int i = 0; i < guests; i++) {
                trusting[i] = 0;
                for (int j = 0; j < guests; j++) {
                    if (inn.isTrusted(guest[j], guest[i])) {
                        trusting[i] |= 1 << j;
                    }
                }
            }
        }

        /** Nobody trusts himself, so no ring has one guest alone. */
        private static void seekWays(Chain chain, int depth, int used) {
            if (depth >= chain.guests) {
                chain.holdWay();
                return;
            }
            for (int j = 0; j < chain.guests; j++) {
                if (hasBit(chain.trusting[depth], j) && !hasBit(used, j)) {
                    chain.follower[depth] = j;
                    seekWays(chain, depth + 1, used | 1 << j);
                }
            }
        }

        private void holdWay() {
            int rings = ringsOfWay();
            if (ways == 0) {
                System.arraycopy(follower, 0, firstWay, 0, MOST_CHAINED);
            }
            fewest = ways == 0 ? rings : Math.min(fewest, rings);
            most = ways == 0 ? rings : Math.max(most, rings);
            ways++;
        }

        private int ringsOfWay() {
            int rings = 0;
            int seen = 0;
            for (int i = 0; i < guests; i++) {
                if (!hasBit(seen, i)) {
                    rings++;
                    int at = i;
                    for (int step = 0; step < guests && !hasBit(seen, at); step++) {
                        seen |= 1 << at;
                        at = follower[at];
                    }
                }
            }
            return rings;
        }
    }

    /** Holds the set of the fewest; sets are offered from the least on, so the least of several. */
    private static final class Least {
        private int size;
        private int set;

        void forget() {
            size = NONE;
            set = NONE;
        }

        boolean isBetter(int other) {
            return size == NONE || Integer.bitCount(other) < size;
        }

        void hold(int other) {
            size = Integer.bitCount(other);
            set = other;
        }

        int answer(int what) {
            return what == 0 ? size : set;
        }
    }

    /** A slot's row of numbers, each as it is when cut to the width. */
    private static final class Row {
        boolean filled;
        int width;
        int size;
        final long[] numbers = new long[MOST_NUMBERS];

        void begin(int newWidth, int n) {
            filled = true;
            width = newWidth;
            size = n;
            Arrays.fill(numbers, 0L);
        }

        void put(int i, long v) {
            switch (width) {
                case 0:
                    numbers[i] = (byte) v;
                    break;
                case 1:
                    numbers[i] = (short) v;
                    break;
                case 2:
                    numbers[i] = (int) v;
                    break;
                default:
                    numbers[i] = v;
                    break;
            }
        }

        /** Written so that no sum can wrap around. */
        boolean spans(int i, int n) {
            return i >= 0 && n >= 0 && i <= size && n <= size - i;
        }
    }
}

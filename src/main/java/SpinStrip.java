import java.util.Arrays;

/** Small magnets on a strip, each up or down. The document (DOC.md) says what every call answers. */
public final class SpinStrip {
    public static final int NONE = -1;

    private static final int REFUSED = -100000;
    private static final int ABSENT = -2;
    private static final int NO_TIE = 100;

    private static final int MOST_WIDE = 4;
    private static final int MOST_SITES = 16;
    private static final int TIE_PLACES = 2 * MOST_SITES;
    private static final int MOST_MATES = 4;
    private static final int MOST_J = 3;
    /** All ties and all fields pulling the same way. */
    private static final int MOST_ENERGY = MOST_J * (TIE_PLACES + MOST_SITES);
    /** Above every energy that a state can have. */
    private static final int NO_ENERGY = MOST_ENERGY + 1;
    private static final int ENERGIES = 2 * MOST_ENERGY + 1;
    private static final int JOINED_ENERGIES = 2 * ENERGIES - 1;
    private static final int UPS = MOST_SITES + 1;

    private static final int SMALL_SITES = 10;
    private static final int SMALL_STATES = 1 << SMALL_SITES;
    private static final int MOST_GROUND = 256;
    private static final int PRIME = 1000003;
    private static final int SLOTS = 3;
    private static final int MOST_UNDONE = 40;
    private static final int MOST_SEED = 9999;
    private static final int MOST_WANDER = 200;
    private static final int MOST_COLD = 100;

    private static final int PIN_NONE = 0;
    private static final int PIN_UP = 1;
    private static final int PIN_DOWN = 2;
    private static final int RING_ACROSS = 1;
    private static final int RING_ALONG = 2;

    private static final int MOST_BYTES = 2000;
    private static final int FEED_BYTES = 20;
    private static final int MOST_TOKENS = 400;
    private static final int MOST_DIGITS = 4;

    private static final int FAULT_SYNTAX = 1;
    private static final int FAULT_ROOM = 2;
    private static final int FAULT_WRONG = 3;
    private static final int FAULT_NONE = 4;

    private static final int END = 0;
    private static final int ODD_SIGN = 1;
    private static final int INT = 2;
    private static final int MINUS = 3;
    private static final int SEMICOLON = 4;
    private static final int STRIP = 5;
    private static final int ACROSS = 6;
    private static final int ALONG = 7;
    private static final int FIELD = 8;
    private static final int RING = 9;
    private static final int TIE = 10;
    private static final int PULL = 11;
    private static final int PIN = 12;
    private static final int UP = 13;
    private static final int DOWN = 14;
    private static final int SEED = 15;

    /** What the grammar waits for; it has no nesting, so one such number is all that must be known. */
    private static final int WANT_STRIP = 0;
    private static final int WANT_WIDE = 1;
    private static final int WANT_LONG = 2;
    private static final int WANT_STOP = 3;
    private static final int WANT_TELL = 4;
    private static final int WANT_J = 5;
    private static final int WANT_J_INT = 6;
    private static final int WANT_WAY = 7;
    private static final int WANT_TIE_SITE = 8;
    private static final int WANT_TIE_WAY = 9;
    private static final int WANT_PULL_SITE = 10;
    private static final int WANT_PIN_SITE = 11;
    private static final int WANT_PIN_HOW = 12;
    private static final int WANT_SEED = 13;

    private final Tape tape;
    private final Draft draft;
    private final Grid grid;
    private final Setup now;
    private final Past past;
    private final Slot[] slots;
    private final Energies energies;
    /** For parts of the strip, for other J than the strip's: what it holds never outlives a call. */
    private final Energies aside;
    private final Levels levels;
    private final Breaks breaks;
    private final Terrain terrain;
    private final Walker walker;
    private final long[] joinedWays;
    private final int[] groundStates;
    private int faultPlace;
    private int stamps;

    public SpinStrip() {
        draft = new Draft();
        tape = draft.tape;
        grid = new Grid();
        now = new Setup();
        past = new Past();
        slots = new Slot[SLOTS];
        for (int i = 0; i < slots.length; i++) {
            slots[i] = new Slot();
        }
        energies = new Energies();
        aside = new Energies();
        levels = new Levels();
        breaks = new Breaks();
        terrain = new Terrain();
        walker = new Walker();
        joinedWays = new long[JOINED_ENERGIES];
        groundStates = new int[MOST_GROUND];
        faultPlace = NONE;
        stamps = 0;
    }

    // ---- the tape ----

    public int feed(int a, int b, int c, int d, int e) {
        if (tape.length + FEED_BYTES > MOST_BYTES) {
            return NONE;
        }
        tape.addWord(a);
        tape.addWord(b);
        tape.addWord(c);
        tape.addWord(d);
        tape.addWord(e);
        return tape.length;
    }

    public int back(int n) {
        if (n < 0 || n > tape.length) {
            return NONE;
        }
        tape.length -= n;
        return tape.length;
    }

    public int read() {
        draft.build();
        tape.length = 0;
        faultPlace = draft.faultPlace;
        if (draft.fault == 0) {
            beginAnew();
        }
        return draft.fault;
    }

    public int place() {
        return faultPlace;
    }

    private void beginAnew() {
        grid.lay(draft.wide, draft.tall, draft.rings);
        now.copyFrom(draft.setup);
        now.bits = now.pinnedUp;
        past.forget();
        for (int i = 0; i < slots.length; i++) {
            slots[i].full = false;
        }
        stampTies();
    }

    // ---- changes by hand ----

    public boolean tie(int site, boolean along, int j) {
        int tiePlace = grid.tiePlace(site, along);
        if (tiePlace == NONE || !isJ(j) || now.bondAt(tiePlace) == j) {
            return false;
        }
        past.keep(now);
        now.setBond(tiePlace, j);
        stampTies();
        return true;
    }

    public boolean pull(int site, int j) {
        if (!grid.hasSite(site) || !isJ(j) || now.fieldAt(site) == j) {
            return false;
        }
        past.keep(now);
        now.setField(site, j);
        stampTies();
        return true;
    }

    public boolean pin(int site, int how) {
        if (!grid.hasSite(site) || how < PIN_NONE || how > PIN_DOWN || now.pinAt(site) == how) {
            return false;
        }
        past.keep(now);
        now.setPin(site, how);
        now.bits = (now.bits & ~now.pinned) | now.pinnedUp;
        stampPins();
        return true;
    }

    public boolean glass(int seed) {
        if (seed < 0 || seed > MOST_SEED || grid.sites == 0) {
            return false;
        }
        past.keep(now);
        long x = seed;
        for (int t = 0; t < TIE_PLACES; t++) {
            if (grid.endAt(t) != NONE) {
                x = nextLot(x);
                now.setBond(t, lotOf(x, 2) == 1 ? 1 : -1);
            }
        }
        stampTies();
        return true;
    }

    public boolean turn(int site) {
        if (!grid.hasSite(site) || now.isPinned(site)) {
            return false;
        }
        past.keep(now);
        now.bits ^= 1 << site;
        return true;
    }

    public int fall() {
        if (grid.sites == 0) {
            return NONE;
        }
        walker.fallFrom(grid, now, now.bits);
        if (walker.turns > 0) {
            past.keep(now);
            now.bits = walker.bits;
        }
        return walker.turns;
    }

    public boolean undo() {
        return past.giveBack(now);
    }

    // ---- single sites ----

    public int site(int site, int what) {
        if (!grid.hasSite(site)) {
            return REFUSED;
        }
        switch (what) {
            case 0: return grid.rowOf(site);
            case 1: return grid.columnOf(site);
            case 2: return now.fieldAt(site);
            case 3: return now.pinAt(site);
            case 4: return bondOrNoTie(grid.tiePlace(site, false));
            case 5: return bondOrNoTie(grid.tiePlace(site, true));
            case 6: return bitOf(now.bits, site);
            case 7: return grid.costOfTurn(now, now.bits, site);
            default: return REFUSED;
        }
    }

    private int bondOrNoTie(int tiePlace) {
        return tiePlace == NONE ? NO_TIE : now.bondAt(tiePlace);
    }

    public int square(int site) {
        if (!grid.hasSite(site)) {
            return NONE;
        }
        return grid.squareOf(now, site);
    }

    public int cluster(int site) {
        if (!grid.hasSite(site)) {
            return NONE;
        }
        return grid.clusterOf(now.bits, site);
    }

    // ---- all states, counted ----

    public int level(int i, int what) {
        Levels known = levelsNow();
        if (i == NONE) {
            return known.many;
        }
        if (!known.hasLevel(i)) {
            return REFUSED;
        }
        int energy = known.energyOf(i);
        switch (what) {
            case 0: return energy;
            case 1: return known.waysOf(energy);
            case 2: return known.leastOf(energy);
            case 3: return known.fewestUps(energy);
            case 4: return known.mostUps(energy);
            default: return REFUSED;
        }
    }

    public int both(int energy, int ups) {
        return levelsNow().waysWithUps(energy, ups);
    }

    public int broken(int many) {
        return breaksNow().waysOf(many);
    }

    public int ground(int what) {
        Levels known = levelsNow();
        if (known.many == 0) {
            return REFUSED;
        }
        int energy = known.energyOf(0);
        switch (what) {
            case 0: return energy;
            case 1: return known.waysOf(energy);
            case 2: return known.leastOf(energy);
            case 3: return known.many > 1 ? known.energyOf(1) - energy : ABSENT;
            default: return REFUSED;
        }
    }

    public int pair(int one, int other, int i, int what) {
        if (!grid.hasSite(one) || !grid.hasSite(other) || !levelsNow().hasLevel(i)) {
            return REFUSED;
        }
        int energy = levels.energyOf(i);
        int alike = countAlike(one, other, energy);
        int states = levels.waysOf(energy);
        return partOfFraction(2 * alike - states, states, what);
    }

    private int countAlike(int one, int other, int energy) {
        int states = grid.states();
        int alike = 0;
        for (int s = 0; s < states; s++) {
            if (now.allows(s) && energies.of(s) == energy && bitOf(s, one) == bitOf(s, other)) {
                alike++;
            }
        }
        return alike;
    }

    public int mean(int i, int what) {
        Levels known = levelsNow();
        if (!known.hasLevel(i)) {
            return REFUSED;
        }
        int energy = known.energyOf(i);
        return partOfFraction(known.upsAdded(energy), known.waysOf(energy), what);
    }

    public int value(int x) {
        if (x < 0 || x >= PRIME) {
            return NONE;
        }
        Levels known = levelsNow();
        if (known.many == 0) {
            return 0;
        }
        long sum = 0;
        long power = 1;
        for (int energy = known.energyOf(0); energy <= MOST_ENERGY; energy++) {
            sum = (sum + known.waysOf(energy) * power) % PRIME;
            power = power * x % PRIME;
        }
        return (int) sum;
    }

    public long joined(int slot, int i, int what) {
        Slot held = slotAt(slot);
        if (held == null || !held.full) {
            return REFUSED;
        }
        joinWays(held);
        if (i == NONE) {
            return countJoinedLevels();
        }
        int at = joinedLevelAt(i);
        if (at < 0 || at >= joinedWays.length) {
            return REFUSED;
        }
        switch (what) {
            case 0: return at - 2 * MOST_ENERGY;
            case 1: return joinedWays[at];
            default: return REFUSED;
        }
    }

    private void joinWays(Slot held) {
        int[] mine = levelsNow().ways;
        int[] theirs = heldWays(held);
        Arrays.fill(joinedWays, 0L);
        for (int a = 0; a < mine.length; a++) {
            for (int b = 0; mine[a] != 0 && b < theirs.length && a + b < joinedWays.length; b++) {
                joinedWays[a + b] += (long) mine[a] * theirs[b];
            }
        }
    }

    private int[] heldWays(Slot held) {
        if (!held.counted) {
            aside.fill(grid, held.setup.bonds, held.setup.fields, grid.sites);
            countWays(held.ways, aside, held.setup);
            held.counted = true;
        }
        return held.ways;
    }

    private void countWays(int[] ways, Energies of, Setup setup) {
        int states = grid.states();
        Arrays.fill(ways, 0);
        for (int s = 0; s < states; s++) {
            int at = of.of(s) + MOST_ENERGY;
            if (setup.allows(s) && at >= 0 && at < ways.length) {
                ways[at]++;
            }
        }
    }

    private int countJoinedLevels() {
        int many = 0;
        for (int at = 0; at < joinedWays.length; at++) {
            if (joinedWays[at] != 0) {
                many++;
            }
        }
        return many;
    }

    private int joinedLevelAt(int i) {
        int before = 0;
        for (int at = 0; at < joinedWays.length; at++) {
            if (joinedWays[at] != 0) {
                if (before == i) {
                    return at;
                }
                before++;
            }
        }
        return NONE;
    }

    public int stuck(boolean ground) {
        Levels known = levelsNow();
        if (known.many == 0) {
            return 0;
        }
        int groundEnergy = known.energyOf(0);
        int states = grid.states();
        int many = 0;
        for (int s = 0; s < states; s++) {
            boolean counts = now.allows(s) && !(ground && energies.of(s) == groundEnergy);
            if (counts && energies.hasNoneLower(s, now.pinned, states)) {
                many++;
            }
        }
        return many;
    }

    public int rows(int r, int row, int energy) {
        if (r < 0 || r >= grid.tall || row < 0 || row >= 1 << grid.wide) {
            return NONE;
        }
        Energies part = energiesOfRows(r);
        int below = r * grid.wide;
        int known = (1 << (below + grid.wide)) - 1;
        int first = row << below;
        int end = first + (1 << below);
        int many = 0;
        for (int s = first; s < end; s++) {
            if ((s & now.pinned) == (now.pinnedUp & known) && part.of(s) == energy) {
                many++;
            }
        }
        return many;
    }

    private Energies energiesOfRows(int r) {
        if (r == grid.tall - 1) {
            return energiesNow();
        }
        aside.fill(grid, now.bonds, now.fields, (r + 1) * grid.wide);
        return aside;
    }

    public int overlap(int q) {
        Levels known = levelsNow();
        if (known.many == 0) {
            return 0;
        }
        if (known.waysOf(known.energyOf(0)) > MOST_GROUND) {
            return ABSENT;
        }
        int many = listGround(known.energyOf(0));
        int pairs = 0;
        for (int a = 0; a < many && a < groundStates.length; a++) {
            for (int b = 0; b < a; b++) {
                if (Integer.bitCount(groundStates[a] ^ groundStates[b]) == q) {
                    pairs++;
                }
            }
        }
        return pairs;
    }

    private int listGround(int groundEnergy) {
        int states = grid.states();
        int many = 0;
        for (int s = 0; s < states && many < groundStates.length; s++) {
            if (now.allows(s) && energies.of(s) == groundEnergy) {
                groundStates[many] = s;
                many++;
            }
        }
        return many;
    }

    public int stiff(int one, int other) {
        if (!grid.hasSite(one) || !grid.hasSite(other) || one == other) {
            return REFUSED;
        }
        energiesNow();
        int states = grid.states();
        int unlike = NO_ENERGY;
        int alike = NO_ENERGY;
        for (int s = 0; s < states; s++) {
            if (now.allows(s)) {
                if (bitOf(s, one) == bitOf(s, other)) {
                    alike = Math.min(alike, energies.of(s));
                } else {
                    unlike = Math.min(unlike, energies.of(s));
                }
            }
        }
        boolean missing = alike == NO_ENERGY || unlike == NO_ENERGY;
        return missing ? REFUSED : unlike - alike;
    }

    // ---- single states ----

    public int state(int bits, int what) {
        if (!isLawful(bits)) {
            return REFUSED;
        }
        switch (what) {
            case 0: return grid.energyOf(now, bits);
            case 1: return grid.brokenOf(now, bits);
            case 2: return grid.steepest(now, bits) == NONE ? 1 : 0;
            case 3:
                walker.fallFrom(grid, now, bits);
                return walker.bits;
            case 4:
                walker.fallFrom(grid, now, bits);
                return walker.turns;
            case 5: return levelsNow().numberOf(grid.energyOf(now, bits));
            default: return REFUSED;
        }
    }

    public int nearest(int bits, int what) {
        if (!isLawful(bits) || what < 0 || what > 1) {
            return REFUSED;
        }
        int found = nearestGround(bits);
        return what == 0 ? found : Integer.bitCount(found ^ bits);
    }

    private int nearestGround(int bits) {
        Levels known = levelsNow();
        int groundEnergy = known.energyOf(0);
        int states = grid.states();
        int found = known.leastOf(groundEnergy);
        for (int s = 0; s < states; s++) {
            if (now.allows(s) && energies.of(s) == groundEnergy
                    && Integer.bitCount(s ^ bits) < Integer.bitCount(found ^ bits)) {
                found = s;
            }
        }
        return found;
    }

    public int wander(int n, int c, int what) {
        if (n < 0 || n > MOST_WANDER || c < 0 || c > MOST_COLD || grid.sites == 0) {
            return REFUSED;
        }
        walker.strollFrom(grid, now, n, c);
        switch (what) {
            case 0: return walker.bits;
            case 1: return walker.leastEnergy;
            case 2: return walker.turns;
            default: return REFUSED;
        }
    }

    // ---- hills and lakes of small strips ----

    public int basin(int bits) {
        if (!isSmall() || !isLawful(bits)) {
            return REFUSED;
        }
        return terrainNow().basinOf(bits);
    }

    public int hill(int bits) {
        if (!isSmall() || !isLawful(bits)) {
            return REFUSED;
        }
        Terrain sorted = terrainNow();
        return sorted.meetingEnergy(bits, sorted.lowest(), true);
    }

    public int pass(int one, int other) {
        if (!isSmall() || !isLawful(one) || !isLawful(other)) {
            return REFUSED;
        }
        return terrainNow().meetingEnergy(one, other, false);
    }

    public int lakes(int energy) {
        if (!isSmall()) {
            return REFUSED;
        }
        return terrainNow().lakesBelow(energy);
    }

    public long down(int bits) {
        if (!isSmall() || !isLawful(bits)) {
            return REFUSED;
        }
        return terrainNow().waysDown(bits);
    }

    private boolean isSmall() {
        return grid.sites <= SMALL_SITES;
    }

    // ---- slots and numbers ----

    public boolean hold(int slot) {
        Slot held = slotAt(slot);
        if (held == null) {
            return false;
        }
        held.setup.copyFrom(now);
        held.full = true;
        held.counted = false;
        return true;
    }

    public boolean restore(int slot) {
        Slot held = slotAt(slot);
        if (held == null || !held.full) {
            return false;
        }
        now.copyFrom(held.setup);
        past.forget();
        return true;
    }

    private Slot slotAt(int slot) {
        return slot >= 0 && slot < slots.length ? slots[slot] : null;
    }

    public int count(int what) {
        switch (what) {
            case 0: return grid.wide;
            case 1: return grid.tall;
            case 2: return now.bits;
            case 3: return countStates();
            case 4: return now.pinned;
            case 5: return grid.countTies();
            case 6: return tape.length;
            case 7: return past.many;
            case 8: return countFullSlots();
            case 9: return now.seed;
            case 10: return grid.countClusters(now.bits);
            case 11: return grid.greatestCluster(now.bits);
            case 12: return grid.rings;
            case 13: return breaksNow().fewest();
            case 14: return grid.countOddSquares(now);
            default: return NONE;
        }
    }

    private int countStates() {
        return grid.sites == 0 ? 0 : 1 << (grid.sites - Integer.bitCount(now.pinned));
    }

    private int countFullSlots() {
        int many = 0;
        for (int i = 0; i < slots.length; i++) {
            if (slots[i].full) {
                many++;
            }
        }
        return many;
    }

    // ---- what is worked out once and kept till a J or a pin changes ----

    private void stampTies() {
        stamps++;
        now.tieStamp = stamps;
        now.pinStamp = stamps;
    }

    private void stampPins() {
        stamps++;
        now.pinStamp = stamps;
    }

    private Energies energiesNow() {
        if (energies.stamp != now.tieStamp) {
            energies.fill(grid, now.bonds, now.fields, grid.sites);
            energies.stamp = now.tieStamp;
        }
        return energies;
    }

    private Levels levelsNow() {
        energiesNow();
        if (levels.stamp != now.pinStamp) {
            levels.gather(energies, now, grid.states());
            levels.stamp = now.pinStamp;
        }
        return levels;
    }

    private Breaks breaksNow() {
        if (breaks.stamp != now.pinStamp) {
            breaks.gather(grid, now, aside);
            breaks.stamp = now.pinStamp;
        }
        return breaks;
    }

    private Terrain terrainNow() {
        Levels known = levelsNow();
        if (terrain.stamp != now.pinStamp) {
            terrain.sort(energies, known, now, grid.sites);
            terrain.stamp = now.pinStamp;
        }
        return terrain;
    }

    private boolean isLawful(int bits) {
        return bits >= 0 && bits < grid.states() && now.allows(bits);
    }

    // ---- small sums ----

    private static boolean isJ(int j) {
        return j >= -MOST_J && j <= MOST_J;
    }

    private static int bitOf(int bits, int site) {
        return (bits >> site) & 1;
    }

    private static long nextLot(long x) {
        return (x * 1103515245L + 12345L) % 2147483648L;
    }

    private static int lotOf(long x, int among) {
        return among > 0 ? (int) (x / 65536L % among) : 0;
    }

    private static int partOfFraction(int above, int below, int what) {
        int common = commonDivisor(Math.abs(above), below);
        if (common == 0) {
            return REFUSED;
        }
        switch (what) {
            case 0: return above / common;
            case 1: return below / common;
            default: return REFUSED;
        }
    }

    private static int commonDivisor(int one, int other) {
        int a = one;
        int b = other;
        for (int n = 0; n < 64 && b != 0; n++) {
            int rest = a % b;
            a = b;
            b = rest;
        }
        return a;
    }

    // ---- the parts ----

    /** The bytes told so far, and, when they are read, the tokens that they are cut into. */
    private static final class Tape {
        private final byte[] bytes = new byte[MOST_BYTES];
        private final int[] kinds = new int[MOST_TOKENS];
        private final int[] numbers = new int[MOST_TOKENS];
        private final int[] places = new int[MOST_TOKENS];
        private int length;
        private int many;
        /** The token found last: its kind, its number if it is an INT, its first byte and the byte behind it. */
        private int kind;
        private int number;
        private int start;
        private int end;

        private void addWord(int word) {
            for (int shift = 24; shift >= 0; shift -= 8) {
                if (length >= 0 && length < bytes.length) {
                    bytes[length] = (byte) (word >> shift);
                    length++;
                }
            }
        }

        private int byteAt(int at) {
            return at >= 0 && at < length && at < bytes.length ? bytes[at] : 0;
        }

        /** Goes on as long as the grammar does: the fault, whose place is the start of the token found last. */
        private int cut() {
            int want = WANT_STRIP;
            many = 0;
            end = 0;
            for (int n = 0; n <= MOST_TOKENS; n++) {
                findToken(end);
                if (kind == END) {
                    return want == WANT_TELL ? 0 : FAULT_SYNTAX;
                }
                want = wantBehind(want, kind);
                if (want == NONE) {
                    return FAULT_SYNTAX;
                }
                keepToken();
            }
            return FAULT_ROOM;
        }

        private void keepToken() {
            if (many >= 0 && many < MOST_TOKENS) {
                kinds[many] = kind;
                numbers[many] = number;
                places[many] = start;
                many++;
            }
        }

        private int kindAt(int i) {
            return i >= 0 && i < many && i < kinds.length ? kinds[i] : END;
        }

        private int numberAt(int i) {
            return i >= 0 && i < many && i < numbers.length ? numbers[i] : 0;
        }

        private int placeAt(int i) {
            return i >= 0 && i < many && i < places.length ? places[i] : NONE;
        }

        private void findToken(int from) {
            start = from;
            while (start < length && isBlank(byteAt(start))) {
                start++;
            }
            int first = byteAt(start);
            end = start + 1;
            if (start >= length) {
                end = length;
                kind = END;
            } else if (isLetter(first)) {
                skipLetters();
                kind = wordKind();
            } else if (isDigit(first)) {
                findInt();
            } else {
                kind = first == '-' ? MINUS : first == ';' ? SEMICOLON : ODD_SIGN;
            }
        }

        private void skipLetters() {
            while (end < length && isLetter(byteAt(end))) {
                end++;
            }
        }

        private void findInt() {
            while (end < length && isDigit(byteAt(end))) {
                end++;
            }
            kind = end - start <= MOST_DIGITS ? INT : ODD_SIGN;
            number = 0;
            for (int at = start; kind == INT && at < end; at++) {
                number = number * 10 + byteAt(at) - '0';
            }
        }

        private int wordKind() {
            if (spells("strip")) return STRIP;
            if (spells("across")) return ACROSS;
            if (spells("along")) return ALONG;
            if (spells("field")) return FIELD;
            if (spells("ring")) return RING;
            if (spells("tie")) return TIE;
            if (spells("pull")) return PULL;
            if (spells("pin")) return PIN;
            if (spells("up")) return UP;
            if (spells("down")) return DOWN;
            if (spells("seed")) return SEED;
            return ODD_SIGN;
        }

        private boolean spells(String word) {
            if (end - start != word.length()) {
                return false;
            }
            for (int i = 0; i < word.length(); i++) {
                if (byteAt(start + i) != word.charAt(i)) {
                    return false;
                }
            }
            return true;
        }

        private static boolean isBlank(int b) {
            return b == 9 || b == 10 || b == 13 || b == 32;
        }

        private static boolean isLetter(int b) {
            return b >= 'a' && b <= 'z';
        }

        private static boolean isDigit(int b) {
            return b >= '0' && b <= '9';
        }

        private static int wantBehind(int want, int kind) {
            boolean isInt = kind == INT;
            boolean isWay = kind == ACROSS || kind == ALONG;
            switch (want) {
                case WANT_STRIP: return kind == STRIP ? WANT_WIDE : NONE;
                case WANT_WIDE: return isInt ? WANT_LONG : NONE;
                case WANT_LONG: return isInt ? WANT_STOP : NONE;
                case WANT_STOP: return kind == SEMICOLON ? WANT_TELL : NONE;
                case WANT_TELL: return wantInTell(kind);
                case WANT_J: return kind == MINUS ? WANT_J_INT : isInt ? WANT_STOP : NONE;
                case WANT_J_INT: return isInt ? WANT_STOP : NONE;
                case WANT_WAY: return isWay ? WANT_STOP : NONE;
                case WANT_TIE_SITE: return isInt ? WANT_TIE_WAY : NONE;
                case WANT_TIE_WAY: return isWay ? WANT_J : NONE;
                case WANT_PULL_SITE: return isInt ? WANT_J : NONE;
                case WANT_PIN_SITE: return isInt ? WANT_PIN_HOW : NONE;
                case WANT_PIN_HOW: return kind == UP || kind == DOWN ? WANT_STOP : NONE;
                case WANT_SEED: return isInt ? WANT_STOP : NONE;
                default: return NONE;
            }
        }

        private static int wantInTell(int kind) {
            switch (kind) {
                case ACROSS: return WANT_J;
                case ALONG: return WANT_J;
                case FIELD: return WANT_J;
                case RING: return WANT_WAY;
                case TIE: return WANT_TIE_SITE;
                case PULL: return WANT_PULL_SITE;
                case PIN: return WANT_PIN_SITE;
                case SEED: return WANT_SEED;
                default: return NONE;
            }
        }
    }

    /** What a text tells, gathered apart from the strip, which a fault must leave as it is. */
    private static final class Draft {
        private final Tape tape = new Tape();
        private final Setup setup = new Setup();
        private int fault;
        private int faultPlace;
        private int cursor;
        private int wide;
        private int tall;
        private int rings;
        private int allAcross;
        private int allAlong;
        private int allFields;
        private int toldTies;
        private int toldFields;

        private void build() {
            begin();
            int syntax = tape.cut();
            if (syntax != 0) {
                blame(syntax, tape.start);
                return;
            }
            takeSize();
            seeRings();
            for (int n = 0; n < MOST_TOKENS && fault == 0 && cursor < tape.many; n++) {
                takeTell();
            }
            giveUntold();
        }

        private void begin() {
            setup.clear();
            fault = 0;
            faultPlace = NONE;
            cursor = 0;
            rings = 0;
            allAcross = 0;
            allAlong = 0;
            allFields = 0;
            toldTies = 0;
            toldFields = 0;
        }

        /** Faults are met in the order of their places, so the first one stays. */
        private void blame(int number, int place) {
            if (fault == 0) {
                fault = number;
                faultPlace = place;
            }
        }

        private int takeKind() {
            int kind = tape.kindAt(cursor);
            cursor++;
            return kind;
        }

        private int takeInt() {
            int number = tape.numberAt(cursor);
            cursor++;
            return number;
        }

        private void takeSize() {
            takeKind();
            wide = takeInt();
            if (wide < 1 || wide > MOST_WIDE) {
                blame(FAULT_WRONG, tape.placeAt(cursor - 1));
            }
            tall = takeInt();
            if (tall < 1 || tall > MOST_SITES || wide * tall > MOST_SITES) {
                blame(FAULT_WRONG, tape.placeAt(cursor - 1));
            }
            takeKind();
        }

        /** A tie may be told ahead of the ring that makes it. */
        private void seeRings() {
            for (int i = cursor; i < tape.many; i++) {
                if (tape.kindAt(i) == RING) {
                    rings |= tape.kindAt(i + 1) == ACROSS ? RING_ACROSS : RING_ALONG;
                }
            }
        }

        private void takeTell() {
            switch (takeKind()) {
                case ACROSS:
                    allAcross = takeJ();
                    break;
                case ALONG:
                    allAlong = takeJ();
                    break;
                case FIELD:
                    allFields = takeJ();
                    break;
                case TIE:
                    takeTie();
                    break;
                case PULL:
                    takePull();
                    break;
                case PIN:
                    takePin();
                    break;
                case SEED:
                    setup.seed = takeInt();
                    break;
                default:
                    takeKind();
                    break;
            }
            takeKind();
        }

        private int takeJ() {
            boolean below = tape.kindAt(cursor) == MINUS;
            if (below) {
                takeKind();
            }
            int size = takeInt();
            if (size > MOST_J) {
                blame(FAULT_WRONG, tape.placeAt(cursor - 1));
            }
            return below ? -size : size;
        }

        private int takeSite() {
            int site = takeInt();
            if (site >= wide * tall) {
                blame(FAULT_NONE, tape.placeAt(cursor - 1));
            }
            return site;
        }

        private void takeTie() {
            int site = takeSite();
            int tiePlace = takeKind() == ALONG ? MOST_SITES + site : site;
            if (fault == 0 && Grid.endOf(wide, tall, rings, tiePlace) == NONE) {
                blame(FAULT_NONE, tape.placeAt(cursor - 2));
            }
            int j = takeJ();
            if (fault == 0) {
                setup.setBond(tiePlace, j);
                toldTies |= 1 << tiePlace;
            }
        }

        private void takePull() {
            int site = takeSite();
            int j = takeJ();
            if (fault == 0) {
                setup.setField(site, j);
                toldFields |= 1 << site;
            }
        }

        private void takePin() {
            int site = takeSite();
            int how = takeKind() == UP ? PIN_UP : PIN_DOWN;
            if (fault == 0) {
                setup.setPin(site, how);
            }
        }

        private void giveUntold() {
            for (int t = 0; fault == 0 && t < TIE_PLACES; t++) {
                if (bitOf(toldTies, t) == 0 && Grid.endOf(wide, tall, rings, t) != NONE) {
                    setup.setBond(t, t < MOST_SITES ? allAcross : allAlong);
                }
            }
            for (int site = 0; fault == 0 && site < wide * tall; site++) {
                if (bitOf(toldFields, site) == 0) {
                    setup.setField(site, allFields);
                }
            }
        }
    }

    /** All that hands can change: J by tie places (all across by sites, then all along), fields, pins, the state. */
    private static final class Setup {
        private final int[] bonds = new int[TIE_PLACES];
        private final int[] fields = new int[MOST_SITES];
        private int pinned;
        private int pinnedUp;
        private int bits;
        private int seed;
        /** Setups with the same stamp have the same J; with the same pin stamp, the same pins too. */
        private int tieStamp;
        private int pinStamp;

        private void clear() {
            Arrays.fill(bonds, 0);
            Arrays.fill(fields, 0);
            pinned = 0;
            pinnedUp = 0;
            bits = 0;
            seed = 0;
        }

        private void copyFrom(Setup other) {
            System.arraycopy(other.bonds, 0, bonds, 0, TIE_PLACES);
            System.arraycopy(other.fields, 0, fields, 0, MOST_SITES);
            pinned = other.pinned;
            pinnedUp = other.pinnedUp;
            bits = other.bits;
            seed = other.seed;
            tieStamp = other.tieStamp;
            pinStamp = other.pinStamp;
        }

        private int bondAt(int tiePlace) {
            return tiePlace >= 0 && tiePlace < bonds.length ? bonds[tiePlace] : 0;
        }

        private void setBond(int tiePlace, int j) {
            if (tiePlace >= 0 && tiePlace < bonds.length) {
                bonds[tiePlace] = j;
            }
        }

        private int fieldAt(int site) {
            return site >= 0 && site < fields.length ? fields[site] : 0;
        }

        private void setField(int site, int j) {
            if (site >= 0 && site < fields.length) {
                fields[site] = j;
            }
        }

        private boolean isPinned(int site) {
            return bitOf(pinned, site) == 1;
        }

        private int pinAt(int site) {
            if (!isPinned(site)) {
                return PIN_NONE;
            }
            return bitOf(pinnedUp, site) == 1 ? PIN_UP : PIN_DOWN;
        }

        private void setPin(int site, int how) {
            int bit = 1 << site;
            pinned = how == PIN_NONE ? pinned & ~bit : pinned | bit;
            pinnedUp = how == PIN_UP ? pinnedUp | bit : pinnedUp & ~bit;
        }

        private boolean allows(int state) {
            return (state & pinned) == pinnedUp;
        }
    }

    /** Which sites there are and which ties lead from where to where. */
    private static final class Grid {
        private final int[] ends = new int[TIE_PLACES];
        /** Of site s, from MOST_MATES * s on: the sites at the other ends of its ties, and these ties' places. */
        private final int[] mates = new int[MOST_MATES * MOST_SITES];
        private final int[] mateTies = new int[MOST_MATES * MOST_SITES];
        private final int[] mateCounts = new int[MOST_SITES];
        private int wide;
        private int tall;
        private int rings;
        private int sites;

        private Grid() {
            Arrays.fill(ends, NONE);
        }

        private void lay(int newWide, int newTall, int newRings) {
            wide = newWide;
            tall = newTall;
            rings = newRings;
            sites = wide * tall;
            Arrays.fill(mateCounts, 0);
            for (int t = 0; t < TIE_PLACES; t++) {
                ends[t] = endOf(wide, tall, rings, t);
                if (ends[t] != NONE) {
                    addMate(startOf(t), ends[t], t);
                    addMate(ends[t], startOf(t), t);
                }
            }
        }

        private void addMate(int site, int mate, int tiePlace) {
            if (site < 0 || site >= MOST_SITES || mateCounts[site] >= MOST_MATES) {
                return;
            }
            int at = MOST_MATES * site + mateCounts[site];
            mates[at] = mate;
            mateTies[at] = tiePlace;
            mateCounts[site]++;
        }

        private static int startOf(int tiePlace) {
            return tiePlace < MOST_SITES ? tiePlace : tiePlace - MOST_SITES;
        }

        private static int endOf(int wide, int tall, int rings, int tiePlace) {
            int site = startOf(tiePlace);
            if (wide < 1 || site < 0 || site >= wide * tall) {
                return NONE;
            }
            int row = site / wide;
            int column = site % wide;
            if (tiePlace < MOST_SITES) {
                boolean closes = (rings & RING_ACROSS) != 0 && wide > 2;
                return column + 1 < wide ? site + 1 : closes ? row * wide : NONE;
            }
            boolean closes = (rings & RING_ALONG) != 0 && tall > 2;
            return row + 1 < tall ? site + wide : closes ? column : NONE;
        }

        private int endAt(int tiePlace) {
            return tiePlace >= 0 && tiePlace < ends.length ? ends[tiePlace] : NONE;
        }

        private boolean hasSite(int site) {
            return site >= 0 && site < sites;
        }

        private int states() {
            return sites > 0 ? 1 << sites : 0;
        }

        private int rowOf(int site) {
            return wide > 0 ? site / wide : 0;
        }

        private int columnOf(int site) {
            return wide > 0 ? site % wide : 0;
        }

        private int tiePlace(int site, boolean along) {
            if (!hasSite(site)) {
                return NONE;
            }
            int found = along ? MOST_SITES + site : site;
            return endAt(found) == NONE ? NONE : found;
        }

        private int countTies() {
            int many = 0;
            for (int t = 0; t < TIE_PLACES; t++) {
                if (endAt(t) != NONE) {
                    many++;
                }
            }
            return many;
        }

        private boolean isAlike(int bits, int tiePlace) {
            return bitOf(bits, startOf(tiePlace)) == bitOf(bits, endAt(tiePlace));
        }

        private int energyOf(Setup setup, int bits) {
            int energy = 0;
            for (int t = 0; t < TIE_PLACES; t++) {
                if (endAt(t) != NONE) {
                    energy += isAlike(bits, t) ? -setup.bondAt(t) : setup.bondAt(t);
                }
            }
            for (int site = 0; site < sites; site++) {
                energy += bitOf(bits, site) == 1 ? -setup.fieldAt(site) : setup.fieldAt(site);
            }
            return energy;
        }

        private int brokenOf(Setup setup, int bits) {
            int many = 0;
            for (int t = 0; t < TIE_PLACES; t++) {
                int j = setup.bondAt(t);
                if (endAt(t) != NONE && j != 0 && isAlike(bits, t) == j < 0) {
                    many++;
                }
            }
            return many;
        }

        private int costOfTurn(Setup setup, int bits, int site) {
            if (site < 0 || site >= MOST_SITES) {
                return 0;
            }
            int pulled = setup.fieldAt(site);
            int first = MOST_MATES * site;
            for (int at = first; at < first + mateCounts[site] && at < mates.length; at++) {
                int j = setup.bondAt(mateTies[at]);
                pulled += bitOf(bits, mates[at]) == 1 ? j : -j;
            }
            return bitOf(bits, site) == 1 ? 2 * pulled : -2 * pulled;
        }

        /** The site by which a fall goes on; NONE where it is stuck. */
        private int steepest(Setup setup, int bits) {
            int found = NONE;
            int least = 0;
            for (int site = 0; site < sites; site++) {
                int cost = costOfTurn(setup, bits, site);
                if (cost < least && !setup.isPinned(site)) {
                    least = cost;
                    found = site;
                }
            }
            return found;
        }

        private int squareOf(Setup setup, int site) {
            int next = endAt(site);
            int beyond = endAt(MOST_SITES + site);
            if (next == NONE || beyond == NONE) {
                return ABSENT;
            }
            int product = setup.bondAt(site) * setup.bondAt(MOST_SITES + site)
                    * setup.bondAt(MOST_SITES + next) * setup.bondAt(beyond);
            return product < 0 ? 1 : 0;
        }

        private int countOddSquares(Setup setup) {
            int many = 0;
            for (int site = 0; site < sites; site++) {
                if (squareOf(setup, site) == 1) {
                    many++;
                }
            }
            return many;
        }

        private int clusterOf(int bits, int site) {
            int found = 1 << site;
            int before = 0;
            for (int n = 0; n < MOST_SITES && found != before; n++) {
                before = found;
                found = grownCluster(bits, found);
            }
            return found;
        }

        private int grownCluster(int bits, int cluster) {
            int found = cluster;
            for (int t = 0; t < TIE_PLACES; t++) {
                if (endAt(t) != NONE && isAlike(bits, t)) {
                    int both = (1 << startOf(t)) | (1 << endAt(t));
                    found = (found & both) != 0 ? found | both : found;
                }
            }
            return found;
        }

        private int countClusters(int bits) {
            int seen = 0;
            int many = 0;
            for (int site = 0; site < sites; site++) {
                if (bitOf(seen, site) == 0) {
                    seen |= clusterOf(bits, site);
                    many++;
                }
            }
            return many;
        }

        private int greatestCluster(int bits) {
            int greatest = 0;
            for (int site = 0; site < sites; site++) {
                greatest = Math.max(greatest, Integer.bitCount(clusterOf(bits, site)));
            }
            return greatest;
        }
    }

    /** The setups before the last things done by hand, in a ring that forgets the oldest. */
    private static final class Past {
        private final Setup[] kept = new Setup[MOST_UNDONE];
        private int next;
        private int many;

        private Past() {
            for (int i = 0; i < kept.length; i++) {
                kept[i] = new Setup();
            }
        }

        private void forget() {
            next = 0;
            many = 0;
        }

        private void keep(Setup now) {
            if (next < 0 || next >= kept.length) {
                return;
            }
            kept[next].copyFrom(now);
            next = next + 1 < MOST_UNDONE ? next + 1 : 0;
            many = Math.min(many + 1, MOST_UNDONE);
        }

        private boolean giveBack(Setup now) {
            int last = next > 0 ? next - 1 : MOST_UNDONE - 1;
            if (many == 0 || last >= kept.length) {
                return false;
            }
            now.copyFrom(kept[last]);
            next = last;
            many--;
            return true;
        }
    }

    /** What is held, and, once it has been asked for, in how many ways it has each energy. */
    private static final class Slot {
        private final Setup setup = new Setup();
        private final int[] ways = new int[ENERGIES];
        private boolean full;
        private boolean counted;
    }

    /** The energy of every state of the first few sites, lawful or not. */
    private static final class Energies {
        private final int[] lower = new int[MOST_MATES];
        private final int[] lowerBonds = new int[MOST_MATES];
        private int lowerMany;
        private int lowest;
        private int[] cells = new int[1];
        private int stamp = NONE;

        private int of(int bits) {
            return bits >= 0 && bits < cells.length ? cells[bits] : 0;
        }

        private boolean hasNoneLower(int bits, int pinned, int states) {
            int energy = of(bits);
            for (int bit = 1; bit < states; bit += bit) {
                int next = bits ^ bit;
                if ((pinned & bit) == 0 && next >= 0 && next < cells.length && cells[next] < energy) {
                    return false;
                }
            }
            return true;
        }

        /** Sites come in one by one, each doubling the states: so a state costs a look at its last site's ties alone. */
        private void fill(Grid grid, int[] bonds, int[] fields, int sites) {
            if (sites < 0 || sites > MOST_SITES) {
                return;
            }
            if (cells.length < 1 << sites) {
                cells = new int[1 << sites];
            }
            cells[0] = 0;
            for (int site = 0; site < sites && site < fields.length; site++) {
                seeLowerMates(grid, bonds, site);
                addSite(site, fields[site]);
            }
        }

        private void seeLowerMates(Grid grid, int[] bonds, int site) {
            lowerMany = 0;
            lowest = site;
            for (int m = 0; m < MOST_MATES && m < grid.mateCounts[site]; m++) {
                int mate = grid.mates[MOST_MATES * site + m];
                int tiePlace = grid.mateTies[MOST_MATES * site + m];
                if (mate < site && tiePlace >= 0 && tiePlace < bonds.length && bonds[tiePlace] != 0) {
                    lower[lowerMany] = mate;
                    lowerBonds[lowerMany] = bonds[tiePlace];
                    lowerMany++;
                    lowest = Math.min(lowest, mate);
                }
            }
        }

        /** States that are unlike below the lowest mate alone are pulled alike, so they go in one block. */
        private void addSite(int site, int field) {
            int half = 1 << site;
            int block = 1 << lowest;
            for (int first = 0; first < half; first += block) {
                int pulled = field + pulledByMates(first);
                for (int s = first; s < first + block && half + s < cells.length; s++) {
                    cells[half + s] = cells[s] - pulled;
                    cells[s] += pulled;
                }
            }
        }

        private int pulledByMates(int bits) {
            int pulled = 0;
            for (int m = 0; m < lowerMany && m < MOST_MATES; m++) {
                pulled += ((bits >> lower[m]) & 1) == 1 ? lowerBonds[m] : -lowerBonds[m];
            }
            return pulled;
        }
    }

    /** The lawful states counted by energy and by how many sites are up. */
    private static final class Levels {
        private final int[] ways = new int[ENERGIES];
        private final int[] least = new int[ENERGIES];
        private final int[] waysByUps = new int[ENERGIES * UPS];
        private final int[] found = new int[ENERGIES];
        private int many;
        private int stamp = NONE;

        /** From the last state on, so that the least one of a level is the one that stays. */
        private void gather(Energies energies, Setup setup, int states) {
            Arrays.fill(ways, 0);
            Arrays.fill(waysByUps, 0);
            for (int s = states - 1; s >= 0; s--) {
                int at = energies.of(s) + MOST_ENERGY;
                int ups = Integer.bitCount(s);
                if (setup.allows(s) && at >= 0 && at < ENERGIES && ups < UPS) {
                    least[at] = s;
                    ways[at]++;
                    waysByUps[at * UPS + ups]++;
                }
            }
            listLevels();
        }

        private void listLevels() {
            many = 0;
            for (int at = 0; at < ENERGIES; at++) {
                if (ways[at] > 0) {
                    found[many] = at - MOST_ENERGY;
                    many++;
                }
            }
        }

        private boolean hasLevel(int i) {
            return i >= 0 && i < many;
        }

        private int energyOf(int i) {
            return i >= 0 && i < many && i < found.length ? found[i] : 0;
        }

        private int numberOf(int energy) {
            for (int i = 0; i < many && i < found.length; i++) {
                if (found[i] == energy) {
                    return i;
                }
            }
            return REFUSED;
        }

        private static boolean isEnergy(int energy) {
            return energy >= -MOST_ENERGY && energy <= MOST_ENERGY;
        }

        private int waysOf(int energy) {
            return isEnergy(energy) ? ways[energy + MOST_ENERGY] : 0;
        }

        private int leastOf(int energy) {
            return isEnergy(energy) ? least[energy + MOST_ENERGY] : 0;
        }

        private int waysWithUps(int energy, int ups) {
            boolean told = isEnergy(energy) && ups >= 0 && ups < UPS;
            return told ? waysByUps[(energy + MOST_ENERGY) * UPS + ups] : 0;
        }

        private int fewestUps(int energy) {
            for (int ups = 0; ups < UPS; ups++) {
                if (waysWithUps(energy, ups) > 0) {
                    return ups;
                }
            }
            return REFUSED;
        }

        private int mostUps(int energy) {
            for (int ups = UPS - 1; ups >= 0; ups--) {
                if (waysWithUps(energy, ups) > 0) {
                    return ups;
                }
            }
            return REFUSED;
        }

        private int upsAdded(int energy) {
            int sum = 0;
            for (int ups = 0; ups < UPS; ups++) {
                sum += ups * waysWithUps(energy, ups);
            }
            return sum;
        }
    }

    /** The lawful states counted by how many ties are broken. */
    private static final class Breaks {
        private final int[] ways = new int[TIE_PLACES + 1];
        private final int[] signs = new int[TIE_PLACES];
        private final int[] noFields = new int[MOST_SITES];
        private int stamp = NONE;

        /** If every J were 1 or -1, a state's energy would be its broken ties less those that hold. */
        private void gather(Grid grid, Setup setup, Energies aside) {
            int told = 0;
            for (int t = 0; t < TIE_PLACES; t++) {
                signs[t] = grid.endAt(t) == NONE ? 0 : Integer.signum(setup.bondAt(t));
                told += Math.abs(signs[t]);
            }
            aside.fill(grid, signs, noFields, grid.sites);
            Arrays.fill(ways, 0);
            int states = grid.states();
            for (int s = 0; s < states; s++) {
                int many = (told + aside.of(s)) / 2;
                if (setup.allows(s) && many >= 0 && many < ways.length) {
                    ways[many]++;
                }
            }
        }

        private int waysOf(int many) {
            return many >= 0 && many < ways.length ? ways[many] : 0;
        }

        private int fewest() {
            for (int many = 0; many < ways.length; many++) {
                if (ways[many] > 0) {
                    return many;
                }
            }
            return 0;
        }
    }

    /** The states of a small strip from the lowest on, and the lakes that rise among them. */
    private static final class Terrain {
        private final int[] order = new int[SMALL_STATES];
        private final int[] starts = new int[ENERGIES];
        /** A state under water points on towards its lake's root, a dry one is NONE. */
        private final int[] towards = new int[SMALL_STATES];
        private final int[] ends = new int[SMALL_STATES];
        private final long[] ways = new long[SMALL_STATES];
        private Energies energies;
        private Setup setup;
        private int sites;
        private int many;
        private int lakes;
        private int stamp = NONE;

        private void sort(Energies of, Levels levels, Setup how, int siteCount) {
            energies = of;
            setup = how;
            sites = siteCount;
            many = 0;
            for (int at = 0; at < ENERGIES; at++) {
                starts[at] = many;
                many += levels.ways[at];
            }
            int states = sites > 0 && sites <= SMALL_SITES ? 1 << sites : 0;
            for (int s = 0; s < states; s++) {
                if (how.allows(s)) {
                    putInOrder(s, of.of(s) + MOST_ENERGY);
                }
            }
        }

        private void putInOrder(int bits, int at) {
            if (at >= 0 && at < ENERGIES && starts[at] >= 0 && starts[at] < SMALL_STATES) {
                order[starts[at]] = bits;
                starts[at]++;
            }
        }

        private int lowest() {
            return order[0];
        }

        private int energyOf(int bits) {
            return energies == null ? 0 : energies.of(bits);
        }

        private boolean canTurn(int site) {
            return setup != null && !setup.isPinned(site);
        }

        private static boolean isState(int bits) {
            return bits >= 0 && bits < SMALL_STATES;
        }

        private boolean isWet(int bits) {
            return isState(bits) && towards[bits] != NONE;
        }

        private int rootOf(int bits) {
            int at = bits;
            for (int n = 0; n < SMALL_STATES && isWet(at) && isWet(towards[at]) && towards[at] != at; n++) {
                towards[at] = towards[towards[at]];
                at = towards[at];
            }
            return at;
        }

        private void join(int one, int other) {
            int a = rootOf(one);
            int b = rootOf(other);
            if (a != b && isState(a)) {
                towards[a] = b;
                lakes--;
            }
        }

        private void dry() {
            Arrays.fill(towards, NONE);
            lakes = 0;
        }

        private void flood(int bits) {
            if (!isState(bits)) {
                return;
            }
            towards[bits] = bits;
            lakes++;
            for (int site = 0; site < sites; site++) {
                int next = bits ^ (1 << site);
                if (canTurn(site) && isWet(next)) {
                    join(bits, next);
                }
            }
        }

        /** The water rises state by state till the two lie in one lake; all ground may count as one lake from the start. */
        private int meetingEnergy(int one, int other, boolean groundIsOne) {
            dry();
            for (int i = 0; i < many && i < SMALL_STATES; i++) {
                int last = order[i];
                flood(last);
                if (groundIsOne && energyOf(last) == energyOf(lowest())) {
                    join(last, lowest());
                }
                if (isWet(one) && isWet(other) && rootOf(one) == rootOf(other)) {
                    return energyOf(last);
                }
            }
            return REFUSED;
        }

        private int lakesBelow(int energy) {
            dry();
            for (int i = 0; i < many && i < SMALL_STATES && energyOf(order[i]) <= energy; i++) {
                flood(order[i]);
            }
            return lakes;
        }

        /** From the lowest on: where a state's first step leads, the end of the fall is known already. */
        private int basinOf(int bits) {
            int found = 0;
            for (int i = 0; i < many && i < SMALL_STATES; i++) {
                int next = steepestFrom(order[i]);
                int end = next == order[i] || !isState(next) ? order[i] : ends[next];
                if (isState(order[i])) {
                    ends[order[i]] = end;
                }
                found += end == bits ? 1 : 0;
            }
            return found;
        }

        private int steepestFrom(int bits) {
            int found = bits;
            for (int site = 0; site < sites; site++) {
                int next = bits ^ (1 << site);
                if (canTurn(site) && energyOf(next) < energyOf(found)) {
                    found = next;
                }
            }
            return found;
        }

        private long waysDown(int bits) {
            for (int i = 0; i < many && i < SMALL_STATES; i++) {
                int from = order[i];
                long added = waysFrom(from);
                if (from == bits) {
                    return added;
                }
                if (isState(from)) {
                    ways[from] = added;
                }
            }
            return REFUSED;
        }

        private long waysFrom(int bits) {
            long added = 0;
            boolean isStuck = true;
            for (int site = 0; site < sites; site++) {
                int next = bits ^ (1 << site);
                if (canTurn(site) && isState(next) && energyOf(next) < energyOf(bits)) {
                    added += ways[next];
                    isStuck = false;
                }
            }
            return isStuck ? 1 : added;
        }
    }

    /** Goes from state to state by turns, apart from the strip's own state. */
    private static final class Walker {
        private int bits;
        private int turns;
        private int leastEnergy;

        private void fallFrom(Grid grid, Setup setup, int from) {
            bits = from;
            turns = 0;
            int site = grid.steepest(setup, bits);
            for (int n = 0; n < ENERGIES && site != NONE; n++) {
                bits ^= 1 << site;
                turns++;
                site = grid.steepest(setup, bits);
            }
        }

        private void strollFrom(Grid grid, Setup setup, int times, int cold) {
            bits = setup.bits;
            turns = 0;
            int energy = grid.energyOf(setup, bits);
            leastEnergy = energy;
            long x = setup.seed;
            for (int n = 0; n < times; n++) {
                x = nextLot(x);
                int site = lotOf(x, grid.sites);
                x = nextLot(x);
                int cost = grid.costOfTurn(setup, bits, site);
                if (!setup.isPinned(site) && lotOf(x, 100) < 100 - cold * cost) {
                    bits ^= 1 << site;
                    turns++;
                    energy += cost;
                    leastEnergy = Math.min(leastEnergy, energy);
                }
            }
        }
    }
}

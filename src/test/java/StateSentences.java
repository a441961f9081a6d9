import java.math.BigInteger;

/** The part "==== II." of "Terms": STATES, ENERGIES, and all that is worked out of them. */
final class StateSentences {
    private static final int R = -100000;
    /** Energies -1, 3, 3, -5 by bits. */
    private static final String TWO = "strip 2 1; across 3; field 1;";
    /** Three sites in a ring, no two of which want to be alike: LEVELS -1 (six STATES) and 3 (two). */
    private static final String TRIANGLE = "strip 3 1; ring across; across -1;";

    private StateSentences() { }

    static void run() {
        bits();
        lawful();
        withoutSites();
        energies();
        levels();
        broken();
        fractions();
        values();
        joined();
        stuckAndFall();
        hills();
        lakesAndDown();
        nearestAndClusters();
        rows(false);
        rows(true);
        squares();
        overlapBasinStiff();
        glass();
        wander();
        wanderTurns();
        byHand();
        orders();
    }

    private static void due(String call, long got, long want) { Check.due(call, got, want); }
    private static void due(String call, boolean got, boolean want) { Check.due(call, got, want); }
    private static void of(String words) { Sentence.ofTerms(words); }

    private static void bits() {
        of("==== II. A STATE: bit k is 1 if SITE k is UP.");
        SpinStrip x = Check.strip("strip 4 4;");
        for (int k = 0; k < 16; k++) {
            due("turn", x.turn(k), true);
            due("the STATE", x.count(2), 1 << k);
            due("UP", x.site(k, 6), 1);
            due("others are DOWN", x.site(k == 0 ? 15 : 0, 6), 0);
            x.turn(k);
        }
        due("the last STATE", x.state(65535, 0), 0);
        due("no SITE 16", x.state(65536, 0), R);
    }

    private static void lawful() {
        of("It is LAWFUL if all that are pinned are as pinned;");
        SpinStrip x = Check.strip("strip 3 1; pin 0 up; pin 2 down;");
        int[] all = {Integer.MIN_VALUE, -8, -7, -1, 0, 1, 2, 3, 4, 5, 6, 7, 8, 9, 11, 65537, 1 << 30 | 1, Integer.MAX_VALUE};
        for (int bits : all) {
            boolean good = bits == 1 || bits == 3;
            due("state " + bits, x.state(bits, 0), good ? 0 : R);
            due("basin " + bits, x.basin(bits), good ? 1 : R);
            due("hill " + bits, x.hill(bits), good ? 0 : R);
            due("pass to " + bits, x.pass(1, bits), good ? 0 : R);
            due("pass from " + bits, x.pass(bits, 3), good ? 0 : R);
            due("down " + bits, x.down(bits), good ? 1 : R);
            due("nearest " + bits, x.nearest(bits, 1), good ? 0 : R);
        }
        of("STATES are LAWFUL ones here;");
        SpinStrip y = Check.strip("strip 2 1; across 1; pin 0 up;");
        int[] got = {y.count(3), y.level(-1, 0), y.level(0, 1), y.level(0, 2), y.both(-1, 2), y.both(-1, 0), y.both(1, 1), y.broken(0), y.broken(1),
            y.ground(1), y.ground(2), y.value(1), y.stuck(false), y.lakes(-1), y.lakes(1), y.overlap(2), y.mean(0, 0), y.level(1, 2), y.nearest(1, 0)};
        int[] want = {2, 2, 1, 3, 1, 0, 1, 1, 1, 1, 3, 2, 1, 1, 1, 0, 2, 1, 3};
        for (int k = 0; k < want.length; k++) due("answer " + k, got[k], want[k]);
        StringBuilder pins = new StringBuilder("strip 4 4; field 1;");
        for (int k = 0; k < 16; k++) pins.append("pin ").append(k).append(k % 2 == 0 ? " up;" : " down;");
        SpinStrip z = Check.strip(pins.toString());
        due("all are pinned: STATES", z.count(3), 1);
        due("all are pinned: LEVELS", z.level(-1, 0), 1);
        due("all are pinned: GROUND", z.ground(2), 0x5555);
        due("all are pinned: STUCK", z.stuck(false), 1);
        due("all are pinned: no next", z.ground(3), -2);
    }

    private static void withoutSites() {
        of("without SITES there are none.");
        SpinStrip x = new SpinStrip();
        due("STATES", x.count(3), 0);
        due("LEVELS", x.level(-1, 5), 0);
        due("no first LEVEL", x.level(0, 0), R);
        for (int k = -1; k <= 1; k++) {
            due("both", x.both(k, 0), 0);
            due("both", x.both(0, k), 0);
            due("broken", x.broken(k), 0);
            due("overlap", x.overlap(k), 0);
            due("lakes", x.lakes(k), 0);
            due("rows", x.rows(k, 0, 0), -1);
            due("rows", x.rows(0, k, 0), -1);
            due("state", x.state(k, 0), R);
            due("nearest", x.nearest(k, 0), R);
            due("basin", x.basin(k), R);
            due("hill", x.hill(k), R);
            due("pass", x.pass(k, k), R);
            due("down", x.down(k), R);
            due("mean", x.mean(k, 0), R);
            due("pair", x.pair(0, 0, k, 0), R);
            due("stiff", x.stiff(0, k), R);
        }
        due("value", x.value(0) + x.value(1) + x.value(1000002), 0);
        due("stuck", x.stuck(false) + x.stuck(true), 0);
        for (int what = 0; what <= 3; what++) due("ground", x.ground(what), R);
        for (int what = 0; what <= 2; what++) due("wander", x.wander(0, 0, what), R);
        due("lakes", x.lakes(Integer.MAX_VALUE), 0);
        due("fewest BROKEN", x.count(13), 0);
        due("hold", x.hold(0), true);
        due("joined", x.joined(0, -1, 0), 0);
        due("joined", x.joined(0, 0, 0), R);
        due("joined", x.joined(0, 0, 1), R);
    }

    private static void energies() {
        of("ENERGY of a STATE: of each TIE less its J if both its SITES are alike, else its J;");
        for (int j = -3; j <= 3; j++) {
            SpinStrip across = Check.strip("strip 2 1; across " + j + ";");
            SpinStrip along = Check.strip("strip 1 2; along " + j + ";");
            for (int s = 0; s < 4; s++) {
                due("across " + j + " of " + s, across.state(s, 0), s == 0 || s == 3 ? -j : j);
                due("along " + j + " of " + s, along.state(s, 0), s == 0 || s == 3 ? -j : j);
            }
        }
        of("of each SITE less its FIELD if it is UP, else its FIELD; added.");
        for (int j = -3; j <= 3; j++) {
            SpinStrip x = Check.strip("strip 1 1; field " + j + ";");
            due("UP by " + j, x.state(1, 0), -j);
            due("DOWN by " + j, x.state(0, 0), j);
        }
        SpinStrip most = Check.strip("strip 4 4; ring across; ring along; across -3; along -3; field -3;");
        due("the most", most.state(65535, 0), 144);
        due("both signs", most.state(0, 0), 96 - 48);
        due("LEVEL of the most", most.state(65535, 5), most.level(-1, 0) - 1);
        due("the most, counted", most.both(144, 16), 1);
        due("beyond it", most.both(145, 16), 0);
        SpinStrip least = Check.strip("strip 4 4; ring across; ring along; across 3; along 3; field -3;");
        due("the least", least.state(0, 0), -144);
        due("the least, counted", least.both(-144, 0), 1);
        due("the first LEVEL", least.level(0, 0), -144);
        due("the first LEVEL", least.ground(2), 0);
        due("the last LEVEL", most.level(most.level(-1, 0) - 1, 0), 144);
        due("by 0", least.value(0), 1);
        due("beyond it", least.both(-145, 0), 0);
        due("added", Check.strip("strip 3 1; tie 0 across 2; tie 1 across -1; pull 0 3; pull 2 -1;").state(1, 0), 2 + 1 - 3 - 1);
    }

    private static void levels() {
        of("LEVELS: ENERGIES that some STATE has, the least first.");
        SpinStrip x = Check.strip("strip 1 2; field 1;");
        int[] energies = {-2, 0, 2};
        due("LEVELS", x.level(-1, 0), 3);
        for (int i = 0; i < 3; i++) due("LEVEL " + i, x.level(i, 0), energies[i]);
        due("one LEVEL alone", Check.strip("strip 4 4;").level(-1, 0), 1);
        SpinStrip large = Check.strip("strip 4 4; ring across; ring along; across 3; along 2; field 1;");
        int states = 0;
        for (int i = 0; i < large.level(-1, 0); i++) {
            states += large.level(i, 1);
            if (i > 0) due("the least first", large.level(i, 0) > large.level(i - 1, 0), true);
        }
        due("all STATES are of some LEVEL", states, 65536);
        of("GROUND: STATES of the first LEVEL.");
        due("ENERGY", large.ground(0), large.level(0, 0));
        due("many", large.ground(1), large.level(0, 1));
        due("all of them", Check.strip("strip 4 4;").ground(1), 65536);
        due("one alone", Check.strip(TWO).ground(1), 1);
        of("UPS: how many SITES are UP.");
        SpinStrip flat = Check.strip("strip 4 4;");
        int[] of16 = {1, 16, 120, 560, 1820, 4368, 8008, 11440, 12870};
        for (int ups = 0; ups <= 16; ups++) due("UPS " + ups, flat.both(0, ups), of16[Math.min(ups, 16 - ups)]);
        for (int ups : new int[] {-1, 17, 18, Integer.MIN_VALUE, Integer.MAX_VALUE}) due("UPS " + ups, flat.both(0, ups), 0);
    }

    private static void broken() {
        of("BROKEN: TIES of a J above 0 of which the SITES are unlike, of one below 0 of which they are alike.");
        SpinStrip x = Check.strip("strip 4 1; tie 0 across 2; tie 1 across -3; field 3;");
        int[] states = {0, 1, 2, 3, 8, 12, 14, 15};
        int[] want = {1, 2, 1, 0, 1, 0, 2, 1};
        for (int k = 0; k < states.length; k++) due("of " + states[k], x.state(states[k], 1), want[k]);
        due("none", x.broken(0), 4);
        due("one", x.broken(1), 8);
        due("two", x.broken(2), 4);
        due("three", x.broken(3), 0);
        due("TIES of 0 are never", Check.strip("strip 4 4; ring across; ring along;").broken(0), 65536);
        SpinStrip all = Check.strip("strip 4 4; ring across; ring along; across -1; along -3;");
        due("all 32", all.broken(32), 2);
        due("33", all.broken(33), 0);
        due("all 32 of one", all.state(0, 1), 32);
    }

    private static void fractions() {
        SpinStrip x = Check.strip(TRIANGLE);
        of("PAIR of two SITES in a LEVEL: of its STATES how many have them alike less how many have them unlike, by how many there are, in lowest terms");
        due("2 less 4 by 6", x.pair(0, 2, 0, 0), -1);
        due("2 less 4 by 6", x.pair(0, 2, 0, 1), 3);
        due("all alike", x.pair(0, 2, 1, 0), 1);
        due("all alike", x.pair(0, 2, 1, 1), 1);
        SpinStrip y = Check.strip("strip 4 4; ring across; ring along; across 1; along 1;");
        // LEVEL 1: one SITE is unlike all others, 32 STATES; two SITES are alike in 28 of them
        due("28 less 4 by 32", y.pair(0, 5, 1, 0), 3);
        due("28 less 4 by 32", y.pair(0, 5, 1, 1), 4);
        of("(below 0: above and below the line with the sign above;");
        SpinStrip two = Check.strip("strip 2 1; across 1;");
        due("sign above", two.pair(0, 1, 1, 0), -1);
        due("none below", two.pair(0, 1, 1, 1), 1);
        due("none below", x.pair(1, 0, 0, 1), 3);
        of("0 is 0 by 1).");
        SpinStrip flat = Check.strip("strip 4 4;");
        due("above", flat.pair(0, 15, 0, 0), 0);
        due("below", flat.pair(0, 15, 0, 1), 1);
        of("MEAN: UPS of all STATES of a LEVEL, added, by how many there are, likewise.");
        due("9 by 6", x.mean(0, 0), 3);
        due("9 by 6", x.mean(0, 1), 2);
        due("524288 by 65536", flat.mean(0, 0), 8);
        due("524288 by 65536", flat.mean(0, 1), 1);
        SpinStrip down = Check.strip("strip 4 4; field -1;");
        due("0", down.mean(0, 0), 0);
        due("by 1", down.mean(0, 1), 1);
        due("16", down.mean(16, 0), 16);
        due("16 of 16", down.mean(1, 0), 1);
        due("16 of 16", down.mean(1, 1), 1);
    }

    private static void values() {
        of("VALUE by x: of all STATES x to the power of how much their ENERGY is above the first LEVEL, added, modulo 1000003.");
        String[] strips = {TWO, TRIANGLE, "strip 4 4;", "strip 4 4; ring across; ring along; across 3; along 3; field 3;", "strip 2 5; across -2; along 1; pull 3 3; pin 0 up;",
            "strip 4 4; ring across; ring along; across -3; along 3; field -1;", "strip 4 4; ring across; ring along; across -3; along -3; field -3;"};
        BigInteger prime = BigInteger.valueOf(1000003);
        for (String strip : strips) {
            SpinStrip x = Check.strip(strip);
            int[] energies = new int[x.level(-1, 0)];
            int[] ways = new int[energies.length];
            for (int i = 0; i < energies.length; i++) {
                energies[i] = x.level(i, 0);
                ways[i] = x.level(i, 1);
            }
            for (int by : new int[] {0, 1, 2, 3, 999, 500001, 1000001, 1000002}) {
                BigInteger sum = BigInteger.ZERO;
                for (int i = 0; i < energies.length; i++) {
                    sum = sum.add(BigInteger.valueOf(by).pow(energies[i] - energies[0]).multiply(BigInteger.valueOf(ways[i])));
                }
                due(strip + " by " + by, x.value(by), sum.mod(prime).longValue());
            }
        }
        due("0 to the power 0 is 1", Check.strip(TRIANGLE).value(0), 6);
        due("by 1 all STATES", Check.strip("strip 4 4; field 2;").value(1), 65536);
    }

    private static void joined() {
        of("JOINED with a SLOT's: LEVELS and how many STATES they have if a STATE is one of this strip and one of that which the SLOT holds: ENERGIES are added.");
        SpinStrip x = Check.strip("strip 2 1; across 1;");
        x.hold(2);
        x.tie(0, false, 3);
        levelsOf(x, 2, new long[][] {{-4, 4}, {-2, 4}, {2, 4}, {4, 4}});
        x.pin(0, 1);
        levelsOf(x, 2, new long[][] {{-4, 2}, {-2, 2}, {2, 2}, {4, 2}});
        x.hold(1);
        levelsOf(x, 1, new long[][] {{-6, 1}, {0, 2}, {6, 1}});
        x.pin(1, 1);
        levelsOf(x, 1, new long[][] {{-6, 1}, {0, 1}});
        levelsOf(x, 2, new long[][] {{-4, 2}, {-2, 2}});
        SpinStrip flat = Check.strip("strip 4 4;");
        flat.hold(0);
        levelsOf(flat, 0, new long[][] {{0, 1L << 32}});
        SpinStrip far = Check.strip("strip 4 4; ring across; ring along; across 3; along 3; field 3;");
        far.hold(0);
        due("twice the least", far.joined(0, 0, 0), -288);
        due("twice the least", far.joined(0, 0, 1), 1);
        long states = 0;
        for (int i = 0; i < far.joined(0, -1, 0); i++) states += far.joined(0, i, 1);
        due("all STATES", states, 1L << 32);
        SpinStrip high = Check.strip("strip 4 4; ring across; ring along; across -3; along -3; field -3;");
        high.hold(0);
        due("twice the most", high.joined(0, (int) high.joined(0, -1, 0) - 1, 0), 288);
        due("twice the most", high.joined(0, (int) high.joined(0, -1, 0) - 1, 1), 1);
    }

    private static void levelsOf(SpinStrip x, int slot, long[][] want) {
        due("LEVELS", x.joined(slot, -1, 0), want.length);
        for (int i = 0; i < want.length; i++) {
            due("ENERGY " + i, x.joined(slot, i, 0), want[i][0]);
            due("many " + i, x.joined(slot, i, 1), want[i][1]);
        }
        due("no more", x.joined(slot, want.length, 0), R);
    }

    private static void stuckAndFall() {
        of("STUCK: a STATE from which no turn of one SITE (that is not pinned) comes to a STATE of less ENERGY.");
        due("alike is not less", Check.strip("strip 1 1;").state(0, 2), 1);
        due("alike is not less", Check.strip("strip 4 4;").stuck(false), 65536);
        due("less", Check.strip("strip 1 1; field 1;").state(0, 2), 0);
        due("less, yet pinned", Check.strip("strip 1 1; field 1; pin 0 down;").state(0, 2), 1);
        due("less, yet pinned", Check.strip("strip 1 1; field 1; pin 0 down;").stuck(false), 1);
        SpinStrip last = Check.strip("strip 4 4; pull 15 1;");
        due("the last SITE", last.state(0, 2), 0);
        due("the last SITE", last.stuck(false), 32768);
        of("FALL from a STATE: again and again the SITE is turned by which the ENERGY falls most, of alike ones the least SITE; till it is STUCK.");
        SpinStrip most = Check.strip("strip 2 1; across -3; pull 0 1; pull 1 2;");
        due("most", most.state(0, 3), 2);
        due("most", most.state(0, 4), 1);
        most.pull(1, 1);
        due("of alike ones the least", most.state(0, 3), 1);
        due("of alike ones the least", most.state(3, 3), 2);
        most.pin(0, 2);
        due("no pinned one", most.state(0, 3), 2);
        SpinStrip far = Check.strip("strip 4 4; field 1;");
        due("till it is STUCK", far.state(0, 3), 65535);
        due("till it is STUCK", far.state(0, 4), 16);
        due("not through alike ENERGIES", Check.strip("strip 4 4;").state(5, 3), 5);
        due("not through alike ENERGIES", Check.strip("strip 4 4;").state(5, 4), 0);
    }

    private static void hills() {
        of("HILL of a STATE: of all rows of STATES from it to a GROUND one, each next by one turn, the least that the greatest ENERGY on it is.");
        SpinStrip x = Check.strip(TWO);
        int[] want = {3, 3, 3, -5};
        for (int s = 0; s < 4; s++) due("of " + s, x.hill(s), want[s]);
        SpinStrip either = Check.strip("strip 3 1; tie 0 across 3; pull 2 -1;");
        // GROUND 0 and 3: the row goes to the one that is near
        due("to the near one", either.hill(4), -2);
        due("to the near one", either.hill(7), -2);
        due("over the hill", either.hill(1), 2);
        due("GROUND itself", either.hill(3), -4);
        due("all pinned", Check.strip("strip 2 1; across -1; pin 0 up; pin 1 up;").hill(3), 1);
        of("PASS of two STATES: likewise from the one to the other.");
        int[] from0 = {-1, 3, 3, 3};
        for (int s = 0; s < 4; s++) {
            due("0 to " + s, x.pass(0, s), from0[s]);
            due(s + " to 0", x.pass(s, 0), from0[s]);
            due("from and to itself", x.pass(s, s), x.state(s, 0));
        }
        due("between GROUND STATES", either.pass(0, 3), 2);
        due("round the hill", Check.strip("strip 3 1; ring across; across -1; pull 0 1;").pass(2, 4), 0);
    }

    private static void lakesAndDown() {
        of("LAKES below e: STATES of an ENERGY no more than e hang together by turns through such alone: in how many parts.");
        SpinStrip x = Check.strip(TWO);
        int[][] want = {{Integer.MIN_VALUE, 0}, {-6, 0}, {-5, 1}, {-4, 1}, {-2, 1}, {-1, 2}, {0, 2}, {2, 2}, {3, 1}, {4, 1}, {Integer.MAX_VALUE, 1}};
        for (int[] w : want) due("below " + w[0], x.lakes(w[0]), w[1]);
        due("all hang together", Check.strip("strip 2 5;").lakes(0), 1);
        SpinStrip apart = Check.strip("strip 3 3; ring across; ring along; across 1; along 1;");
        due("two apart", apart.lakes(-18), 2);
        SpinStrip many = Check.strip("strip 1 10; tie 0 along 3; tie 2 along 3; tie 4 along 3; tie 6 along 3; tie 8 along 3;");
        due("32 apart", many.lakes(-15), 32);
        due("32 joined", many.lakes(-9), 1);
        of("DOWN from a STATE: rows of turns, each to a STATE of less ENERGY, till one is STUCK: how many.");
        due("in any order", Check.strip("strip 1 3; field 1;").down(0), 6);
        due("alike is not less", Check.strip("strip 1 2; pull 0 1;").down(0), 1);
        due("STUCK", x.down(0), 1);
        due("two ways", x.down(1), 2);
        due("the most", Check.strip("strip 2 5; field 3;").down(0), 3628800);
        due("no pinned one", Check.strip("strip 1 3; field 1; pin 1 down;").down(0), 2);
    }

    private static void nearestAndClusters() {
        of("NEAREST: the GROUND STATE that is unlike it at the fewest SITES; of alike ones the least bits.");
        SpinStrip x = Check.strip("strip 2 1; across 1;");
        due("the least of alike ones", x.nearest(1, 0), 0);
        due("the least of alike ones", x.nearest(2, 0), 0);
        due("itself", x.nearest(3, 0), 3);
        due("itself", x.nearest(3, 1), 0);
        SpinStrip t = Check.strip(TRIANGLE);
        due("the fewest", t.nearest(7, 0), 3);
        due("the fewest", t.nearest(7, 1), 1);
        SpinStrip far = Check.strip("strip 4 4; field 1;");
        due("all are unlike", far.nearest(0, 0), 65535);
        due("all are unlike", far.nearest(0, 1), 16);
        of("CLUSTER of a SITE: it and all to which one comes by TIES (of any J) of which the SITES are alike.");
        due("TIES of 0", Check.strip("strip 4 4;").cluster(7), 65535);
        due("TIES below 0", Check.strip("strip 4 4; across -1; along -3;").cluster(0), 65535);
        SpinStrip board = Check.strip("strip 2 2; pin 0 up; pin 3 up;");
        for (int k = 0; k < 4; k++) due("alone", board.cluster(k), 1 << k);
        due("no TIE, alone", Check.strip("strip 1 1;").cluster(0), 1);
        SpinStrip ring = Check.strip("strip 4 1; ring across; pin 1 up;");
        due("round the ring", ring.cluster(0), 13);
        due("an open row", Check.strip("strip 4 1; pin 1 up;").cluster(0), 1);
        SpinStrip snake = Check.strip("strip 4 4; pin 3 up; pin 4 up; pin 5 up; pin 6 up; pin 11 up; pin 12 up; pin 13 up; pin 14 up;");
        due("a long way", snake.cluster(15), 1 << 15);
        due("a long way", snake.cluster(0), 7);
        due("up", snake.cluster(6), 1 << 4 | 1 << 5 | 1 << 6);
        due("the most turns", Check.strip("strip 1 16;").cluster(15), 65535);
    }

    /** A strip that is told and, if so, asked for much else first. */
    private static SpinStrip told(String text, boolean asked) {
        SpinStrip x = Check.strip(text);
        if (asked) Mirror.ask(x);
        return x;
    }

    private static void rows(boolean asked) {
        of("ROWS up to r: SITES of rows 0 .. r alone, with what ties them to each other");
        SpinStrip x = told("strip 2 3; across 1; along 2; field 3; pull 0 0; pull 1 0; ring across;", asked);
        for (int e = -9; e <= 9; e++) {
            due("row 0 alone", x.rows(0, 0, e), e == -1 ? 1 : 0);
            due("row 0 alone", x.rows(0, 1, e), e == 1 ? 1 : 0);
        }
        // row 1 is 3: across -1, fields -6; row 0 is 0 (-1 + 4), 1 or 2 (1), 3 (-1 - 4)
        int[][] want = {{-12, 1}, {-6, 2}, {-4, 1}};
        for (int[] w : want) due("rows 0 and 1", x.rows(1, 3, w[0]), w[1]);
        of("(of a RING ALONG nothing, if r is not the last row),");
        SpinStrip ring = told("strip 1 4; ring along; along 1;", asked);
        due("0", ring.rows(0, 1, 0), 1);
        due("0 to 1", ring.rows(1, 1, -1), 1);
        due("0 to 2", ring.rows(2, 1, -2), 1);
        due("0 to 2", ring.rows(2, 1, 0), 2);
        due("0 to 2", ring.rows(2, 1, 2), 1);
        due("the last row", ring.rows(3, 1, -4), 1);
        due("the last row", ring.rows(3, 1, 0), 6);
        due("the last row", ring.rows(3, 1, 4), 1);
        due("a ring of two is none", told("strip 1 2; ring along; along 1;", asked).rows(1, 1, -1), 1);
        due("one row", told("strip 3 1; ring across; ring along; across 1; along 3;", asked).rows(0, 0, -3), 1);
        of("their FIELDS and PINS: by what row r is (bit c its column c) how many ways they have each ENERGY.");
        SpinStrip y = told("strip 4 2; pull 0 1; pull 3 2; pull 4 3; pin 1 up; pin 6 down;", asked);
        due("FIELDS", y.rows(0, 0b1011, -3), 1);
        due("bit c its column c", y.rows(0, 0b0010, 3), 1);
        due("bit c its column c", y.rows(0, 0b1010, -1), 1);
        due("PINS", y.rows(0, 0b0001, -1), 0);
        due("PINS", y.rows(0, 0b0001, 1), 0);
        due("PINS of later rows are not looked at", y.rows(0, 0b0110, 3), 1);
        due("row 1", y.rows(1, 0b0001, -6), 2);
        due("row 1", y.rows(1, 0b0101, -6), 0);
        due("row 1", y.rows(1, 0b0000, 6), 2);
        SpinStrip up = told("strip 2 3; pin 0 up; pin 1 up; pin 2 up; pin 3 up; pin 4 up; pin 5 up;", asked);
        for (int r = 0; r < 3; r++) for (int row = 0; row < 4; row++) due("all pinned UP", up.rows(r, row, 0), row == 3 ? 1 : 0);
        due("many ways", told("strip 4 4;", asked).rows(3, 15, 0), 4096);
    }

    private static void squares() {
        of("SQUARE of a SITE: it, that to which its TIE ACROSS leads, that to which its TIE ALONG does, that to which both do, with the four TIES:");
        String[] four = {"tie 0 across -1;", "tie 0 along -1;", "tie 1 along -1;", "tie 3 across -1;"};
        String[] none = {"tie 1 across -1;", "tie 3 along -1;", "tie 4 along -1;", "tie 4 across -1;", "tie 6 across -1;"};
        for (String tell : four) due(tell, Check.strip("strip 3 3; across 1; along 1;" + tell).square(0), 1);
        for (String tell : none) due(tell, Check.strip("strip 3 3; across 1; along 1;" + tell).square(0), 0);
        String[] round = {"tie 8 across -1;", "tie 8 along -1;", "tie 6 along -1;", "tie 2 across -1;"};
        for (String tell : round) due(tell, Check.strip("strip 3 3; ring across; ring along; across 1; along 1;" + tell).square(8), 1);
        int[] ends = {0, 0, -2, 0, 0, -2, -2, -2, -2};
        int[] ringed = {0, 0, 0, 0, 0, 0, -2, -2, -2};
        for (int site = 0; site < 9; site++) {
            due("open, of " + site, Check.strip("strip 3 3;").square(site), ends[site]);
            due("ring across, of " + site, Check.strip("strip 3 3; ring across;").square(site), ringed[site]);
        }
        due("one row has none", Check.strip("strip 4 1; ring across; ring along;").square(0), -2);
        due("one column has none", Check.strip("strip 1 4; ring across; ring along;").square(0), -2);
        of("ODD if an odd number of their J is below 0, and none is 0.");
        for (int signs = 0; signs < 16; signs++) {
            StringBuilder tells = new StringBuilder("strip 2 2; across 1; along 3;");
            String[] ties = {"tie 0 across -", "tie 0 along -", "tie 1 along -", "tie 2 across -"};
            for (int k = 0; k < 4; k++) if ((signs >> k & 1) == 1) tells.append(ties[k]).append(k % 3 + 1).append(';');
            SpinStrip x = Check.strip(tells.toString());
            due("signs " + signs, x.square(0), Integer.bitCount(signs) % 2);
            due("signs " + signs, x.count(14), Integer.bitCount(signs) % 2);
            due("one is 0", x.tie(2, false, 0), true);
            due("one is 0", x.square(0), 0);
        }
    }

    private static void overlapBasinStiff() {
        of("OVERLAP by q: how many pairs of unlike GROUND STATES are unlike at q SITES.");
        SpinStrip t = Check.strip(TRIANGLE);
        int[] want = {0, 6, 6, 3, 0};
        for (int q = 0; q < want.length; q++) due("by " + q, t.overlap(q), want[q]);
        due("one GROUND STATE", Check.strip(TWO).overlap(0), 0);
        SpinStrip two = Check.strip("strip 4 4; across 1; along 1;");
        due("all 16", two.overlap(16), 1);
        due("17", two.overlap(17), 0);
        due("-16", two.overlap(-16), 0);
        of("BASIN of a STATE: how many STATES FALL to it (itself, if it is STUCK).");
        int[] basins = {0, 2, 1, 1, 1, 1, 2, 0};
        for (int s = 0; s < 8; s++) due("of " + s, t.basin(s), basins[s]);
        due("itself alone", Check.strip("strip 2 5;").basin(1023), 1);
        due("all", Check.strip("strip 2 5; field 1;").basin(1023), 1024);
        due("not STUCK", Check.strip("strip 2 5; field 1;").basin(1022), 0);
        of("STIFF of two SITES: the least ENERGY of STATES that have them unlike, less that of those that have them alike.");
        due("above 0", Check.strip(TWO).stiff(0, 1), 3 + 5);
        due("below 0", Check.strip("strip 2 1; across -3;").stiff(0, 1), -6);
        due("0", Check.strip("strip 4 4;").stiff(0, 15), 0);
        due("either way", Check.strip(TWO).stiff(1, 0), 8);
    }

    /** x / 65536, from the first lot on, worked out without wrapping around. */
    private static int[] lots(int seed, int many) {
        BigInteger x = BigInteger.valueOf(seed);
        int[] out = new int[many];
        for (int k = 0; k < many; k++) {
            x = x.multiply(BigInteger.valueOf(1103515245)).add(BigInteger.valueOf(12345)).mod(BigInteger.valueOf(2147483648L));
            out[k] = x.intValue() / 65536;
        }
        return out;
    }

    private static void glass() {
        of("GLASS by a SEED: x is SEED; of each SITE's TIE ACROSS, then of each one's ALONG (by SITES, first all ACROSS): x becomes as in WANDER,"
            + " J is 1 if the rest of x / 65536 (rounded down) by 2 is 1, else -1.");
        String[] strips = {"strip 1 1;", "strip 2 1;", "strip 1 2;", "strip 3 2; across 2;", "strip 3 3; ring across;", "strip 3 3; ring along;", "strip 4 4; ring across; ring along;"};
        for (String strip : strips) for (int seed : new int[] {0, 1, 7, 5000, 9998, 9999}) {
            SpinStrip x = Check.strip(strip);
            due("glass", x.glass(seed), true);
            int[] lots = lots(seed, 32);
            int next = 0;
            for (int what = 4; what <= 5; what++) for (int site = 0; x.site(site, 0) != R; site++) {
                if (x.site(site, what) == 100) continue;
                due(strip + " " + seed + " of " + site, x.site(site, what), lots[next] % 2 == 1 ? 1 : -1);
                next++;
            }
            due("all TIES", next, x.count(5));
        }
    }

    /** What WANDER should answer, by energies added up one by one. */
    private static int[] wandered(Naive x, int n, int c) {
        int[] lots = lots(x.seed, 2 * n);
        int bits = x.state;
        int least = x.energy(bits);
        int turned = 0;
        for (int k = 0; k < n; k++) {
            int next = bits ^ 1 << lots[2 * k] % x.sites();
            int cost = x.energy(next) - x.energy(bits);
            if (!x.lawful(next) || lots[2 * k + 1] % 100 >= 100 - c * cost) continue;
            bits = next;
            turned++;
            least = Math.min(least, x.energy(bits));
        }
        return new int[] {bits, least, turned};
    }

    private static void wander() {
        of("WANDER: x is SEED; n times: x becomes the rest of x * 1103515245 + 12345 by 2147483648;");
        String[] strips = {"strip 1 1; field 1;", "strip 3 1; field -1;", "strip 4 4; across 1; along 1;", "strip 2 5; across -2; along 1; pin 3 up;", "strip 3 5; field 1; across -1;"};
        for (String strip : strips) for (int seed : new int[] {0, 1, 77, 9999}) {
            SpinStrip x = Check.strip(strip + "seed " + seed + ";");
            Naive told = new Naive();
            told.tape.append(strip).append("seed ").append(seed).append(';');
            told.read();
            for (int n : new int[] {0, 1, 2, 9, 199, 200}) for (int c : new int[] {0, 1, 8, 12, 25, 50, 100}) {
                int[] want = wandered(told, n, c);
                for (int what = 0; what < 3; what++) due(strip + seed + " wander " + n + " " + c + " " + what, x.wander(n, c, what), want[what]);
            }
        }
        of("the SITE whose number is the rest of x / 65536 (rounded down) by how many SITES there are;");
        for (int sites = 1; sites <= 16; sites++) for (int seed : new int[] {0, 1, 2, 3, 4, 5, 6, 7}) {
            SpinStrip x = Check.strip("strip 1 " + sites + "; seed " + seed + ";");
            due("of " + sites + " by " + seed, x.wander(1, 100, 0), 1 << lots(seed, 1)[0] % sites);
        }
        of("x likewise, y the rest of x / 65536 by 100:");
        // from SEED 0 on the lots are 0, 21468, 9988, 22117: y is 68, then 17
        SpinStrip y = Check.strip("strip 3 1; field -1;");
        due("68 is below 70", y.wander(1, 15, 2), 1);
        due("68 is not below 66", y.wander(1, 17, 2), 0);
        due("17 is below 18", y.wander(2, 41, 0), 2);
        due("17 is not below 16", y.wander(2, 42, 0), 0);
    }

    private static void wanderTurns() {
        of("the SITE is turned if it is not pinned");
        SpinStrip pinned = Check.strip("strip 1 1; pin 0 up;");
        due("the STATE stays", pinned.wander(200, 0, 0), 1);
        due("no turns", pinned.wander(200, 0, 2), 0);
        SpinStrip one = Check.strip("strip 3 1; pin 0 down;");
        due("lots go on behind a pinned one", one.wander(2, 0, 0), 2);
        of("and y is below 100 less c times what the turn costs (how much the ENERGY rises; falls: below 0).");
        SpinStrip y = Check.strip("strip 3 1; field -1;");
        due("68 is not below 68", y.wander(1, 16, 2), 0);
        y.pull(0, 0);
        due("costs nothing: always", y.wander(1, 100, 2), 1);
        y.pull(0, 3);
        due("falls: always", y.wander(1, 100, 2), 1);
        y.pull(0, -3);
        due("100 less 100 times 6", y.wander(1, 100, 2), 0);
        due("c is 0: always", y.wander(1, 0, 2), 1);
        due("68 is not below 64", y.wander(1, 6, 2), 0);
        due("68 is below 70", y.wander(1, 5, 2), 1);
        due("always, 200 times", Check.strip("strip 4 4; across 3; along 3;").wander(200, 0, 2), 200);
    }

    private static void byHand() {
        of("By hand: all TIES become GLASS; a J of a TIE, of a SITE's FIELD, a PIN is changed");
        SpinStrip x = Check.strip("strip 2 2; field 1;");
        x.glass(3);
        x.tie(0, true, 3);
        x.pull(0, -1);
        x.pin(0, 1);
        due("four things", x.count(7), 4);
        due("no things: hold", x.hold(0), true);
        due("no things: wander", x.wander(200, 0, 0) >= 0, true);
        due("no things: feed", x.feed(0, 0, 0, 0, 0), 20);
        due("no things: back", x.back(20), 0);
        due("no things: read of a FAULT", x.read(), 1);
        due("four things", x.count(7), 4);
        of("(what is pinned turns the STATE so),");
        due("pinned UP", x.count(2), 1);
        x.pin(0, 2);
        due("pinned DOWN", x.count(2), 0);
        x.turn(3);
        x.pin(3, 1);
        due("as it was", x.count(2), 8);
        x.pin(3, 0);
        due("no more pinned", x.count(2), 8);
        SpinStrip last = Check.strip("strip 4 4;");
        last.pin(15, 1);
        due("the last SITE", last.count(2), 32768);
        due("its turn back", last.undo() && last.count(2) == 0, true);
        changes();
        of("a SITE of the STATE is turned; the STATE falls.");
        int things = x.count(7);
        x.turn(1);
        due("a turn", x.count(7), things + 1);
        x.fall();
        due("a fall of some turns is one thing", x.count(7), things + 2);
    }

    /** Whatever has been asked before a change by hand, the answers behind it are those of a strip told so. */
    private static void changes() {
        String told = "strip 3 2; ring across; across -1; along 2; field 1; pull 4 -1; pin 2 up; seed 9;";
        for (int one = 0; one < 14; one++) for (int other = 0; other <= 14; other++) {
            SpinStrip x = Check.strip(told);
            x.hold(0);
            Mirror.ask(x);
            due("change " + one, change(x, one), true);
            // nothing is asked between the two; the second may be refused behind the first
            if (other < 14) change(x, other);
            Mirror.same("change " + one + ", then " + other, x);
        }
    }

    private static boolean change(SpinStrip x, int k) {
        return switch (k) {
            case 0 -> x.tie(0, false, 2);
            case 1 -> x.tie(1, true, -3);
            case 2 -> x.tie(2, false, 0);
            case 3 -> x.pull(0, -3);
            case 4 -> x.pull(5, 0);
            case 5 -> x.pin(5, 1);
            case 6 -> x.pin(2, 2);
            case 7 -> x.pin(2, 0);
            case 8 -> x.glass(0);
            case 9 -> x.glass(9999);
            case 10 -> x.turn(3);
            case 11 -> x.fall() > 0;
            case 12 -> x.tie(0, true, 1) && x.stuck(false) > 0 && x.broken(0) >= 0 && x.lakes(0) > -1 && x.undo();
            default -> x.pin(0, 1) && x.stuck(false) > 0 && x.broken(0) >= 0 && x.lakes(0) > -1 && x.restore(0);
        };
    }

    private static void orders() {
        of("Where NONE and -2 could both be told, it is NONE, unless another order is told.");
        SpinStrip x = Check.strip("strip 1 1;");
        due("no such SITE, no SQUARE", x.square(1), -1);
        due("no such SITE, no SQUARE", x.square(-1), -1);
        due("no such SITE, no SQUARE", new SpinStrip().square(0), -1);
        due("no SQUARE", x.square(0), -2);
    }
}

import java.util.function.Predicate;

/** Promises 1 to 38, sentence by sentence: what is refused, the first and last that is not, and that nothing happens then. */
final class CallSentences {
    private static final int R = -100000;
    private static final int MIN = Integer.MIN_VALUE;
    private static final int MAX = Integer.MAX_VALUE;
    private static final int[] NO_SITES_OF_NINE = {MIN, -32, -9, -1, 9, 10, 16, 25, 31, 32, 33, 64, MAX};
    private static final int[] NO_J = {MIN, -100, -4, 4, 100, MAX};
    /** How many kinds of things are done by hand in a row to be undone. */
    private static final int THINGS = 8;
    private static final String NINE = "strip 3 3; across 1; along -2; field 1; pin 4 up; pin 8 down; seed 11;";
    /** Energies -1, 3, 3, -5 by bits. */
    private static final String TWO = "strip 2 1; across 3; field 1;";
    private static final String TRIANGLE = "strip 3 1; ring across; across -1;";

    private CallSentences() { }

    static void run() {
        newObject();
        feed();
        back();
        read();
        place();
        tie();
        pull();
        pin();
        glass();
        turn();
        fall();
        undo();
        undoForty();
        site();
        level();
        bothAndBroken();
        ground();
        pair();
        mean();
        value();
        joined();
        state();
        stuck();
        rows();
        square();
        overlap();
        basin();
        stiff();
        hill();
        pass();
        lakes();
        down();
        nearest();
        cluster();
        wander();
        hold();
        restore();
        count();
        countMore();
    }

    private static void due(String call, long got, long want) { Check.due(call, got, want); }
    private static void due(String call, boolean got, boolean want) { Check.due(call, got, want); }
    private static void of(int promise, String words) { Sentence.ofPromise(promise, words); }

    private static void newObject() {
        of(1, "No SITES.");
        SpinStrip x = new SpinStrip();
        for (int what = 0; what <= 14; what++) due("count(" + what + ")", x.count(what), 0);
        for (int what = 0; what <= 7; what++) due("site(0, " + what + ")", x.site(0, what), R);
        due("cluster", x.cluster(0), -1);
        due("square", x.square(0), -1);
        due("rows", x.rows(0, 0, 0), -1);
        due("turn", x.turn(0), false);
        due("place", x.place(), -1);
        due("undo", x.undo(), false);
        for (int slot = 0; slot < 3; slot++) due("restore", x.restore(slot), false);
    }

    private static void feed() {
        of(2, "Twenty bytes, the highest of a first, come behind the tape: how many it has.");
        SpinStrip x = new SpinStrip();
        due("feed", x.feed(0x73747269, 0x70202031, 0x20203220, 0x3b736565, 0x64203132), 20);
        due("feed", x.feed(0x3334203b, 0x09090909, 0x0a0a0a0a, 0x0d0d0d0d, 0x20202020), 40);
        due("bytes", x.count(6), 40);
        due("read", x.read(), 0);
        due("SEED", x.count(9), 1234);
        due("LONG", x.count(1), 2);
        // "strip 1 1;" and ten bytes, of which the last one alone is no blank, then the tenth, then the first
        int[][] tails = {{0x20202020, 0x20202020, 19}, {0x20202020, 0x202020ff, 19}, {0x20802020, 0x20202020, 13}, {0x20202080, 0x20202020, 15}, {0x80202020, 0x20202020, 12}};
        for (int k = 0; k < tails.length; k++) {
            SpinStrip y = new SpinStrip();
            y.feed(0x73747269, 0x70203120, 0x313b2020, tails[k][0], tails[k][1]);
            due("read", y.read(), k == 0 ? 0 : 1);
            due("place", y.place(), k == 0 ? -1 : tails[k][2]);
        }
        of(2, "NONE, and nothing comes, if it would have more than 2,000.");
        SpinStrip full = new SpinStrip();
        for (int k = 1; k <= 99; k++) due("feed", full.feed(0x20202020, 0x20202020, 0x20202020, 0x20202020, 0x20202020), 20 * k);
        due("the last twenty", full.feed(0x20202020, 0x20202020, 0x20203131, 0x31312020, 0x20202020), 2000);
        due("more", full.feed(0x40404040, 0x40404040, 0x40404040, 0x40404040, 0x40404040), -1);
        due("nothing comes", full.count(6), 2000);
        for (int k = 1; k <= 19; k++) {
            due("back", full.back(1), 2000 - k);
            due("it would have more", full.feed(0x40404040, 0, 0, 0, 0), -1);
            due("nothing comes", full.count(6), 2000 - k);
        }
        due("back", full.back(1), 1980);
        due("it would have just so many", full.feed(0x20202020, 0x20202020, 0x20202020, 0x20202020, 0x20202020), 2000);
        due("read", full.read(), 1);
        due("nothing came", full.place(), 2000);
    }

    private static void back() {
        of(3, "The last n bytes of the tape go: how many it has.");
        SpinStrip x = new SpinStrip();
        due("0 of none", x.back(0), 0);
        Check.tell(x, "strip 1 1;seed 5;@@@");
        due("the last three", x.back(3), 17);
        due("0", x.back(0), 17);
        due("read", x.read(), 0);
        due("SEED", x.count(9), 5);
        Check.tell(x, "strip 1 1;seed 5;");
        due("all", x.back(17), 0);
        due("read of none", x.read(), 1);
        due("read of none", x.place(), 0);
        Check.tell(x, "@");
        x.back(1);
        Check.tell(x, "strip 1 1;");
        due("what went is gone", x.read(), 0);
        of(3, "NONE, and nothing goes, if it has not so many, or n is below 0.");
        due("1 of none", x.back(1), -1);
        Check.tell(x, "strip 2 1;");
        for (int n : new int[] {11, 12, 2000, MAX, -1, -10, MIN}) {
            due("back(" + n + ")", x.back(n), -1);
            due("nothing goes", x.count(6), 10);
        }
        due("read", x.read(), 0);
    }

    private static void read() {
        of(4, "The tape, which is empty then, is read: 0, or the number of its FAULT.");
        String[] texts = {"strip 2 2;", "strip 2 2", "strip 1 1;" + "seed 1;".repeat(133), "strip 5 2;", "strip 2 2; pin 4 up;"};
        for (int fault = 0; fault <= 4; fault++) {
            SpinStrip x = new SpinStrip();
            Check.tell(x, texts[fault]);
            due("bytes", x.count(6), texts[fault].length());
            due("read", x.read(), fault);
            due("empty", x.count(6), 0);
            due("read of an empty one", x.read(), 1);
            due("its FAULT", x.place(), 0);
            Check.tell(x, "strip 3 1;");
            due("nothing is left", x.read(), 0);
            due("WIDE", x.count(0), 3);
        }
    }

    private static void place() {
        of(5, "The byte of the latest read()'s FAULT; NONE without.");
        SpinStrip x = new SpinStrip();
        due("no read", x.place(), -1);
        Check.tell(x, "strip 2 2; y");
        due("no read yet", x.place(), -1);
        x.read();
        due("place", x.place(), 11);
        due("asked again", x.place(), 11);
        Check.tell(x, "strip 5 2;");
        due("not read yet", x.place(), 11);
        x.read();
        due("the latest", x.place(), 6);
        Check.tell(x, "strip 2 2;");
        x.read();
        due("none", x.place(), -1);
        x.read();
        due("at the first byte", x.place(), 0);
    }

    /** A strip with something to undo and something held. */
    private static SpinStrip handled() {
        SpinStrip x = Check.strip(NINE);
        x.hold(1);
        x.turn(0);
        return x;
    }

    /** A refusal must leave all that can be seen as it was. */
    private static void refused(String call, Predicate<SpinStrip> made) {
        SpinStrip x = handled();
        String before = Check.all(x);
        due(call, made.test(x), false);
        Check.same(call + ": nothing happens", Check.all(x), before);
    }

    private static void tie() {
        of(6, "A TIE of a SITE (along, or across) gets a J: true;");
        for (int j = -3; j <= 3; j++) {
            SpinStrip x = Check.strip("strip 3 3; ring across; ring along; across " + (j == 0 ? 1 : 0) + "; along " + (j == 1 ? 0 : 1) + ";");
            due("the last across", x.tie(8, false, j), true);
            due("J", x.site(8, 4), j);
            due("not along", x.site(8, 5), j == 1 ? 0 : 1);
            due("the first along", x.tie(0, true, j), true);
            due("J", x.site(0, 5), j);
            due("not across", x.site(0, 4), j == 0 ? 1 : 0);
        }
        of(6, "false, and nothing happens: it has it, no such ones.");
        refused("it has it", s -> s.tie(0, false, 1));
        refused("it has it", s -> s.tie(0, true, -2));
        for (int site : NO_SITES_OF_NINE) {
            refused("no SITE " + site, s -> s.tie(site, false, 2));
            refused("no SITE " + site, s -> s.tie(site, true, 2));
        }
        for (int j : NO_J) refused("no J " + j, s -> s.tie(0, j < 0, j));
        for (int site : new int[] {2, 5, 8}) refused("no TIE ACROSS " + site, s -> s.tie(site, false, 2));
        for (int site : new int[] {6, 7, 8}) refused("no TIE ALONG " + site, s -> s.tie(site, true, 2));
        refused("no TIE, J 0", s -> s.tie(8, true, 0));
    }

    private static void pull() {
        of(7, "A SITE's FIELD becomes j: true;");
        SpinStrip x = Check.strip("strip 3 3;");
        for (int j : new int[] {-3, 3, -2, 2, -1, 1, 0}) {
            due("pull", x.pull(8, j), true);
            due("FIELD", x.site(8, 2), j);
            due("of another one", x.site(7, 2), 0);
            due("pull", x.pull(0, j), true);
        }
        of(7, "false, and nothing happens: it is that, no such ones.");
        refused("it is that", s -> s.pull(3, 1));
        for (int site : NO_SITES_OF_NINE) refused("no SITE " + site, s -> s.pull(site, 2));
        for (int j : NO_J) refused("no J " + j, s -> s.pull(3, j));
    }

    private static void pin() {
        of(8, "A SITE is pinned: how 0 no more, 1 UP, 2 DOWN: true;");
        SpinStrip x = Check.strip("strip 3 3;");
        for (int how : new int[] {1, 2, 0, 2, 1, 0}) {
            due("the last SITE", x.pin(8, how), true);
            due("PIN", x.site(8, 3), how);
            due("pinned", x.count(4), how == 0 ? 0 : 256);
            due("STATES", x.count(3), how == 0 ? 512 : 256);
        }
        due("as it was pinned last", x.site(8, 6), 1);
        of(8, "false, and nothing happens: it is so, no such ones.");
        refused("it is so", s -> s.pin(0, 0));
        refused("it is so", s -> s.pin(4, 1));
        refused("it is so", s -> s.pin(8, 2));
        for (int site : NO_SITES_OF_NINE) for (int how : new int[] {0, 1, 2}) refused("no SITE " + site, s -> s.pin(site, how));
        for (int how : new int[] {MIN, -2, -1, 3, 4, MAX}) refused("no such " + how, s -> s.pin(0, how));
    }

    private static void glass() {
        of(9, "All TIES become GLASS by a seed (0 .. 9999; that of the text stays): true;");
        SpinStrip x = Check.strip(NINE);
        for (int seed : new int[] {0, 1, 9998, 9999}) {
            due("glass", x.glass(seed), true);
            due("SEED stays", x.count(9), 11);
            for (int site = 0; site < 9; site++) {
                due("across", Math.abs(x.site(site, 4)), site % 3 == 2 ? 100 : 1);
                due("along", Math.abs(x.site(site, 5)), site >= 6 ? 100 : 1);
                due("FIELD stays", x.site(site, 2), 1);
            }
        }
        due("things", x.count(7), 4);
        due("the same once more", x.glass(9999), true);
        due("is a thing, too", x.count(7), 5);
        SpinStrip one = Check.strip("strip 1 1;");
        due("without TIES", one.glass(0), true);
        due("is a thing, too", one.count(7), 1);
        of(9, "false, and nothing happens: no such number, no SITES.");
        for (int seed : new int[] {MIN, -9999, -1, 10000, 65536, MAX}) refused("no number " + seed, s -> s.glass(seed));
        SpinStrip none = new SpinStrip();
        due("no SITES", none.glass(0), false);
        due("nothing happens", none.count(7), 0);
    }

    private static void turn() {
        of(10, "A SITE of the STATE is turned: true;");
        SpinStrip x = Check.strip("strip 3 3;");
        due("the first", x.turn(0), true);
        due("the last", x.turn(8), true);
        due("STATE", x.count(2), 257);
        due("back", x.turn(0), true);
        due("STATE", x.count(2), 256);
        of(10, "false, and nothing happens: it is pinned, no such one.");
        refused("pinned UP", s -> s.turn(4));
        refused("pinned DOWN", s -> s.turn(8));
        for (int site : NO_SITES_OF_NINE) refused("no SITE " + site, s -> s.turn(site));
        SpinStrip y = Check.strip(NINE);
        y.pin(8, 0);
        due("no more pinned", y.turn(8), true);
    }

    private static void fall() {
        of(11, "The STATE is where a FALL from it ends: how many turns that were");
        SpinStrip x = Check.strip("strip 4 4; field 1; pin 5 down;");
        due("turns", x.fall(), 15);
        due("STATE", x.count(2), 65535 & ~32);
        due("one thing", x.count(7), 1);
        of(11, "(0: it is no thing done);");
        due("none", x.fall(), 0);
        due("no thing", x.count(7), 1);
        due("undo", x.undo(), true);
        due("STATE", x.count(2), 0);
        SpinStrip flat = Check.strip("strip 4 4;");
        due("flat", flat.fall(), 0);
        due("no thing", flat.count(7), 0);
        due("nothing to undo", flat.undo(), false);
        of(11, "NONE: no SITES.");
        SpinStrip none = new SpinStrip();
        due("no SITES", none.fall(), -1);
        due("no thing", none.count(7), 0);
    }

    private static void undo() {
        of(12, "The last thing done by hand is undone: true;");
        for (int last = 0; last < THINGS; last++) {
            SpinStrip x = Check.strip(NINE);
            for (int k = 0; k < last; k++) doThing(x, k);
            String before = Check.all(x);
            doThing(x, last);
            due("undo of thing " + last, x.undo(), true);
            Check.same("as before thing " + last, Check.all(x), before);
        }
        SpinStrip x = Check.strip(NINE);
        String first = Check.all(x);
        for (int k = 0; k < THINGS; k++) {
            doThing(x, k);
            due("things", x.count(7), k + 1);
        }
        for (int k = THINGS - 1; k >= 0; k--) {
            due("undo of thing " + k, x.undo(), true);
            due("things", x.count(7), k);
        }
        Check.same("as at first", Check.all(x), first);
        of(12, "false: there is none");
        due("no more", x.undo(), false);
        Check.same("nothing happens", Check.all(x), first);
        due("without SITES", new SpinStrip().undo(), false);
        due("a new strip", Check.strip("strip 1 1;").undo(), false);
        x.turn(0);
        x.undo();
        due("what is undone can't be undone", x.undo(), false);
        due("a refused call is no thing", x.turn(4) || x.pin(0, 0) || x.undo(), false);
    }

    private static void doThing(SpinStrip x, int k) {
        boolean done = switch (k) {
            case 0 -> x.tie(0, false, -3);
            case 1 -> x.tie(0, true, 3);
            case 2 -> x.pull(8, -3);
            case 3 -> x.pin(8, 1);
            case 4 -> x.pin(4, 0);
            case 5 -> x.glass(5);
            case 6 -> x.turn(0);
            default -> x.fall() > 0;
        };
        due("thing " + k, done, true);
    }

    private static void undoForty() {
        of(12, "(the last 40 can be).");
        for (int things = 38; things <= 83; things++) {
            SpinStrip x = Check.strip("strip 1 1;");
            for (int k = 0; k < things; k++) due("turn", x.turn(0), true);
            int most = Math.min(40, things);
            due("things of " + things, x.count(7), most);
            for (int k = 1; k <= most; k++) {
                due("undo", x.undo(), true);
                due("STATE", x.count(2), (things - k) % 2);
                due("things", x.count(7), most - k);
            }
            due("no more", x.undo(), false);
            due("STATE", x.count(2), (things - most) % 2);
        }
        SpinStrip x = Check.strip("strip 1 1;");
        for (int k = 0; k < 50; k++) x.pull(0, k % 6 - 3);
        for (int k = 49; k >= 20; k--) {
            due("FIELD", x.site(0, 2), k % 6 - 3);
            due("undo", x.undo(), true);
        }
        due("ten are left", x.count(7), 10);
        for (int k = 20; k < 55; k++) due("done anew", x.pull(0, k % 6 - 3), true);
        due("forty once more", x.count(7), 40);
        for (int k = 54; k >= 15; k--) {
            due("FIELD", x.site(0, 2), k % 6 - 3);
            due("undo", x.undo(), true);
        }
        due("FIELD", x.site(0, 2), 14 % 6 - 3);
        due("no more", x.undo(), false);
    }

    private static void site() {
        of(13, "Of a SITE: what 0 row, 1 column, 2 its FIELD, 3 PIN (0 none, 1 UP, 2 DOWN),");
        SpinStrip x = Check.strip(NINE + "pull 8 -3; pull 0 3;");
        int[][] firsts = {{0, 0, 3, 0}, {1, 1, 1, 1}, {2, 2, -3, 2}};
        for (int k = 0; k < 3; k++) for (int what = 0; what < 4; what++) due("site " + 4 * k + " " + what, x.site(4 * k, what), firsts[k][what]);
        of(13, "4 J of its TIE ACROSS, 5 ALONG (100: it has none),");
        for (int site = 0; site < 9; site++) {
            due("across of " + site, x.site(site, 4), site % 3 == 2 ? 100 : 1);
            due("along of " + site, x.site(site, 5), site >= 6 ? 100 : -2);
        }
        SpinStrip ring = Check.strip("strip 3 3; ring across; ring along;");
        due("a ring's", ring.site(8, 4), 0);
        due("a ring's", ring.site(8, 5), 0);
        due("a ring of two", Check.strip("strip 2 2; ring across; ring along;").site(3, 4), 100);
        due("a ring of two", Check.strip("strip 2 2; ring across; ring along;").site(3, 5), 100);
        of(13, "6 1 it is UP, else 0, 7 what a turn of it would cost (pinned or not).");
        due("UP", x.site(4, 6), 1);
        due("else", x.site(8, 6), 0);
        for (int site = 0; site < 9; site++) {
            SpinStrip free = Check.strip("strip 3 3; across 1; along -2; field 1; pull 8 -3; pull 0 3;");
            free.turn(4);
            due("cost of " + site, x.site(site, 7), free.state(16 ^ 1 << site, 0) - free.state(16, 0));
        }
        SpinStrip most = Check.strip("strip 4 4; ring across; ring along; across 3; along 3; field -3;");
        due("the most", most.site(15, 7), 2 * 15);
        most.turn(15);
        due("the least", most.site(15, 7), -2 * 15);
        of(13, "-100000 for others.");
        for (int site : NO_SITES_OF_NINE) for (int what = 0; what <= 7; what++) due("no SITE " + site, x.site(site, what), R);
        for (int what : new int[] {MIN, -1, 8, 9, 100, MAX}) due("what " + what, x.site(0, what), R);
    }

    private static void level() {
        SpinStrip x = Check.strip(TRIANGLE);
        of(14, "LEVELS: how many (i NONE, whatever what is);");
        for (int what : new int[] {MIN, -1, 0, 1, 4, 5, MAX}) due("what " + what, x.level(-1, what), 2);
        of(14, "of the i-th what 0 ENERGY, 1 how many STATES, 2 the least of these (bits), 3 the fewest UPS, 4 the most;");
        int[][] want = {{-1, 6, 1, 1, 2}, {3, 2, 0, 0, 3}};
        for (int i = 0; i < 2; i++) for (int what = 0; what < 5; what++) due("level " + i + " " + what, x.level(i, what), want[i][what]);
        SpinStrip all = Check.strip("strip 4 4;");
        int[] flat = {0, 65536, 0, 0, 16};
        for (int what = 0; what < 5; what++) due("flat " + what, all.level(0, what), flat[what]);
        SpinStrip field = Check.strip("strip 4 4; field 1;");
        for (int i = 0; i <= 16; i++) {
            due("ENERGY", field.level(i, 0), 2 * i - 16);
            due("the least", field.level(i, 2), (1 << 16 - i) - 1);
            due("the fewest UPS", field.level(i, 3), 16 - i);
            due("the most UPS", field.level(i, 4), 16 - i);
        }
        of(14, "-100000: no such ones.");
        for (int i : new int[] {MIN, -2, 2, 3, MAX}) for (int what = 0; what < 5; what++) due("no LEVEL " + i, x.level(i, what), R);
        for (int what : new int[] {MIN, -1, 5, 6, MAX}) due("what " + what, x.level(0, what), R);
        due("the last", field.level(16, 0), 16);
        due("behind the last", field.level(17, 0), R);
    }

    private static void bothAndBroken() {
        of(15, "How many STATES have that ENERGY and so many UPS.");
        SpinStrip x = Check.strip(TWO);
        int[][] both = {{-1, 0, 1}, {3, 1, 2}, {-5, 2, 1}, {-1, 1, 0}, {-1, 2, 0}, {3, 0, 0}, {-5, 3, 0}, {-6, 2, 0}, {-4, 2, 0}, {0, 0, 0}, {-1, -1, 0},
            {MIN, 0, 0}, {MAX, 2, 0}, {-1, MIN, 0}, {-1, MAX, 0}, {-2, 17, 0}, {0, -17, 0}, {-6, 19, 0}, {4, -16, 0}};
        for (int[] b : both) due("both " + b[0] + " " + b[1], x.both(b[0], b[1]), b[2]);
        of(16, "How many STATES have so many BROKEN TIES.");
        int[][] broken = {{0, 2}, {1, 2}, {2, 0}, {-1, 0}, {32, 0}, {33, 0}, {MIN, 0}, {MAX, 0}};
        for (int[] b : broken) due("broken " + b[0], x.broken(b[0]), b[1]);
        due("without TIES", Check.strip("strip 1 1; field 3;").broken(0), 2);
    }

    private static void ground() {
        of(17, "GROUND: what 0 ENERGY, 1 how many STATES, 2 the least one (bits), 3 how far the next LEVEL is above it");
        SpinStrip x = Check.strip(TRIANGLE);
        int[] want = {-1, 6, 1, 4};
        for (int what = 0; what < 4; what++) due("ground " + what, x.ground(what), want[what]);
        int[] of2 = {-5, 1, 3, 4};
        for (int what = 0; what < 4; what++) due("ground " + what, Check.strip(TWO).ground(what), of2[what]);
        of(17, "(-2: there is none).");
        due("one LEVEL", Check.strip("strip 4 4;").ground(3), -2);
        due("one STATE", Check.strip("strip 1 1; field 1; pin 0 up;").ground(3), -2);
        due("two LEVELS", Check.strip("strip 1 1; field 1;").ground(3), 2);
        of(17, "-100000 for others.");
        for (int what : new int[] {MIN, -2, -1, 4, 5, MAX}) due("what " + what, x.ground(what), R);
        for (int what = -1; what <= 4; what++) due("without SITES", new SpinStrip().ground(what), R);
    }

    private static void pair() {
        SpinStrip x = Check.strip(TRIANGLE);
        of(18, "PAIR in LEVEL i: what 0 above the line, 1 below it.");
        due("above", x.pair(0, 1, 0, 0), -1);
        due("below", x.pair(0, 1, 0, 1), 3);
        due("the last LEVEL, the last SITE", x.pair(2, 1, 1, 0), 1);
        of(18, "-100000 for others: no such SITES");
        for (int what : new int[] {MIN, -1, 2, MAX}) due("what " + what, x.pair(0, 1, 0, what), R);
        for (int site : new int[] {MIN, -1, 3, 32, MAX}) {
            due("no SITE " + site, x.pair(site, 0, 0, 0), R);
            due("no SITE " + site, x.pair(0, site, 0, 0), R);
            due("no SITE " + site, x.pair(site, site, 0, 0), R);
        }
        of(18, "(one and the same is one)");
        for (int site = 0; site < 3; site++) for (int i = 0; i < 2; i++) for (int what = 0; what < 2; what++) due("the same", x.pair(site, site, i, what), 1);
        of(18, "no such LEVEL.");
        for (int i : new int[] {MIN, -2, -1, 2, MAX}) due("no LEVEL " + i, x.pair(0, 1, i, 0), R);
    }

    private static void mean() {
        SpinStrip x = Check.strip(TRIANGLE);
        of(19, "MEAN of LEVEL i: what 0 above the line, 1 below it;");
        int[][] want = {{3, 2}, {3, 2}};
        for (int i = 0; i < 2; i++) for (int what = 0; what < 2; what++) due("mean", x.mean(i, what), want[i][what]);
        of(19, "-100000 for others.");
        for (int what : new int[] {MIN, -1, 2, MAX}) due("what " + what, x.mean(0, what), R);
        for (int i : new int[] {MIN, -2, -1, 2, MAX}) due("no LEVEL " + i, x.mean(i, 0), R);
    }

    private static void value() {
        SpinStrip x = Check.strip(TRIANGLE);
        of(20, "VALUE by x (0 .. 1000002);");
        due("0", x.value(0), 6);
        due("1", x.value(1), 8);
        due("10", x.value(10), 20006);
        due("1000001", x.value(1000001), 6 + 2 * 16);
        due("1000002", x.value(1000002), 8);
        of(20, "NONE: no such number.");
        for (int by : new int[] {MIN, -1, 1000003, 1000004, MAX}) {
            due("value " + by, x.value(by), -1);
            due("without SITES", new SpinStrip().value(by), -1);
        }
    }

    private static void joined() {
        SpinStrip x = Check.strip(TRIANGLE);
        due("hold", x.hold(0) && x.hold(2), true);
        of(21, "JOINED with a SLOT's: how many LEVELS (i NONE, whatever what is);");
        for (int what : new int[] {MIN, -1, 0, 1, 2, MAX}) for (int slot = 0; slot <= 2; slot += 2) due("what " + what, x.joined(slot, -1, what), 3);
        of(21, "of the i-th what 0 ENERGY, 1 how many;");
        long[][] want = {{-2, 36}, {2, 24}, {6, 4}};
        for (int i = 0; i < 3; i++) for (int what = 0; what < 2; what++) due("joined " + i + " " + what, x.joined(2, i, what), want[i][what]);
        due("another is held there", x.tie(0, false, 1) && x.hold(2), true);
        x.restore(0);
        // with one J of 1: 2 of -3, 6 of 1; with all of -1: 6 of -1, 2 of 3
        long[][] anew = {{-4, 12}, {0, 40}, {4, 12}};
        for (int i = 0; i < 3; i++) for (int what = 0; what < 2; what++) due("joined anew " + i + " " + what, x.joined(2, i, what), anew[i][what]);
        of(21, "-100000: no such ones, the SLOT holds nothing.");
        for (int i : new int[] {MIN, -2, 3, 4, MAX}) due("no LEVEL " + i, x.joined(0, i, 0), R);
        for (int what : new int[] {MIN, -1, 2, MAX}) due("what " + what, x.joined(0, 0, what), R);
        for (int slot : new int[] {MIN, -1, 3, MAX, 1}) {
            due("SLOT " + slot, x.joined(slot, -1, 0), R);
            due("SLOT " + slot, x.joined(slot, 0, 0), R);
            due("SLOT " + slot, x.joined(slot, 0, 1), R);
        }
    }

    private static void state() {
        of(22, "Of a STATE (bits): what 0 ENERGY, 1 BROKEN, 2 whether it is STUCK (1, 0), 3 where a FALL from it ends, 4 by how many turns, 5 which LEVEL it is of.");
        SpinStrip x = Check.strip(TWO);
        due("turns, asked first", x.state(1, 4), 1);
        due("turns, asked first", x.state(0, 4), 0);
        due("where, asked behind another one", x.state(2, 3), 3);
        int[][] want = {{-1, 0, 1, 0, 0, 1}, {3, 1, 0, 3, 1, 2}, {3, 1, 0, 3, 1, 2}, {-5, 0, 1, 3, 0, 0}};
        for (int s = 0; s < 4; s++) for (int what = 0; what < 6; what++) due("state " + s + " " + what, x.state(s, what), want[s][what]);
        of(22, "-100000 for others, not LAWFUL ones.");
        for (int what : new int[] {MIN, -1, 6, 7, MAX}) due("what " + what, x.state(0, what), R);
        for (int bits : new int[] {MIN, -1, 4, 5, 65536, MAX}) for (int what = 0; what < 6; what++) due("bits " + bits, x.state(bits, what), R);
        x.pin(1, 1);
        for (int what = 0; what < 6; what++) {
            due("not as pinned", x.state(1, what), R);
            due("as pinned", x.state(2, what) != R, true);
        }
    }

    private static void stuck() {
        of(23, "How many STATES are STUCK, or (ground) are and of no GROUND.");
        SpinStrip x = Check.strip(TWO);
        due("STUCK", x.stuck(false), 2);
        due("and of no GROUND", x.stuck(true), 1);
        due("all of GROUND", Check.strip("strip 4 4;").stuck(false), 65536);
        due("all of GROUND", Check.strip("strip 4 4;").stuck(true), 0);
        for (int site = 0; site < 16; site++) for (int j = -1; j <= 1; j += 2) due("one pull alone", Check.strip("strip 4 4; pull " + site + " " + j + ";").stuck(false), 32768);
        due("all UP", Check.strip("strip 4 4; field 1;").stuck(false), 1);
        due("all DOWN", Check.strip("strip 4 4; field -1;").stuck(false), 1);
        SpinStrip one = Check.strip("strip 1 1; field 3; pin 0 down;");
        due("pinned", one.stuck(false), 1);
        due("pinned", one.stuck(true), 0);
    }

    private static void rows() {
        SpinStrip x = Check.strip("strip 2 3; across 1; along 1;");
        of(24, "ROWS up to r, row r being as told: in how many ways they have an ENERGY;");
        due("the first row", x.rows(0, 0, -1), 1);
        due("the first row", x.rows(0, 0, 1), 0);
        due("the second row", x.rows(1, 3, -4), 1);
        due("the second row", x.rows(1, 3, 0), 3);
        due("the last row", x.rows(2, 3, -7), 1);
        due("an ENERGY that none has", x.rows(2, 3, 0), 0);
        due("an ENERGY that none has", x.rows(2, 3, MIN), 0);
        due("an ENERGY that none has", x.rows(2, 3, MAX), 0);
        int ways = 0;
        for (int row = 0; row < 4; row++) for (int e = -7; e <= 7; e++) ways += x.rows(2, row, e);
        due("all STATES", ways, 64);
        of(24, "NONE: no such ones (r, row; bits of WIDE columns).");
        for (int r : new int[] {MIN, -1, 3, 4, MAX}) due("no row " + r, x.rows(r, 0, 0), -1);
        for (int wide = 1; wide <= 4; wide++) {
            SpinStrip y = Check.strip("strip " + wide + " 2;");
            due("the last bits", y.rows(0, (1 << wide) - 1, 0), 1);
            due("the last bits", y.rows(1, (1 << wide) - 1, 0), 1 << wide);
            for (int row : new int[] {MIN, -1, 1 << wide, (1 << wide) + 1, MAX}) for (int r = 0; r < 2; r++) due("no bits " + row, y.rows(r, row, 0), -1);
        }
    }

    private static void square() {
        SpinStrip x = Check.strip("strip 3 3; across 1; along 1; tie 0 across -1;");
        of(25, "Whether the SQUARE of a SITE is ODD: 1, 0;");
        due("ODD", x.square(0), 1);
        due("not", x.square(1), 0);
        due("not", x.square(4), 0);
        of(25, "-2: it has none; NONE: no such SITE.");
        for (int site : new int[] {2, 5, 6, 7, 8}) due("none", x.square(site), -2);
        for (int site : NO_SITES_OF_NINE) due("no SITE " + site, x.square(site), -1);
    }

    private static void overlap() {
        of(26, "OVERLAP by q;");
        SpinStrip x = Check.strip("strip 4 2;");
        // 256 GROUND STATES: each has (8 over q) others that are unlike it at q
        int[] of8 = {0, 8, 28, 56, 70, 56, 28, 8, 1, 0};
        for (int q = 0; q <= 9; q++) due("by " + q, x.overlap(q), of8[q] * 128);
        for (int q : new int[] {MIN, -1, 17, 32, MAX}) due("by " + q, x.overlap(q), 0);
        of(26, "-2: there are more than 256 GROUND STATES.");
        due("257 and more", Check.strip("strip 3 3;").overlap(1), -2);
        for (int q : new int[] {MIN, -1, 0, 99, MAX}) due("whatever q is", Check.strip("strip 3 3;").overlap(q), -2);
        due("256 of more STATES", Check.strip("strip 3 3; pull 0 1;").overlap(8), 128);
        SpinStrip over = Check.strip("strip 3 5; ring across; ring along; across -1; along 1; tie 1 along -1; tie 8 along -1; tie 3 along -1;");
        due("just over", over.ground(1), 258);
        due("just over", over.overlap(15), -2);
        // a J of -1 and FIELDS as strong as there are TIES: no two that are tied may be DOWN at once
        SpinStrip one = Check.strip("strip 4 4; field 3; tie 5 across -1; tie 6 across -1; tie 8 across -1; tie 9 across -1; tie 10 across -1; tie 2 along -1;"
            + "tie 4 along -1; tie 5 along -1; tie 7 along -1; tie 8 along -1; tie 11 along -1; pull 2 1; pull 4 1; pull 5 2; pull 6 3; pull 7 2; pull 8 3;"
            + "pull 9 3; pull 10 2; pull 11 3; pull 12 1; pull 15 1;");
        due("257", one.ground(1), 257);
        due("257", one.overlap(1), -2);
        // rings of three have 6 GROUND STATES each
        due("6 times 6 times 6", Check.strip("strip 3 3; ring across; across -1;").overlap(9), 108);
        due("6 times 6 times 8", Check.strip("strip 3 3; ring across; across -1; tie 6 across 0; tie 7 across 0; tie 8 across 0;").overlap(9), -2);
    }

    /** Ten SITES are not too many, eleven are, and so are sixteen. */
    private static SpinStrip[] tooMany() {
        return new SpinStrip[] {Check.strip("strip 1 11;"), Check.strip("strip 4 3;"), Check.strip("strip 4 4;"), Check.strip("strip 1 11; pin 0 up; pin 1 up;")};
    }

    private static void basin() {
        of(27, "BASIN of a STATE;");
        SpinStrip x = Check.strip(TWO);
        int[] want = {1, 0, 0, 3};
        for (int s = 0; s < 4; s++) due("of " + s, x.basin(s), want[s]);
        of(27, "-100000: not a LAWFUL one;");
        for (int bits : new int[] {MIN, -1, 4, 1024, MAX}) due("bits " + bits, x.basin(bits), R);
        x.pin(0, 1);
        due("not as pinned", x.basin(0), R);
        due("as pinned", x.basin(3), 2);
        of(27, "more than 10 SITES.");
        due("1", Check.strip("strip 1 1; field 1;").basin(1), 2);
        due("1", Check.strip("strip 1 1; field -1;").basin(0), 2);
        due("10", Check.strip("strip 2 5; field 1;").basin(1023), 1024);
        for (SpinStrip y : tooMany()) for (int bits : new int[] {0, 3}) due("more", y.basin(bits), R);
    }

    private static void stiff() {
        of(28, "STIFF; -100000: no such SITES (one and the same, too),");
        SpinStrip x = Check.strip("strip 3 1; across -2;");
        due("stiff", x.stiff(0, 1), -4);
        due("the last", x.stiff(2, 0), 4);
        for (int site = 0; site < 3; site++) due("the same", x.stiff(site, site), R);
        for (int site : new int[] {MIN, -1, 3, 32, MAX}) {
            due("no SITE " + site, x.stiff(site, 0), R);
            due("no SITE " + site, x.stiff(0, site), R);
        }
        due("alike: all DOWN", Check.strip("strip 2 1; field -1;").stiff(0, 1), 2);
        due("alike: all UP", Check.strip("strip 2 1; field 1;").stiff(0, 1), 2);
        of(28, "no STATES have them so.");
        due("pinned alike: none unlike", x.pin(0, 1) && x.pin(1, 1), true);
        due("pinned alike: none unlike", x.stiff(0, 1), R);
        due("pinned unlike: none alike", x.pin(1, 2), true);
        due("pinned unlike: none alike", x.stiff(1, 0), R);
        due("one is pinned", x.stiff(0, 2), 4);
        due("one is pinned", x.stiff(2, 1), -4);
    }

    private static void hill() {
        of(29, "HILL of a STATE;");
        SpinStrip x = Check.strip(TWO);
        int[] want = {3, 3, 3, -5};
        for (int s = 0; s < 4; s++) due("of " + s, x.hill(s), want[s]);
        of(29, "-100000: not a LAWFUL one;");
        for (int bits : new int[] {MIN, -1, 4, 1024, MAX}) due("bits " + bits, x.hill(bits), R);
        x.pin(0, 1);
        due("not as pinned", x.hill(0), R);
        due("as pinned", x.hill(1), 3);
        of(29, "more than 10 SITES.");
        due("1", Check.strip("strip 1 1; field 1;").hill(0), 1);
        due("1", Check.strip("strip 1 1; field -1;").hill(0), -1);
        due("10", Check.strip("strip 2 5; field 1;").hill(0), 10);
        for (SpinStrip y : tooMany()) for (int bits : new int[] {0, 3}) due("more", y.hill(bits), R);
    }

    private static void pass() {
        of(30, "PASS of two STATES;");
        SpinStrip x = Check.strip(TWO);
        due("over the hill", x.pass(0, 3), 3);
        due("itself", x.pass(3, 3), -5);
        of(30, "-100000: not LAWFUL ones;");
        for (int bits : new int[] {MIN, -1, 4, 1024, MAX}) {
            due("bits " + bits, x.pass(bits, 0), R);
            due("bits " + bits, x.pass(0, bits), R);
            due("bits " + bits, x.pass(bits, bits), R);
        }
        x.pin(0, 1);
        due("not as pinned", x.pass(0, 3), R);
        due("not as pinned", x.pass(3, 0), R);
        due("as pinned", x.pass(1, 3), 3);
        of(30, "more than 10 SITES.");
        due("1", Check.strip("strip 1 1; field 1;").pass(0, 1), 1);
        due("10", Check.strip("strip 2 5; field 1;").pass(0, 1023), 10);
        for (SpinStrip y : tooMany()) for (int bits : new int[] {0, 3}) due("more", y.pass(bits, bits), R);
    }

    private static void lakes() {
        of(31, "LAKES below an ENERGY;");
        SpinStrip x = Check.strip(TWO);
        int[][] want = {{MIN, 0}, {-6, 0}, {-5, 1}, {-2, 1}, {-1, 2}, {2, 2}, {3, 1}, {MAX, 1}};
        for (int[] w : want) due("below " + w[0], x.lakes(w[0]), w[1]);
        of(31, "-100000: more than 10 SITES.");
        due("1", Check.strip("strip 1 1; field 1;").lakes(-1), 1);
        due("1", Check.strip("strip 1 1; field 1;").lakes(-2), 0);
        due("10", Check.strip("strip 2 5; field 1;").lakes(MAX), 1);
        for (SpinStrip y : tooMany()) for (int e : new int[] {MIN, 0, MAX}) due("more", y.lakes(e), R);
    }

    private static void down() {
        of(32, "DOWN from a STATE (one that is STUCK: 1);");
        SpinStrip x = Check.strip(TWO);
        int[] want = {1, 2, 2, 1};
        for (int s = 0; s < 4; s++) due("from " + s, x.down(s), want[s]);
        of(32, "-100000: not a LAWFUL one;");
        for (int bits : new int[] {MIN, -1, 4, 1024, MAX}) due("bits " + bits, x.down(bits), R);
        x.pin(0, 1);
        due("not as pinned", x.down(0), R);
        due("as pinned", x.down(1), 1);
        of(32, "more than 10 SITES.");
        due("1", Check.strip("strip 1 1; field 1;").down(0), 1);
        due("10", Check.strip("strip 2 5; field 1;").down(0), 3628800);
        for (SpinStrip y : tooMany()) for (int bits : new int[] {0, 3}) due("more", y.down(bits), R);
    }

    private static void nearest() {
        of(33, "NEAREST of a STATE: what 0 which (bits), 1 at how many SITES they are unlike.");
        SpinStrip x = Check.strip(TWO);
        int[][] want = {{3, 2}, {3, 1}, {3, 1}, {3, 0}};
        for (int s = 0; s < 4; s++) for (int what = 0; what < 2; what++) due("nearest " + s + " " + what, x.nearest(s, what), want[s][what]);
        due("16 SITES", Check.strip("strip 4 4; field 1;").nearest(0, 1), 16);
        of(33, "-100000 for others, not LAWFUL ones.");
        for (int what : new int[] {MIN, -1, 2, MAX}) due("what " + what, x.nearest(0, what), R);
        for (int bits : new int[] {MIN, -1, 4, 65536, MAX}) for (int what = 0; what < 2; what++) due("bits " + bits, x.nearest(bits, what), R);
        x.pin(0, 2);
        due("not as pinned", x.nearest(1, 0), R);
        due("as pinned", x.nearest(2, 0), 0);
    }

    private static void cluster() {
        of(34, "CLUSTER of a SITE in the STATE, pinned or not, (bits);");
        SpinStrip x = Check.strip("strip 3 3; pin 0 up; pin 8 down;");
        due("pinned UP", x.cluster(0), 1);
        due("pinned DOWN", x.cluster(8), 510);
        x.turn(1);
        due("pinned and not", x.cluster(0), 3);
        due("pinned and not", x.cluster(1), 3);
        due("the rest", x.cluster(2), 508);
        x.turn(1);
        due("the STATE's", x.cluster(1), 510);
        of(34, "NONE: no such one.");
        for (int site : NO_SITES_OF_NINE) due("no SITE " + site, x.cluster(site), -1);
    }

    private static void wander() {
        of(35, "WANDER from the STATE by n (0 .. 200) turns, c (0 .. 100): what 0 where it is then (bits),");
        SpinStrip x = Check.strip("strip 1 1; field -1;");
        x.turn(0);
        due("n 0", x.wander(0, 0, 0), 1);
        due("from the STATE", x.wander(1, 0, 0), 0);
        due("200", x.wander(200, 0, 0), 1);
        due("199", x.wander(199, 0, 0), 0);
        due("c 100", x.wander(200, 100, 0), 0);
        due("c 100", x.wander(1, 100, 0), 0);
        due("the STATE stays", x.count(2), 1);
        due("no thing done", x.count(7), 1);
        of(35, "1 the least ENERGY met (with the first one),");
        due("the first one", x.wander(0, 0, 1), 1);
        due("met", x.wander(1, 0, 1), -1);
        due("met on the way", x.wander(2, 0, 1), -1);
        x.turn(0);
        due("with the first one", x.wander(1, 0, 1), -1);
        due("with the first one", x.wander(1, 0, 0), 1);
        of(35, "2 how many SITES were turned.");
        due("none", x.wander(0, 0, 2), 0);
        due("one, of itself", x.wander(200, 0, 2), 200);
        due("none is", x.wander(200, 100, 2), 0);
        of(35, "-100000 for others.");
        for (int n : new int[] {MIN, -1, 201, 202, MAX}) for (int what = 0; what < 3; what++) due("n " + n, x.wander(n, 0, what), R);
        for (int c : new int[] {MIN, -1, 101, 102, MAX}) for (int what = 0; what < 3; what++) due("c " + c, x.wander(0, c, what), R);
        for (int what : new int[] {MIN, -1, 3, 4, MAX}) due("what " + what, x.wander(0, 0, what), R);
        for (int what = -1; what <= 3; what++) due("without SITES", new SpinStrip().wander(0, 0, what), R);
    }

    private static void hold() {
        of(36, "All J and PINS, the STATE and the SEED as they are are held in a SLOT (0 .. 2): true;");
        SpinStrip x = Check.strip(NINE);
        x.turn(0);
        for (int slot = 0; slot < 3; slot++) {
            due("hold", x.hold(slot), true);
            due("SLOTS", x.count(8), slot + 1);
            due("no thing done", x.count(7), slot + 1);
            x.turn(slot + 1);
        }
        for (int slot = 0; slot < 3; slot++) {
            due("restore", x.restore(slot), true);
            due("the STATE as it was", x.count(2), 16 | (1 << slot + 1) - 1);
        }
        due("held anew", x.hold(2), true);
        due("SLOTS", x.count(8), 3);
        of(36, "false: no such one.");
        for (int slot : new int[] {MIN, -1, 3, 4, MAX}) refused("SLOT " + slot, s -> s.hold(slot));
        due("without SITES", new SpinStrip().hold(3), false);
    }

    private static void restore() {
        of(37, "All is as a SLOT holds it (it stays there; nothing can be undone then): true;");
        SpinStrip x = Check.strip(NINE);
        x.hold(1);
        String held = Check.all(x);
        x.glass(1);
        x.tie(0, false, -3);
        x.pull(0, -3);
        x.pin(4, 2);
        x.pin(8, 0);
        x.turn(8);
        due("things", x.count(7), 6);
        for (int k = 0; k < 2; k++) {
            due("restore", x.restore(1), true);
            Check.same("as held", Check.all(x), held);
            due("nothing can be undone", x.undo(), false);
            due("it stays there", x.count(8), 1);
            x.turn(0);
            x.pin(0, 1);
        }
        of(37, "false, and nothing happens: no such one, it holds nothing.");
        for (int slot : new int[] {MIN, -1, 3, 4, MAX}) refused("SLOT " + slot, s -> s.restore(slot));
        refused("holds nothing", s -> s.restore(0));
        refused("holds nothing", s -> s.restore(2));
        due("things", x.count(7), 2);
        due("can be undone", x.undo(), true);
    }

    private static void count() {
        of(38, "0 WIDE, 1 LONG, 2 the STATE (bits), 3 how many STATES there are, 4 SITES pinned (bits), 5 TIES,");
        SpinStrip x = Check.strip("strip 4 4; ring across; ring along; pin 0 up; pin 15 up; pin 3 down; seed 9999;");
        int[] want = {4, 4, 32769, 8192, 32777, 32};
        for (int what = 0; what < want.length; what++) due("count " + what, x.count(what), want[what]);
        int[] ties = {0, 15, 22, 22, 24};
        for (int wide = 1; wide <= 4; wide++) due("TIES", Check.strip("strip " + wide + " " + 16 / wide + ";").count(5), ties[wide]);
        of(38, "6 bytes on the tape, 7 things that can be undone, 8 SLOTS that hold something, 9 SEED,");
        due("no bytes", x.count(6), 0);
        Check.tell(x, "strip");
        due("bytes", x.count(6), 5);
        due("no things", x.count(7), 0);
        x.turn(1);
        due("things", x.count(7), 1);
        x.undo();
        due("undone", x.count(7), 0);
        due("no SLOTS", x.count(8), 0);
        x.hold(2);
        x.hold(2);
        due("one SLOT", x.count(8), 1);
        due("SEED", x.count(9), 9999);
        of(38, "10 CLUSTERS in the STATE, 11 SITES of the greatest one,");
        due("CLUSTERS", x.count(10), 3);
        due("the greatest", x.count(11), 14);
        due("one", Check.strip("strip 4 4;").count(10), 1);
        due("all", Check.strip("strip 4 4;").count(11), 16);
        due("one SITE", Check.strip("strip 1 1;").count(10), 1);
        due("one SITE", Check.strip("strip 1 1;").count(11), 1);
        due("the first SITE's", Check.strip("strip 3 1; pin 2 up;").count(11), 2);
        due("the last SITE's", Check.strip("strip 3 1; pin 0 up;").count(11), 2);
        SpinStrip board = Check.strip("strip 2 2; pin 0 up; pin 3 up;");
        due("each alone", board.count(10), 4);
        due("each alone", board.count(11), 1);
        due("without SITES", new SpinStrip().count(10) + new SpinStrip().count(11), 0);
    }

    private static void countMore() {
        of(38, "12 RINGS (1 ACROSS, 2 ALONG, 3 both, 0 none),");
        String[] rings = {"", "ring across;", "ring along;", "ring along; ring across;", "ring across; ring across;"};
        int[] told = {0, 1, 2, 3, 1};
        for (int k = 0; k < 5; k++) due(rings[k], Check.strip("strip 3 3; " + rings[k]).count(12), told[k]);
        of(38, "13 the fewest BROKEN TIES of any STATE (0 without SITES), 14 ODD SQUARES.");
        due("none", Check.strip("strip 4 4; across -1; along 1;").count(13), 0);
        due("one", Check.strip(TRIANGLE).count(13), 1);
        due("all", Check.strip("strip 2 1; across -1; pin 0 up; pin 1 up;").count(13), 1);
        due("without SITES", new SpinStrip().count(13), 0);
        due("no SQUARE", Check.strip("strip 1 1;").count(14), 0);
        due("all four", Check.strip("strip 3 3; across 1; along 1; tie 0 across -1; tie 1 across -1; tie 6 across -1; tie 7 across -1;").count(14), 4);
        String columns = "tie 0 along -1; tie 4 along -1; tie 8 along -1; tie 12 along -1; tie 2 along -1; tie 6 along -1; tie 10 along -1; tie 14 along -1;";
        due("all sixteen", Check.strip("strip 4 4; ring across; ring along; across 1; along 1; " + columns).count(14), 16);
        due("without SITES", new SpinStrip().count(14), 0);
        of(38, "NONE for others.");
        SpinStrip x = Check.strip(NINE);
        for (int what : new int[] {MIN, -2, -1, 15, 16, 100, MAX}) {
            due("what " + what, x.count(what), -1);
            due("without SITES", new SpinStrip().count(what), -1);
        }
    }
}

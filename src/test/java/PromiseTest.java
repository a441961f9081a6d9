/** Each promise of the document, with answers worked out by hand: ordinary inputs, edges, wrong inputs. */
public final class PromiseTest {
    private static final int R = -100000;
    /** Three sites in a ring, no two of which want to be alike: LEVELS -1 (six STATES) and 3 (two). */
    private static final String TRIANGLE = "strip 3 1; ring across; across -1;";
    /** Two sites that want to be alike. */
    private static final String TWO = "strip 2 1; across 1;";
    /** Two rows of two; row energies 0, 0, 2, -2 by what row 0 is. */
    private static final String SQUARE = "strip 2 2; across 1; along 2; pull 0 1;";

    public static void main(String[] args) {
        newObject();
        feedAndBack();
        readGood();
        readSyntax();
        readRoom();
        readWrong();
        readNone();
        readReplaces();
        readFaultKeeps();
        ties();
        pulls();
        pins();
        glass();
        turns();
        falls();
        undo();
        sites();
        levels();
        ground();
        fractions();
        value();
        joined();
        states();
        stuck();
        rows();
        squares();
        overlap();
        basin();
        stiff();
        hillAndPass();
        lakes();
        down();
        nearest();
        clusters();
        wander();
        slots();
        counts();
        largest();
        smallest();
        nothingStale();
        Check.end();
    }

    private static void due(String call, long got, long want) { Check.due(call, got, want); }
    private static void due(String call, boolean got, boolean want) { Check.due(call, got, want); }

    private static String repeat(String s, int n) {
        StringBuilder b = new StringBuilder();
        for (int i = 0; i < n; i++) b.append(s);
        return b.toString();
    }

    // Promise 1
    private static void newObject() {
        SpinStrip x = new SpinStrip();
        for (int what = 0; what <= 14; what++) due("1 count(" + what + ")", x.count(what), 0);
        due("1 site", x.site(0, 0), R);
        due("1 level(-1)", x.level(-1, 0), 0);
        due("1 fall", x.fall(), -1);
        due("1 glass", x.glass(0), false);
        due("1 tie", x.tie(0, true, 1), false);
        due("1 pull", x.pull(0, 1), false);
        due("1 pin", x.pin(0, 1), false);
        due("1 turn", x.turn(0), false);
        due("1 undo", x.undo(), false);
        due("1 place", x.place(), -1);
        due("1 NONE", SpinStrip.NONE, -1);
    }

    // Promises 2, 3
    private static void feedAndBack() {
        SpinStrip x = new SpinStrip();
        for (int k = 1; k <= 100; k++) due("2 feed", x.feed(0, 0, 0, 0, 0), 20 * k);
        due("2 feed over", x.feed(0, 0, 0, 0, 0), -1);
        due("2 count(6)", x.count(6), 2000);
        due("3 back(-1)", x.back(-1), -1);
        due("3 back(min)", x.back(Integer.MIN_VALUE), -1);
        due("3 back(2001)", x.back(2001), -1);
        due("3 back(max)", x.back(Integer.MAX_VALUE), -1);
        due("3 back(0)", x.back(0), 2000);
        due("3 back(19)", x.back(19), 1981);
        due("2 feed at 1981", x.feed(1, 1, 1, 1, 1), -1);
        due("3 back(1)", x.back(1), 1980);
        due("2 feed at 1980", x.feed(1, 1, 1, 1, 1), 2000);
        due("3 back(2000)", x.back(2000), 0);
        due("3 back(1) of none", x.back(1), -1);
        due("3 count(6)", x.count(6), 0);
        due("2 'strip 4 3;' and blanks", x.feed(0x73747269, 0x70203420, 0x333b2020, 0x20202020, 0x0a0d0920), 20);
        due("2 read", x.read(), 0);
        due("2 WIDE", x.count(0), 4);
        due("2 LONG", x.count(1), 3);
    }

    // Promises 4, 5
    private static void readGood() {
        String[] good = {"strip 1 1;", "strip1 1;", " strip\t2\n3\r;", "strip 4 4;", "strip 1 16;", "strip 0002 0008;", "strip 3 5;",
            "strip 2 2;across-3;along 3;field 0;", "strip 2 2;tie 0across 1;pull 3 - 2;pin 0up;pin 0down;seed 9999;seed 0;",
            "strip 3 3;ring across;ring along;ring across;tie 8 along 0;tie 8 across -0;", "strip 3 1;tie 2 across 1;ring across;",
            "strip 1 1;across 0003;"};
        for (String text : good) Check.fault(text, 0, -1);
        SpinStrip x = Check.strip("strip 2 2; tie 0 across 3; pull 1 2; across 1; across -1; along 2; field -2; field 1; tie 0 across 2; pin 1 up; seed 5; seed 77;");
        due("4 tie ahead of all", x.site(0, 4), 2);
        due("4 the last across", x.site(2, 4), -1);
        due("4 along", x.site(0, 5), 2);
        due("4 along", x.site(1, 5), 2);
        due("4 pull ahead of all", x.site(1, 2), 2);
        due("4 the last field", x.site(0, 2), 1);
        due("4 the last seed", x.count(9), 77);
        due("4 the state", x.count(2), 2);
        due("4 pinned", x.count(4), 2);
        SpinStrip y = Check.strip("strip 2 2; pin 1 up; pin 1 down; pin 2 down; pin 2 up; tie 0 along 0; along 3;");
        due("4 the last pin", y.site(1, 3), 2);
        due("4 the last pin", y.site(2, 3), 1);
        due("4 a tie of 0 is told too", y.site(0, 5), 0);
        due("4 untold across is 0", y.site(0, 4), 0);
    }

    private static void readSyntax() {
        Check.fault("", 1, 0);
        Check.fault("   ", 1, 3);
        Check.fault("strip", 1, 5);
        Check.fault("strip 2 2", 1, 9);
        Check.fault("strip 2 2 ", 1, 10);
        Check.fault("strip 2;", 1, 7);
        Check.fault("strips 2 2;", 1, 0);
        Check.fault("stripz 2 2;", 1, 0);
        Check.fault("stripa 2 2;", 1, 0);
        Check.fault("Strip 2 2;", 1, 0);
        Check.fault("sTrip 2 2;", 1, 0);
        Check.fault(" \n@", 1, 2);
        Check.fault("strip 12345 1;", 1, 6);
        Check.fault("strip 00001 1;", 1, 6);
        Check.fault("strip 2 -2;", 1, 8);
        Check.fault("strip 2 2; ring;", 1, 15);
        Check.fault("strip 2 2; ring up;", 1, 16);
        Check.fault("strip 2 2; across;", 1, 17);
        Check.fault("strip 2 2; across --1;", 1, 19);
        Check.fault("strip 2 2; tie 0 1;", 1, 17);
        Check.fault("strip 2 2; tie across 1;", 1, 15);
        Check.fault("strip 2 2; pin 0 1;", 1, 17);
        Check.fault("strip 2 2; pin 0 across;", 1, 17);
        Check.fault("strip 2 2; seed -1;", 1, 16);
        Check.fault("strip 2 2; up;", 1, 11);
        Check.fault("strip 2 2;;", 1, 10);
        Check.fault("strip 2 2;.", 1, 10);
        Check.fault("strip 2 2; acrossalong 1;", 1, 11);
        Check.fault("strip 2 2; strip 2 2;", 1, 11);
        Check.fault("strip 2 2;" + (char) 0, 1, 10);
        Check.fault("strip 2 2;" + (char) 225, 1, 10);
        Check.fault("strip 2 2;" + (char) 11, 1, 10);
        Check.fault("strip 9 9; pull 99 9; x", 1, 22);
        Check.fault("strip 9 9; pull 99 9", 1, 20);
    }

    private static void readRoom() {
        String most = "strip 1 1;" + repeat("seed 1;", 132);
        Check.fault(most, 0, -1);
        Check.fault(most + " seed 1;", 2, most.length() + 1);
        Check.fault(most + " seed", 2, most.length() + 1);
        Check.fault(most + " up", 1, most.length() + 1);
        Check.fault(most + " 55555", 1, most.length() + 1);
        String lessOne = "strip 1 1;" + repeat("seed 1;", 131) + "seed 1";
        Check.fault(lessOne, 1, lessOne.length());
        Check.fault("strip 1 1;" + repeat("seed 1;", 128) + "field-1;field-1;field-1;", 0, -1);
        String open = "strip 1 1;" + repeat("seed 1;", 129) + "field-1;field-1;field";
        Check.fault(open, 1, open.length());
        Check.fault(open + " 1", 2, open.length() + 1);
        Check.fault("strip 9 1;" + repeat("seed 1;", 132) + "seed 1;", 2, 10 + 132 * 7);
        Check.fault("strip 1 1;" + repeat(" ", 1983) + "seed 1;", 0, -1);
    }

    private static void readWrong() {
        Check.fault("strip 5 1;", 3, 6);
        Check.fault("strip 0 1;", 3, 6);
        Check.fault("strip 5 99;", 3, 6);
        Check.fault("strip 1 0;", 3, 8);
        Check.fault("strip 1 17;", 3, 8);
        Check.fault("strip 4 5;", 3, 8);
        Check.fault("strip 3 6;", 3, 8);
        Check.fault("strip 2 9999;", 3, 8);
        Check.fault("strip 2 2; across 4;", 3, 18);
        Check.fault("strip 2 2; across - 4;", 3, 20);
        Check.fault("strip 2 2; along 9999;", 3, 17);
        Check.fault("strip 2 2; field 4;", 3, 17);
        Check.fault("strip 2 2; pull 0 4;", 3, 18);
        Check.fault("strip 2 2; tie 0 along 4;", 3, 23);
        Check.fault("strip 2 2; across 4; pull 9 1;", 3, 18);
    }

    private static void readNone() {
        Check.fault("strip 2 2; pull 4 1;", 4, 16);
        Check.fault("strip 2 2; pin 4 up;", 4, 15);
        Check.fault("strip 2 2; tie 4 along 1;", 4, 15);
        Check.fault("strip 2 2; tie 1 across 1;", 4, 15);
        Check.fault("strip 2 2; tie 2 along 1;", 4, 15);
        Check.fault("strip 2 2; ring across; tie 1 across 1;", 4, 28);
        Check.fault("strip 2 2; ring along; tie 2 along 1;", 4, 27);
        Check.fault("strip 3 1; ring along; tie 2 across 1;", 4, 27);
        Check.fault("strip 3 1; tie 2 across 9;", 4, 15);
        Check.fault("strip 3 1; pull 9 9;", 4, 16);
        Check.fault("strip 1 1; tie 9999 along 1;", 4, 15);
        Check.fault("strip 2 2; pull 4 1; across 4;", 4, 16);
    }

    private static void readReplaces() {
        SpinStrip x = Check.strip(TRIANGLE);
        x.turn(0);
        x.hold(1);
        Check.tell(x, "strip 1 2; along 2; pin 1 up;");
        due("4 read", x.read(), 0);
        due("4 undone", x.undo(), false);
        due("4 things", x.count(7), 0);
        due("4 slots", x.count(8), 0);
        due("4 restore", x.restore(1), false);
        due("4 state", x.count(2), 2);
        due("4 rings", x.count(12), 0);
        due("4 tie", x.site(0, 4), 100);
        due("4 along", x.site(0, 5), 2);
        due("4 no third site", x.site(2, 0), R);
        due("4 ground", x.ground(0), -2);
    }

    private static void readFaultKeeps() {
        SpinStrip x = Check.strip(TRIANGLE + "seed 8;");
        x.turn(0);
        x.hold(1);
        Check.tell(x, "strip 1 2; along 2; pull 3 1;");
        due("4 read", x.read(), 4);
        due("5 place", x.place(), 25);
        due("4 the tape is empty", x.count(6), 0);
        due("4 WIDE", x.count(0), 3);
        due("4 slots", x.count(8), 1);
        due("4 state", x.count(2), 1);
        due("4 seed", x.count(9), 8);
        due("4 ground", x.ground(0), -1);
        due("4 undo", x.undo(), true);
        due("5 place stays", x.place(), 25);
        Check.tell(x, TWO);
        due("4 read", x.read(), 0);
        due("5 place", x.place(), -1);
    }

    // Promise 6
    private static void ties() {
        SpinStrip x = Check.strip(SQUARE);
        due("6 it has it", x.tie(0, false, 1), false);
        due("6 too much", x.tie(0, false, 4), false);
        due("6 too little", x.tie(0, false, -4), false);
        due("6 no tie", x.tie(1, false, 2), false);
        due("6 no tie", x.tie(2, true, 1), false);
        due("6 no site", x.tie(4, true, 1), false);
        due("6 no site", x.tie(-1, true, 1), false);
        due("6 no site", x.tie(Integer.MAX_VALUE, true, 1), false);
        due("6 nothing done", x.count(7), 0);
        due("6 tie", x.tie(0, false, -3), true);
        due("6 across", x.site(0, 4), -3);
        due("6 along stays", x.site(0, 5), 2);
        due("6 energy", x.state(0, 0), 3 - 1 - 2 - 2 + 1);
        due("6 along", x.tie(1, true, 3), true);
        due("6 along", x.site(1, 5), 3);
        due("6 to 0", x.tie(1, true, 0), true);
        due("6 ties stay", x.count(5), 4);
        due("6 things", x.count(7), 3);
    }

    // Promise 7
    private static void pulls() {
        SpinStrip x = Check.strip(TWO);
        due("7 it is that", x.pull(0, 0), false);
        due("7 too much", x.pull(0, 4), false);
        due("7 no site", x.pull(2, 1), false);
        due("7 no site", x.pull(-1, 1), false);
        due("7 pull", x.pull(1, -3), true);
        due("7 field", x.site(1, 2), -3);
        due("7 energy", x.ground(0), -4);
        due("7 energy", x.state(3, 0), 2);
        due("7 undo", x.undo(), true);
        due("7 field", x.site(1, 2), 0);
        due("7 energy", x.ground(0), -1);
    }

    // Promise 8
    private static void pins() {
        SpinStrip x = Check.strip(TRIANGLE);
        due("8 it is so", x.pin(0, 0), false);
        due("8 no such pin", x.pin(0, 3), false);
        due("8 no such pin", x.pin(0, -1), false);
        due("8 no such site", x.pin(3, 1), false);
        due("8 up", x.pin(1, 1), true);
        due("8 the state", x.count(2), 2);
        due("8 states", x.count(3), 4);
        due("8 pinned", x.count(4), 2);
        due("8 levels", x.level(0, 1), 3);
        due("8 least", x.ground(2), 2);
        due("8 it is so", x.pin(1, 1), false);
        due("8 down", x.pin(1, 2), true);
        due("8 the state", x.count(2), 0);
        due("8 not lawful", x.state(2, 0), R);
        due("8 turn", x.turn(1), false);
        due("8 no more", x.pin(1, 0), true);
        due("8 the state stays", x.count(2), 0);
        due("8 undo", x.undo(), true);
        due("8 undo", x.undo(), true);
        due("8 the state", x.count(2), 2);
        due("8 pin", x.site(1, 3), 1);
        due("8 undo", x.undo(), true);
        due("8 the state", x.count(2), 0);
        due("8 states", x.count(3), 8);
    }

    // Promise 9: x / 65536 from 0 on: 0, 21468, 9988, 22117, 3498, 16927, 16045
    private static void glass() {
        SpinStrip x = Check.strip("strip 3 2; seed 4; across 2;");
        due("9 no number", x.glass(-1), false);
        due("9 no number", x.glass(10000), false);
        due("9 glass", x.glass(0), true);
        int[] across = {-1, -1, 100, -1, 1, 100};
        int[] along = {-1, 1, 1, 100, 100, 100};
        for (int site = 0; site < 6; site++) {
            due("9 across " + site, x.site(site, 4), across[site]);
            due("9 along " + site, x.site(site, 5), along[site]);
        }
        due("9 the seed stays", x.count(9), 4);
        due("9 again", x.glass(0), true);
        due("9 things", x.count(7), 2);
        due("9 most", x.glass(9999), true);
        due("9 undo", x.undo() && x.undo() && x.undo(), true);
        due("9 across", x.site(0, 4), 2);
        due("9 along", x.site(0, 5), 0);
        due("9 without ties", Check.strip("strip 1 1;").glass(3), true);
    }

    // Promise 10
    private static void turns() {
        SpinStrip x = Check.strip("strip 2 2; pin 3 up;");
        due("10 turn", x.turn(1), true);
        due("10 state", x.count(2), 10);
        due("10 pinned", x.turn(3), false);
        due("10 no site", x.turn(4), false);
        due("10 no site", x.turn(-1), false);
        due("10 no site", x.turn(33), false);
        due("10 back", x.turn(1), true);
        due("10 state", x.count(2), 8);
        due("10 things", x.count(7), 2);
    }

    // Promise 11
    private static void falls() {
        SpinStrip x = Check.strip("strip 4 1; across 1; field 2; pull 2 3; pin 1 down;");
        // 0000: site 0 pays 2 to 4, site 2 falls by 6 - 4, site 3 by 4 - 2: the least of the alike ones is 0
        due("11 cost", x.site(0, 7), -2);
        due("11 cost", x.site(1, 7), 0);
        due("11 cost", x.site(2, 7), -2);
        due("11 cost", x.site(3, 7), -2);
        due("11 fall", x.fall(), 3);
        due("11 state", x.count(2), 13);
        due("11 one thing", x.count(7), 1);
        due("11 again", x.fall(), 0);
        due("11 no thing", x.count(7), 1);
        due("11 undo", x.undo(), true);
        due("11 state", x.count(2), 0);
        SpinStrip y = Check.strip(TRIANGLE);
        due("11 fall", y.fall(), 1);
        due("11 the least site", y.count(2), 1);
        SpinStrip z = Check.strip("strip 3 1; field 1; pull 2 2;");
        due("11 most first", z.fall(), 3);
        due("11 all up", z.count(2), 7);
    }

    // Promise 12
    private static void undo() {
        SpinStrip x = Check.strip("strip 3 1; across 1;");
        for (int k = 0; k < 45; k++) due("12 pull", x.pull(0, k % 2 + 1), true);
        due("12 forty", x.count(7), 40);
        for (int k = 44; k > 4; k--) {
            due("12 field", x.site(0, 2), k % 2 + 1);
            due("12 undo", x.undo(), true);
        }
        due("12 field", x.site(0, 2), 1);
        due("12 no more", x.undo(), false);
        due("12 field", x.site(0, 2), 1);
        due("12 things", x.count(7), 0);
        x.tie(1, false, 3);
        x.turn(2);
        x.pin(0, 1);
        due("12 pin", x.undo(), true);
        due("12 state", x.count(2), 4);
        x.pull(2, -1);
        due("12 pull", x.undo(), true);
        due("12 turn", x.undo(), true);
        due("12 state", x.count(2), 0);
        due("12 tie is there", x.site(1, 4), 3);
        due("12 tie", x.undo(), true);
        due("12 tie is gone", x.site(1, 4), 1);
        due("12 level", x.ground(0), -3);
        due("12 none", x.undo(), false);
    }

    // Promise 13
    private static void sites() {
        SpinStrip x = Check.strip("strip 3 3; ring across; across 2; along -1; pull 5 -2; pin 4 up; pin 5 down;");
        due("13 row", x.site(5, 0), 1);
        due("13 column", x.site(5, 1), 2);
        due("13 field", x.site(5, 2), -2);
        due("13 pin", x.site(5, 3), 2);
        due("13 pin", x.site(4, 3), 1);
        due("13 pin", x.site(3, 3), 0);
        due("13 ring", x.site(5, 4), 2);
        due("13 along", x.site(5, 5), -1);
        due("13 no tie", x.site(6, 5), 100);
        due("13 up", x.site(4, 6), 1);
        due("13 down", x.site(5, 6), 0);
        due("13 cost of a pinned one", x.site(4, 7), 2 * (-2 - 2 + 1 + 1));
        due("13 cost", x.site(5, 7), 2 * (2 + 2 - 2 - 1 - 1));
        due("13 no such", x.site(5, 8), R);
        due("13 no such", x.site(5, -1), R);
        due("13 no site", x.site(9, 0), R);
        due("13 no site", x.site(-1, 0), R);
    }

    // Promises 14, 15, 16
    private static void levels() {
        SpinStrip x = Check.strip(TRIANGLE);
        due("14 many", x.level(-1, 77), 2);
        int[][] want = {{-1, 6, 1, 1, 2}, {3, 2, 0, 0, 3}};
        for (int i = 0; i < 2; i++) for (int what = 0; what < 5; what++) due("14 level " + i + " " + what, x.level(i, what), want[i][what]);
        due("14 no such", x.level(2, 0), R);
        due("14 no such", x.level(-2, 0), R);
        due("14 no such", x.level(0, 5), R);
        due("14 no such", x.level(0, -1), R);
        due("15 both", x.both(-1, 1), 3);
        due("15 both", x.both(-1, 2), 3);
        due("15 both", x.both(3, 0), 1);
        due("15 both", x.both(3, 3), 1);
        due("15 both", x.both(3, 1), 0);
        due("15 none", x.both(0, 0), 0);
        due("15 none", x.both(3, 17), 0);
        due("15 none", x.both(3, -1), 0);
        due("15 none", x.both(4, -17), 0);
        due("15 none", x.both(Integer.MAX_VALUE, 3), 0);
        due("15 none", x.both(Integer.MIN_VALUE, 3), 0);
        due("16 broken", x.broken(1), 6);
        due("16 broken", x.broken(3), 2);
        due("16 broken", x.broken(2), 0);
        due("16 none", x.broken(-1), 0);
        due("16 none", x.broken(Integer.MAX_VALUE), 0);
        x.pull(0, 3);
        due("14 many", x.level(-1, 0), 4);
        due("14 energy", x.level(0, 0), -4);
        due("14 ways", x.level(0, 1), 3);
        due("14 least", x.level(0, 2), 1);
        due("14 together", x.level(1, 0), 0);
        due("14 ways", x.level(1, 1), 1);
        due("14 least", x.level(1, 2), 7);
        due("16 fields break nothing", x.broken(1), 6);
        x.tie(0, false, 0);
        due("16 a J of 0 breaks never", x.broken(0), 2);
        x.pin(2, 1);
        due("16 lawful ones", x.broken(0), 1);
        due("16 lawful ones", x.broken(1), 2);
    }

    // Promise 17
    private static void ground() {
        SpinStrip x = Check.strip(TRIANGLE);
        int[] want = {-1, 6, 1, 4};
        for (int what = 0; what < 4; what++) due("17 ground " + what, x.ground(what), want[what]);
        due("17 others", x.ground(4), R);
        due("17 others", x.ground(-1), R);
        due("17 no next", Check.strip("strip 2 2;").ground(3), -2);
        due("17 no next", Check.strip("strip 1 1; field 1; pin 0 up;").ground(3), -2);
        due("17 pinned up", Check.strip("strip 1 1; field 1; pin 0 down;").ground(0), 1);
    }

    // Promises 18, 19
    private static void fractions() {
        SpinStrip x = Check.strip(TRIANGLE);
        due("18 pair", x.pair(0, 1, 0, 0), -1);
        due("18 pair", x.pair(0, 1, 0, 1), 3);
        due("18 pair", x.pair(2, 0, 1, 0), 1);
        due("18 pair", x.pair(2, 0, 1, 1), 1);
        due("18 one and the same", x.pair(2, 2, 0, 0), 1);
        due("18 one and the same", x.pair(2, 2, 0, 1), 1);
        due("18 others", x.pair(0, 1, 0, 2), R);
        due("18 others", x.pair(0, 1, 0, -1), R);
        due("18 no site", x.pair(0, 3, 0, 0), R);
        due("18 no site", x.pair(-1, 0, 0, 0), R);
        due("18 no level", x.pair(0, 1, 2, 0), R);
        due("18 no level", x.pair(0, 1, -1, 0), R);
        due("19 mean", x.mean(0, 0), 3);
        due("19 mean", x.mean(0, 1), 2);
        due("19 others", x.mean(0, 2), R);
        due("19 no level", x.mean(2, 0), R);
        due("19 no level", x.mean(-1, 0), R);
        SpinStrip y = Check.strip("strip 2 1;");
        due("18 0", y.pair(0, 1, 0, 0), 0);
        due("18 by 1", y.pair(0, 1, 0, 1), 1);
        due("19 one", y.mean(0, 0), 1);
        due("19 by one", y.mean(0, 1), 1);
        y.pin(0, 2);
        y.pin(1, 2);
        due("19 0", y.mean(0, 0), 0);
        due("19 by 1", y.mean(0, 1), 1);
    }

    // Promise 20
    private static void value() {
        SpinStrip x = Check.strip(TRIANGLE);
        due("20 value", x.value(2), 38);
        due("20 value", x.value(0), 6);
        due("20 value", x.value(1), 8);
        due("20 value", x.value(100), (6 + 2 * 100000000L) % 1000003);
        due("20 value", x.value(1000002), 8);
        due("20 none", x.value(1000003), -1);
        due("20 none", x.value(-1), -1);
    }

    // Promise 21
    private static void joined() {
        SpinStrip x = Check.strip(TRIANGLE);
        due("21 nothing held", x.joined(0, -1, 0), R);
        x.hold(0);
        due("21 many", x.joined(0, -1, 9), 3);
        long[][] want = {{-2, 36}, {2, 24}, {6, 4}};
        for (int i = 0; i < 3; i++) for (int what = 0; what < 2; what++) due("21 " + i + " " + what, x.joined(0, i, what), want[i][what]);
        due("21 others", x.joined(0, 0, 2), R);
        due("21 others", x.joined(0, 3, 0), R);
        due("21 others", x.joined(0, -2, 0), R);
        due("21 no slot", x.joined(3, -1, 0), R);
        due("21 no slot", x.joined(-1, -1, 0), R);
        due("21 nothing held", x.joined(1, -1, 0), R);
        x.pin(0, 1);
        x.pin(1, 1);
        x.pin(2, 1);
        due("21 many", x.joined(0, -1, 0), 2);
        due("21 energy", x.joined(0, 0, 0), 2);
        due("21 ways", x.joined(0, 0, 1), 6);
        x.hold(0);
        due("21 held anew", x.joined(0, -1, 0), 1);
        due("21 energy", x.joined(0, 0, 0), 6);
        due("21 ways", x.joined(0, 0, 1), 1);
        SpinStrip y = Check.strip("strip 4 4;");
        y.hold(2);
        due("21 more than an int", y.joined(2, 0, 1), 1L << 32);
    }

    // Promise 22
    private static void states() {
        SpinStrip x = Check.strip(TRIANGLE);
        int[] of0 = {3, 3, 0, 1, 1, 1};
        int[] of2 = {-1, 1, 1, 2, 0, 0};
        int[] of7 = {3, 3, 0, 6, 1, 1};
        for (int what = 0; what < 6; what++) {
            due("22 state 0 " + what, x.state(0, what), of0[what]);
            due("22 state 2 " + what, x.state(2, what), of2[what]);
            due("22 state 7 " + what, x.state(7, what), of7[what]);
        }
        due("22 others", x.state(0, 6), R);
        due("22 others", x.state(0, -1), R);
        due("22 not lawful", x.state(8, 0), R);
        due("22 not lawful", x.state(-1, 0), R);
        x.pin(1, 1);
        due("22 not lawful", x.state(1, 0), R);
        due("22 lawful", x.state(7, 3), 6);
        x.pin(0, 1);
        due("22 pinned ones stay", x.state(7, 3), 3);
    }

    // Promise 23
    private static void stuck() {
        SpinStrip x = Check.strip(TRIANGLE);
        due("23 all", x.stuck(false), 6);
        due("23 no ground", x.stuck(true), 0);
        x.pin(0, 1);
        x.pin(1, 1);
        due("23 pinned", x.stuck(false), 1);
        SpinStrip y = Check.strip("strip 2 1; across 3; field 1;");
        due("23 all", y.stuck(false), 2);
        due("23 no ground", y.stuck(true), 1);
        due("23 flat", Check.strip("strip 2 2;").stuck(false), 16);
        due("23 flat", Check.strip("strip 2 2;").stuck(true), 0);
    }

    // Promise 24
    private static void rows() {
        SpinStrip x = Check.strip(SQUARE);
        int[] rowEnergies = {0, 0, 2, -2};
        for (int row = 0; row < 4; row++) for (int e = -6; e < 7; e++) due("24 rows", x.rows(0, row, e), e == rowEnergies[row] ? 1 : 0);
        due("24 rows", x.rows(1, 0, -5), 1);
        due("24 rows", x.rows(1, 0, -1), 1);
        due("24 rows", x.rows(1, 0, 1), 2);
        due("24 rows", x.rows(1, 0, 0), 0);
        due("24 none", x.rows(2, 0, 0), -1);
        due("24 none", x.rows(-1, 0, 0), -1);
        due("24 none", x.rows(0, 4, 0), -1);
        due("24 none", x.rows(0, -1, 0), -1);
        due("24 far", x.rows(1, 0, Integer.MIN_VALUE), 0);
        x.pin(0, 1);
        due("24 pinned", x.rows(0, 0, 0), 0);
        due("24 pinned", x.rows(0, 1, 0), 1);
        due("24 pinned", x.rows(1, 0, -5), 0);
        due("24 pinned", x.rows(1, 0, 1), 1);
        SpinStrip y = Check.strip("strip 1 3; ring along; along 1; pin 2 up;");
        due("24 pins beyond do not matter", y.rows(1, 0, -1), 1);
        due("24 no ring yet", y.rows(1, 0, 1), 1);
        due("24 the ring", y.rows(2, 1, -3), 1);
        due("24 the ring", y.rows(2, 1, 1), 3);
        due("24 pinned", y.rows(2, 0, -3), 0);
        SpinStrip z = Check.strip("strip 3 1; ring across; across 1;");
        due("24 ring across", z.rows(0, 7, -3), 1);
        due("24 ring across", z.rows(0, 5, 1), 1);
    }

    // Promise 25
    private static void squares() {
        SpinStrip x = Check.strip("strip 3 3; across 1; along -2; tie 0 along 2;");
        due("25 odd", x.square(0), 1);
        due("25 even", x.square(1), 0);
        due("25 none", x.square(2), -2);
        due("25 none", x.square(6), -2);
        due("25 no site", x.square(9), -1);
        due("25 no site", x.square(-1), -1);
        due("25 many", x.count(14), 1);
        x.tie(3, false, 0);
        due("25 a J of 0", x.square(0), 0);
        due("25 many", x.count(14), 0);
        SpinStrip y = Check.strip("strip 3 3; ring across; ring along; across 1; along 1; tie 8 across -1;");
        due("25 the ring's", y.square(8), 1);
        due("25 above it", y.square(5), 1);
        due("25 others", y.square(0), 0);
        due("25 many", y.count(14), 2);
        due("25 a ring of two is none", Check.strip("strip 2 2; ring across; ring along;").square(1), -2);
    }

    // Promise 26
    private static void overlap() {
        SpinStrip x = Check.strip(TRIANGLE);
        int[] want = {0, 6, 6, 3, 0};
        for (int q = 0; q < 5; q++) due("26 overlap " + q, x.overlap(q), want[q]);
        due("26 below", x.overlap(-1), 0);
        due("26 far", x.overlap(Integer.MAX_VALUE), 0);
        SpinStrip y = Check.strip("strip 4 2;");
        due("26 256", y.overlap(8), 128);
        due("26 256", y.overlap(1), 8 * 256 / 2);
        due("26 more", Check.strip("strip 3 3;").overlap(1), -2);
        due("26 more, whatever q is", Check.strip("strip 3 3;").overlap(-1), -2);
        SpinStrip z = Check.strip("strip 4 3; pull 0 1; pull 1 1; pull 2 1; pull 3 1;");
        due("26 256, and more of the next level", z.overlap(1), 8 * 256 / 2);
        due("26 pinned", Check.strip("strip 3 3; pin 0 up;").overlap(8), 128);
    }

    // Promise 27
    private static void basin() {
        SpinStrip x = Check.strip(TRIANGLE);
        int[] want = {0, 2, 1, 1, 1, 1, 2, 0};
        for (int s = 0; s < 8; s++) due("27 basin " + s, x.basin(s), want[s]);
        due("27 not lawful", x.basin(8), R);
        due("27 not lawful", x.basin(-1), R);
        due("27 ten", Check.strip("strip 2 5;").basin(0), 1);
        due("27 more than ten", Check.strip("strip 1 11;").basin(0), R);
        x.pin(0, 1);
        due("27 not lawful", x.basin(0), R);
        due("27 pinned", x.basin(5), 2);
    }

    // Promise 28
    private static void stiff() {
        due("28 stiff", Check.strip(TWO).stiff(0, 1), 2);
        due("28 stiff", Check.strip(TRIANGLE).stiff(0, 1), 0);
        SpinStrip x = Check.strip("strip 3 1; across -2;");
        due("28 below", x.stiff(0, 1), -4);
        due("28 far ones", x.stiff(0, 2), 4);
        due("28 the same", x.stiff(1, 1), R);
        due("28 no site", x.stiff(0, 3), R);
        due("28 no site", x.stiff(-1, 0), R);
        x.pin(0, 1);
        due("28 one pinned", x.stiff(1, 0), -4);
        x.pin(1, 1);
        due("28 both pinned", x.stiff(0, 1), R);
        x.pin(1, 2);
        due("28 both pinned", x.stiff(0, 1), R);
    }

    // Promises 29, 30
    private static void hillAndPass() {
        SpinStrip x = Check.strip("strip 3 1; across 2; field 1;");
        // 0: -1, 1: 1, 2: 5, 3: -1, 4: 1, 5: 3, 6: -1, 7: -7
        int[] hills = {1, 1, 5, -1, 1, 3, -1, -7};
        int[] passes = {-1, 1, 5, 1, 1, 3, 1, 1};
        for (int s = 0; s < 8; s++) {
            due("29 hill " + s, x.hill(s), hills[s]);
            due("30 pass " + s, x.pass(0, s), passes[s]);
            due("30 pass back " + s, x.pass(s, 0), passes[s]);
        }
        due("30 pass", x.pass(3, 6), -1);
        due("29 not lawful", x.hill(8), R);
        due("29 not lawful", x.hill(-1), R);
        due("30 not lawful", x.pass(0, 8), R);
        due("30 not lawful", x.pass(-1, 0), R);
        x.pin(0, 2);
        // 0: -1, 2: 5, 4: 1, 6: -1
        due("29 pinned", x.hill(0), -1);
        due("29 pinned", x.hill(6), -1);
        due("30 pinned", x.pass(0, 6), 1);
        due("29 not lawful", x.hill(7), R);
        due("29 more than ten", Check.strip("strip 1 11;").hill(0), R);
        due("30 more than ten", Check.strip("strip 1 11;").pass(0, 0), R);
        due("29 ten", Check.strip("strip 1 10; field 1;").hill(0), 10);
    }

    // Promise 31
    private static void lakes() {
        SpinStrip x = Check.strip("strip 3 1; across 2; field 1;");
        int[][] want = {{-8, 0}, {-7, 1}, {-2, 1}, {-1, 2}, {0, 2}, {1, 1}, {5, 1}, {Integer.MAX_VALUE, 1}, {Integer.MIN_VALUE, 0}};
        for (int[] w : want) due("31 lakes " + w[0], x.lakes(w[0]), w[1]);
        due("31 more than ten", Check.strip("strip 1 11;").lakes(0), R);
        due("31 ten", Check.strip("strip 1 10;").lakes(0), 1);
        SpinStrip y = Check.strip("strip 2 2; across 1; along 1;");
        due("31 two", y.lakes(-4), 2);
        due("31 one", y.lakes(0), 1);
        y.pin(0, 1);
        due("31 pinned", y.lakes(-4), 1);
    }

    // Promise 32
    private static void down() {
        SpinStrip x = Check.strip(TRIANGLE);
        due("32 down", x.down(0), 3);
        due("32 stuck", x.down(1), 1);
        due("32 not lawful", x.down(8), R);
        due("32 not lawful", x.down(-1), R);
        due("32 ten", Check.strip("strip 2 5; field 1;").down(0), 3628800);
        due("32 more than ten", Check.strip("strip 1 11; field 1;").down(0), R);
        due("32 pinned", Check.strip("strip 2 5; field 1; pin 3 down;").down(0), 362880);
        SpinStrip y = Check.strip("strip 3 1; across 2; field 1;");
        // 2 (5) leads down to 0 (stuck), 3 and 6 (to 7 each)
        due("32 down", y.down(2), 3);
        // 5 (3) to 1 (to 0 and to 3 and so 7), 4 (to 0 and to 6 and so 7), 7
        due("32 down", y.down(5), 5);
    }

    // Promise 33
    private static void nearest() {
        SpinStrip x = Check.strip(TRIANGLE);
        due("33 least", x.nearest(0, 0), 1);
        due("33 at", x.nearest(0, 1), 1);
        due("33 least", x.nearest(7, 0), 3);
        due("33 itself", x.nearest(4, 0), 4);
        due("33 itself", x.nearest(4, 1), 0);
        due("33 others", x.nearest(0, 2), R);
        due("33 others", x.nearest(0, -1), R);
        due("33 not lawful", x.nearest(8, 0), R);
        due("33 not lawful", x.nearest(-1, 1), R);
        x.pin(0, 2);
        due("33 pinned", x.nearest(0, 0), 2);
        due("33 not lawful", x.nearest(1, 0), R);
        SpinStrip y = Check.strip("strip 4 4; across 1; along 1;");
        due("33 sixteen", y.nearest(65534, 0), 65535);
        due("33 sixteen", y.nearest(255, 0), 0);
        due("33 sixteen", y.nearest(511, 1), 7);
    }

    // Promise 34, and of 38: 10, 11
    private static void clusters() {
        SpinStrip x = Check.strip("strip 4 4; pin 5 up; pin 6 up; pin 9 up;");
        due("34 up", x.cluster(5), 1 << 5 | 1 << 6 | 1 << 9);
        due("34 the same", x.cluster(9), 1 << 5 | 1 << 6 | 1 << 9);
        due("34 down", x.cluster(0), 65535 & ~(1 << 5 | 1 << 6 | 1 << 9));
        due("34 no site", x.cluster(16), -1);
        due("34 no site", x.cluster(-1), -1);
        due("38 clusters", x.count(10), 2);
        due("38 greatest", x.count(11), 13);
        x.turn(10);
        due("34 up", x.cluster(10), 1 << 5 | 1 << 6 | 1 << 9 | 1 << 10);
        SpinStrip y = Check.strip("strip 1 5; across 1; pin 1 up; pin 3 up;");
        due("38 clusters", y.count(10), 5);
        due("38 greatest", y.count(11), 1);
        due("34 alone", y.cluster(0), 1);
        SpinStrip z = Check.strip("strip 1 5; ring along; pin 1 up; pin 3 up;");
        due("34 round the ring", z.cluster(4), 17);
        due("38 clusters", z.count(10), 4);
        due("38 greatest", z.count(11), 2);
    }

    // Promise 35: lots by 65536 from SEED 0 on: 0, 21468, 9988, 22117, 3498, 16927
    private static void wander() {
        SpinStrip x = Check.strip("strip 3 1;");
        int[] ends = {0, 1, 3, 2};
        for (int n = 0; n < 4; n++) {
            due("35 where " + n, x.wander(n, 100, 0), ends[n]);
            due("35 turned " + n, x.wander(n, 100, 2), n);
        }
        due("35 the state stays", x.count(2), 0);
        due("35 no thing done", x.count(7), 0);
        SpinStrip y = Check.strip("strip 3 1; field -1;");
        due("35 68 is below 70", y.wander(1, 15, 0), 1);
        due("35 68 is not below 68", y.wander(1, 16, 0), 0);
        due("35 68 is not below 68", y.wander(1, 16, 2), 0);
        due("35 17 is below 68", y.wander(2, 16, 0), 2);
        due("35 the least", y.wander(2, 16, 1), -3);
        y.turn(0);
        due("35 down hill", y.wander(1, 100, 0), 0);
        due("35 the least", y.wander(1, 100, 1), -3);
        due("35 the first one", y.wander(0, 100, 1), -1);
        y.pin(0, 1);
        due("35 pinned", y.wander(1, 0, 0), 1);
        due("35 pinned", y.wander(1, 0, 2), 0);
        due("35 200", y.wander(200, 0, 2) > 100, true);
        int[][] wrong = {{-1, 0, 0}, {201, 0, 0}, {0, -1, 0}, {0, 101, 0}, {0, 0, 3}, {0, 0, -1}};
        for (int[] w : wrong) due("35 wrong", y.wander(w[0], w[1], w[2]), R);
        // SEED 1: 1103527590 / 65536 = 16838, by 3 the rest is 2
        due("35 by the seed", Check.strip("strip 3 1; seed 1;").wander(1, 0, 0), 4);
    }

    // Promises 36, 37
    private static void slots() {
        SpinStrip x = Check.strip(TRIANGLE + "seed 5;");
        due("36 no slot", x.hold(3), false);
        due("36 no slot", x.hold(-1), false);
        due("37 holds nothing", x.restore(0), false);
        due("36 hold", x.hold(0), true);
        x.turn(1);
        x.tie(0, false, 2);
        x.pull(2, 1);
        x.pin(2, 1);
        due("37 holds nothing", x.restore(1), false);
        due("37 no slot", x.restore(3), false);
        due("37 no slot", x.restore(-1), false);
        due("37 nothing happens", x.count(7), 4);
        due("36 hold", x.hold(2), true);
        due("38 slots", x.count(8), 2);
        due("36 no thing done", x.count(7), 4);
        due("37 restore", x.restore(0), true);
        due("37 nothing to undo", x.undo(), false);
        due("37 state", x.count(2), 0);
        due("37 tie", x.site(0, 4), -1);
        due("37 field", x.site(2, 2), 0);
        due("37 pin", x.site(2, 3), 0);
        due("37 seed", x.count(9), 5);
        due("37 ground", x.ground(1), 6);
        due("37 it stays", x.count(8), 2);
        due("37 restore", x.restore(2), true);
        due("37 state", x.count(2), 6);
        due("37 tie", x.site(0, 4), 2);
        due("37 field", x.site(2, 2), 1);
        due("37 pin", x.site(2, 3), 1);
        due("37 states", x.count(3), 4);
        due("37 ground", x.ground(0), -5);
        x.turn(0);
        due("36 over it", x.hold(0), true);
        x.turn(0);
        due("37 restore", x.restore(0), true);
        due("37 state", x.count(2), 7);
        due("38 slots", x.count(8), 2);
        SpinStrip empty = new SpinStrip();
        due("36 without sites", empty.hold(1), true);
        due("38 slots", empty.count(8), 1);
        due("37 without sites", empty.restore(1), true);
        due("21 without sites", empty.joined(1, -1, 0), 0);
        due("21 without sites", empty.joined(1, 0, 0), R);
    }

    // Promise 38
    private static void counts() {
        SpinStrip x = Check.strip("strip 3 4; ring across; ring along; across 1; along -1; pin 3 up; pin 7 down; seed 123;");
        x.turn(0);
        x.hold(1);
        Check.tell(x, "strip");
        int[] want = {3, 4, 9, 1024, 136, 24, 5, 1, 1, 123};
        for (int what = 0; what < want.length; what++) due("38 count(" + what + ")", x.count(what), want[what]);
        due("38 rings", x.count(12), 3);
        due("38 odd squares", x.count(14), 0);
        due("38 others", x.count(15), -1);
        due("38 others", x.count(-1), -1);
        due("38 others", x.count(Integer.MIN_VALUE), -1);
        due("38 ring across", Check.strip("strip 3 1; ring across;").count(12), 1);
        due("38 ring along", Check.strip("strip 3 1; ring along;").count(12), 2);
        due("38 ring without ties", Check.strip("strip 2 1; ring across;").count(12), 1);
        due("38 ring without ties", Check.strip("strip 2 1; ring across;").count(5), 1);
        due("38 broken", Check.strip(TRIANGLE).count(13), 1);
        due("38 broken", Check.strip("strip 3 3; ring across; ring along; across -1; along -1;").count(13), 6);
        due("38 broken by pins", Check.strip("strip 2 1; across 1; pin 0 up; pin 1 down;").count(13), 1);
        due("38 fields pull to broken ties, yet others have none", Check.strip("strip 2 1; across 1; pull 0 3; pull 1 -3;").count(13), 0);
        due("38 ties", Check.strip("strip 4 4; ring across; ring along;").count(5), 32);
    }

    /** The most that any energy can be: 32 ties and 16 fields of 3. */
    private static void largest() {
        SpinStrip x = Check.strip("strip 4 4; ring across; ring along; across 3; along 3; field 3;");
        due("14 least energy", x.level(0, 0), -144);
        due("14 ways", x.level(0, 1), 1);
        due("14 least", x.level(0, 2), 65535);
        due("15 both", x.both(-144, 16), 1);
        due("14 most ups", x.level(0, 4), 16);
        due("16 broken", x.broken(0), 2);
        due("16 broken", x.broken(32), 2);
        due("23 stuck", x.stuck(true) > 0, true);
        due("22 state", x.state(0, 0), -48);
        x.hold(0);
        due("21 joined", x.joined(0, 0, 0), -288);
        SpinStrip y = Check.strip("strip 4 4; ring across; ring along; across -3; along -3; field -3; "
            + "pin 0 up; pin 1 up; pin 2 up; pin 3 up; pin 4 up; pin 5 up; pin 6 up; pin 7 up; "
            + "pin 8 up; pin 9 up; pin 10 up; pin 11 up; pin 12 up; pin 13 up; pin 14 up; pin 15 up;");
        due("17 most energy", y.ground(0), 144);
        due("17 alone", y.ground(3), -2);
        due("20 value", y.value(5), 1);
        due("14 ways", y.level(0, 1), 1);
        due("14 least", y.level(0, 2), 65535);
        due("38 states", y.count(3), 1);
        due("38 pinned", y.count(4), 65535);
        due("16 broken", y.broken(32), 1);
        y.hold(0);
        due("21 joined", y.joined(0, 0, 0), 288);
        due("21 joined", y.joined(0, -1, 0), 1);
        due("9 glass", y.glass(0) && y.undo(), true);
        for (int site = 0; site < 16; site++) due("6 turned about", y.tie(site, false, 3) && y.tie(site, true, 3) && y.pull(site, 3), true);
        due("17 least energy", y.ground(0), -144);
        due("21 joined", y.joined(0, 0, 0), 0);
        y.hold(0);
        due("21 joined", y.joined(0, -1, 0), 1);
        due("21 joined", y.joined(0, 0, 0), -288);
        due("29 more than ten", y.hill(65535), R);
    }

    private static void smallest() {
        SpinStrip x = Check.strip("strip 1 1; field 1;");
        due("14 many", x.level(-1, 0), 2);
        int[][] want = {{-1, 1, 1, 1, 1}, {1, 1, 0, 0, 0}};
        for (int i = 0; i < 2; i++) for (int what = 0; what < 5; what++) due("14 level " + i + " " + what, x.level(i, what), want[i][what]);
        due("23 stuck", x.stuck(false), 1);
        due("38 clusters", x.count(10), 1);
        due("38 greatest", x.count(11), 1);
        due("38 ties", x.count(5), 0);
        due("34 cluster", x.cluster(0), 1);
        due("25 no square", x.square(0), -2);
        due("13 no tie", x.site(0, 4), 100);
        due("13 no tie", x.site(0, 5), 100);
        due("24 rows", x.rows(0, 1, -1), 1);
        due("24 none", x.rows(0, 2, -1), -1);
        due("27 basin", x.basin(1), 2);
        due("29 hill", x.hill(0), 1);
        due("31 lakes", x.lakes(0), 1);
        due("32 down", x.down(0), 1);
        due("35 wander", x.wander(1, 0, 0), 1);
        due("28 stiff", x.stiff(0, 0), R);
        SpinStrip tall = Check.strip("strip 1 16; tie 14 along 2; tie 3 along -1;");
        due("13 row", tall.site(14, 0), 14);
        due("13 column", tall.site(14, 1), 0);
        due("4 tie", tall.site(14, 5), 2);
        due("4 tie", tall.site(3, 5), -1);
        due("38 ties", tall.count(5), 15);
        due("34 two", Check.strip(TWO).cluster(0), 3);
        due("22 broken", Check.strip(TWO).state(1, 1), 1);
        due("22 broken", Check.strip(TWO).state(3, 1), 0);
    }

    /** What has been asked once must be right again after each kind of change. */
    private static void nothingStale() {
        SpinStrip x = Check.strip("strip 2 1; across 1; field 1; pull 0 2; seed 3; ring across; pin 1 down;");
        askAll(x, new int[] {0, 1, 1, 0, 1, 0, -2});
        due("8 pin", x.pin(1, 0), true);
        askAll(x, new int[] {-4, 1, 3, 0, 2, -4, 4});
        due("9 glass", x.glass(0), true);
        askAll(x, new int[] {-2, 2, 1, 0, 2, -2, 0});
        due("7 pull", x.pull(0, 1) && x.pull(1, 3), true);
        askAll(x, new int[] {-3, 2, 2, 0, 2, -3, 0});
        due("6 tie", x.tie(0, false, 0), true);
        askAll(x, new int[] {-4, 1, 3, 0, 4, -4, 2});
        due("12 undo", x.undo(), true);
        askAll(x, new int[] {-3, 2, 2, 0, 2, -3, 0});
        due("36 hold", x.hold(0), true);
        due("8 pin", x.pin(0, 1), true);
        askAll(x, new int[] {-3, 1, 3, 0, 1, -3, 4});
        due("37 restore", x.restore(0), true);
        askAll(x, new int[] {-3, 2, 2, 0, 2, -3, 0});
        Check.tell(x, "strip 2 1;");
        due("4 read", x.read(), 0);
        askAll(x, new int[] {0, 4, 0, 0, 4, 0, 0});
        for (int site = 0; site < 2; site++) for (int what = 2; what < 4; what++) due("4 nothing is left", x.site(site, what), 0);
        due("4 nothing is left", x.site(0, 4), 0);
        due("4 nothing is left", x.count(9) + x.count(12), 0);
        SpinStrip y = Check.strip("strip 1 3; pin 0 up; pin 2 up;");
        y.pin(0, 0);
        due("8 the other pin stays", y.count(4), 4);
    }

    /** Of the ground energy, states, least; fewest broken, states with so many; hill of the least; stiffness of sites 0 and 1. */
    private static void askAll(SpinStrip x, int[] want) {
        due("17 energy", x.ground(0), want[0]);
        due("17 many", x.ground(1), want[1]);
        due("17 least", x.ground(2), want[2]);
        due("38 broken", x.count(13), want[3]);
        due("16 broken", x.broken(want[3]), want[4]);
        due("29 hill", x.hill(x.ground(2)), want[5]);
        due("28 stiff", x.stiff(0, 1), want[6]);
    }
}

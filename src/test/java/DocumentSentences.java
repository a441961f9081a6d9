import java.lang.reflect.Constructor;
import java.lang.reflect.Field;
import java.lang.reflect.Method;
import java.lang.reflect.Modifier;
import java.util.ArrayList;
import java.util.List;
import java.util.Set;
import java.util.TreeSet;
import java.util.regex.Matcher;
import java.util.regex.Pattern;

/** What stands ahead of "Terms" and behind the promises: "What it is", "The public face", "Not promised". */
final class DocumentSentences {
    private static final int MOST_CALLS = 512;
    private static final String WHAT = "What it is";
    private static final String FACE = "The public face";
    private static final String FREE = "Not promised";
    /** Energies by bits: 0: -4, 1: 0, 2: 6, 3: -2 (a tie of 3, fields of 1 and -2). */
    private static final String TWO = "strip 2 1; across 3; pull 0 1; pull 1 -2;";

    private DocumentSentences() { }

    static void run() {
        strips();
        countedStates();
        oneState();
        changes();
        calls();
        face();
        promisesInOrder();
        notPromised();
    }

    private static void due(String call, long got, long want) { Check.due(call, got, want); }
    private static void due(String call, boolean got, boolean want) { Check.due(call, got, want); }
    private static void of(String words) { Sentence.of(WHAT, words); }

    // ---- What it is ----

    private static void strips() {
        SpinStrip x = Check.strip("strip 3 3; ring along; across 2; along -3; field 1; tie 8 along 1; pin 4 up; pin 0 down;");
        of("Small magnets on a strip, each up or down:");
        for (int site = 0; site < 9; site++) due("site " + site, x.site(site, 6), site == 4 ? 1 : 0);
        of("rows of sites,");
        for (int site = 0; site < 9; site++) due("row and column", 10 * x.site(site, 0) + x.site(site, 1), 10 * (site / 3) + site % 3);
        of("how strongly they are tied across and along,");
        due("across", x.site(0, 4), 2);
        due("along", x.site(0, 5), -3);
        due("along, joined", x.site(8, 5), 1);
        of("fields that pull,");
        due("field", x.site(0, 2), 1);
        of("sites that are pinned,");
        due("pinned", x.count(4), 1 << 4 | 1);
        of("edges that are open or joined to rings,");
        due("open across", x.site(2, 4), 100);
        due("joined along", x.site(7, 5), -3);
        due("rings", x.count(12), 2);
        due("ties", x.count(5), 6 + 9);
        of("told in texts;");
        Check.fault("strip 3 3; ring along", 1, 21);
    }

    private static void countedStates() {
        SpinStrip x = Check.strip(TWO);
        of("all states counted by their energy,");
        int[] energies = {-4, -2, 0, 6};
        due("levels", x.level(-1, 0), 4);
        for (int i = 0; i < 4; i++) due("level " + i, x.level(i, 0), energies[i]);
        of("by how much is up,");
        due("none up", x.both(-4, 0), 1);
        due("one up", x.both(0, 1) + x.both(6, 1), 2);
        due("two up", x.both(-2, 2), 1);
        of("by how many ties are broken;");
        due("none", x.broken(0), 2);
        due("one", x.broken(1), 2);
        of("the least energies, in how many states, the first of them;");
        due("least", x.ground(0), -4);
        due("how many", x.ground(1), 1);
        due("first", x.ground(2), 0);
        of("how two sites go together, as fractions;");
        due("alike", x.pair(0, 1, 0, 0), 1);
        due("unlike", x.pair(0, 1, 3, 0), -1);
        of("strips joined by products,");
        x.hold(2);
        due("sums of 4 energies by 4", x.joined(2, -1, 0), 9);
        due("-4 and -2, either way", x.joined(2, 1, 1), 2);
        due("-4 and 0, either way, and -2 twice", x.joined(2, 2, 1), 3);
        of("what a count comes to by a number modulo a prime;");
        due("1 + 2^2 + 2^4 + 2^10", x.value(2), 1045);
        due("1 + 100^2 + 100^4 + 100^10", x.value(100), (1 + 10000 + 100000000L + power(100, 10)) % 1000003);
    }

    private static long power(long x, int n) {
        long p = 1;
        for (int k = 0; k < n; k++) p = p * x % 1000003;
        return p;
    }

    private static void oneState() {
        SpinStrip x = Check.strip(TWO + "seed 1;");
        of("one state that is turned site by site,");
        due("turn", x.turn(1), true);
        due("state", x.count(2), 2);
        of("falls down hill,");
        due("by one turn, the steepest", x.fall(), 1);
        due("state", x.count(2), 0);
        of("wanders by lot;");
        // 1103527590 and 377401575: site 0, 58; then 662824084 and 1147902781: site 1, 15
        due("a turn of site 0 costs 4: below 100 - 4 * 10", x.wander(1, 10, 0), 1);
        due("58 is not below 100 - 4 * 11", x.wander(1, 11, 0), 0);
        due("then site 1 falls", x.wander(2, 10, 0), 3);
        due("two turns", x.wander(2, 10, 2), 2);
        of("where no turn helps,");
        due("both alike ones", x.stuck(false), 2);
        due("one of them is not the least", x.stuck(true), 1);
        of("over which hill one must go to the least;");
        due("from both up over site 0 up", x.hill(3), 0);
        due("from the least", x.hill(0), -4);
        of("clusters that are alike;");
        due("both", x.cluster(0), 3);
        x.turn(0);
        due("one", x.cluster(0), 1);
    }

    private static void changes() {
        SpinStrip x = Check.strip(TWO);
        String before = Check.all(x);
        of("ties, fields, pins changed by hand,");
        due("tie", x.tie(0, false, -3), true);
        due("field", x.pull(1, 0), true);
        due("pin", x.pin(0, 1), true);
        due("unlike at the least", x.ground(2), 1);
        due("its energy", x.ground(0), -4);
        of("all undone,");
        for (int k = 0; k < 3; k++) due("undo", x.undo(), true);
        Check.same("as before", Check.all(x), before);
        of("held,");
        x.turn(0);
        due("hold", x.hold(0), true);
        x.pull(0, -3);
        x.turn(1);
        of("gone on from.");
        due("restore", x.restore(0), true);
        due("state", x.count(2), 1);
        due("field", x.site(0, 2), 1);
        due("gone on from", x.turn(1), true);
        due("state", x.count(2), 3);
        of("==== I.");
    }

    /** Each of these as the 512th call of an object, behind calls that change it and ask it. */
    private static void calls() {
        of("An object is used for at most 512 calls after it has been made; what later calls answer is free.");
        due("undo", usedBut(1).undo(), true);
        due("fall: site 2, then site 0", usedBut(1).fall(), 2);
        due("least", usedBut(1).ground(0), -5);
        due("states", usedBut(1).level(-1, 0), 6);
        due("lakes", usedBut(1).lakes(5), 1);
        due("joined", usedBut(1).joined(2, 0, 0), -10);
        due("restore", usedBut(1).restore(2), true);
        due("things to undo", usedBut(1).count(7), 40);
        due("bytes", usedBut(1).feed(0, 0, 0, 0, 0), 20);
        due("read", usedBut(1).read(), 1);
        SpinStrip x = usedBut(40);
        for (int k = 0; k < 40; k++) due("undo " + k, x.undo(), true);
        SpinStrip y = usedBut(41);
        for (int k = 0; k < 40; k++) y.undo();
        due("the 512th of them finds none", y.undo(), false);
    }

    /** An object with so many calls left: three sites in a row, ties of 1 and -1, a field of 3 at the last one; the first one is up. */
    private static SpinStrip usedBut(int left) {
        SpinStrip x = new SpinStrip();
        // "strip 3 1; across 1;"
        x.feed(0x73747269, 0x70203320, 0x313b2061, 0x63726f73, 0x7320313b);
        due("read", x.read(), 0);
        int made = 2;
        for (; made + 6 <= MOST_CALLS - 4 - left; made += 6) {
            due("turn", x.turn(1), true);
            due("glass", x.glass(made), true);
            due("undo", x.undo(), true);
            due("levels", x.level(-1, 0), 3);
            due("turn back", x.turn(1), true);
            due("it has it", x.tie(0, false, 1), false);
        }
        for (; made < MOST_CALLS - 4 - left; made++) due("state", x.count(2), 0);
        due("a field", x.pull(2, 3), true);
        due("a tie", x.tie(1, false, -1), true);
        due("a turn", x.turn(0), true);
        due("hold", x.hold(2), true);
        return x;
    }

    // ---- The public face ----

    private static void face() {
        String told = Sentence.bodyOf(FACE);
        if (told.isEmpty()) return;
        Sentence.of(FACE, "public final class SpinStrip {");
        due("public and final", SpinStrip.class.getModifiers(), Modifier.PUBLIC | Modifier.FINAL);
        Set<String> want = new TreeSet<>();
        Matcher lines = Pattern.compile("public [^;{]*;").matcher(told);
        while (lines.find()) {
            Sentence.of(FACE, lines.group());
            want.add(lines.group());
        }
        Set<String> got = publicMembers();
        for (String line : want) due("the class has " + line, got.contains(withoutNames(line)), true);
        due("and no other", got.size(), want.size());
    }

    /** Parameters' names are not kept in a compiled class: their types alone are held against each other. */
    private static String withoutNames(String line) {
        return line.replaceAll("(int|boolean) \\w+([,)])", "$1$2");
    }

    private static Set<String> publicMembers() {
        Set<String> got = new TreeSet<>();
        for (Method m : SpinStrip.class.getDeclaredMethods()) {
            if (!Modifier.isPrivate(m.getModifiers())) {
                got.add(Modifier.toString(m.getModifiers()) + " " + m.getReturnType() + " " + m.getName() + types(m.getParameterTypes()));
            }
        }
        for (Constructor<?> c : SpinStrip.class.getDeclaredConstructors()) {
            if (!Modifier.isPrivate(c.getModifiers())) got.add(Modifier.toString(c.getModifiers()) + " SpinStrip" + types(c.getParameterTypes()));
        }
        for (Field f : SpinStrip.class.getDeclaredFields()) {
            if (!Modifier.isPrivate(f.getModifiers())) {
                got.add(Modifier.toString(f.getModifiers()) + " " + f.getType() + " " + f.getName() + " = " + valueOf(f) + ";");
            }
        }
        return got;
    }

    private static String valueOf(Field f) {
        if (!Modifier.isStatic(f.getModifiers())) return "an object's own";
        try {
            return String.valueOf(f.get(null));
        } catch (IllegalAccessException e) {
            return "hidden";
        }
    }

    private static String types(Class<?>[] parameters) {
        List<String> names = new ArrayList<>();
        for (Class<?> type : parameters) names.add(type.toString());
        return "(" + String.join(", ", names) + ");";
    }

    /** The head of each promise names the constructor or the method that comes next in the face. */
    private static void promisesInOrder() {
        String told = Sentence.bodyOf(FACE);
        if (told.isEmpty()) return;
        Check.label("The promises' heads");
        List<String> heads = Sentence.heads();
        due("heads", heads.size(), Sentence.PROMISES);
        int at = 0;
        for (String head : heads) {
            int next = told.indexOf("public " + head + ";", at);
            due("the face has next " + head, next >= 0, true);
            at = Math.max(at, next);
        }
    }

    // ---- Not promised ----

    /** What is free needs no test; but that the class takes no freedom that LANGUAGE.md rules out does. */
    private static void notPromised() {
        Sentence.of(FREE, "How the state is held inside the object is free, as are the speed of each call, the text of toString and the behaviour of equals and hashCode.");
        for (Method m : SpinStrip.class.getDeclaredMethods()) {
            due(m.getName() + " is none of these", Set.of("toString", "equals", "hashCode").contains(m.getName()), false);
        }
        Sentence.of(FREE, "Use of one object from several threads at once is not promised to be safe.");
        for (Method m : SpinStrip.class.getDeclaredMethods()) due(m.getName() + " waits for none", Modifier.isSynchronized(m.getModifiers()), false);
        Sentence.of(FREE, "Nothing is promised beyond the answers and state changes described above, and nothing about an object after its 512th call.");
        SpinStrip x = Check.strip(TWO);
        String before = Check.all(x);
        Check.same("asking changes nothing", Check.all(x), before);
    }
}

import java.util.Random;

/** What one call answers must go together with what others do: no answer here is worked out apart from the class. */
public final class IdentitiesTest {
    private static final int R = -100000;
    private static final int PRIME = 1000003;
    /** No object is asked more often than the document allows. */
    private static final int MOST_CALLS = 512;
    private final Random lot;
    private String text;
    private SpinStrip x;
    private int calls;

    private IdentitiesTest(long seed) { lot = new Random(seed); }

    public static void main(String[] args) {
        for (int run = 0; run < 400; run++) new IdentitiesTest(run).small();
        for (int run = 0; run < 40; run++) new IdentitiesTest(1000 + run).large();
        Check.end();
    }

    private int j() { return lot.nextInt(7) - 3; }

    private String textOf(int mostSites) {
        int wide = 1 + lot.nextInt(4);
        int tall = 1 + lot.nextInt(Math.max(1, mostSites / wide));
        StringBuilder s = new StringBuilder("strip " + wide + " " + tall + ";");
        if (lot.nextBoolean()) s.append("ring across;");
        if (lot.nextBoolean()) s.append("ring along;");
        s.append("across ").append(j()).append(";along ").append(j()).append(";field ").append(lot.nextInt(3) - 1).append(';');
        s.append("seed ").append(lot.nextInt(10000)).append(';');
        for (int k = lot.nextInt(6); k > 0; k--) s.append("pull ").append(lot.nextInt(wide * tall)).append(' ').append(j()).append(';');
        for (int k = lot.nextInt(3); k > 0; k--) s.append("pin ").append(lot.nextInt(wide * tall)).append(lot.nextBoolean() ? "up;" : "down;");
        for (int k = lot.nextInt(6); k > 0; k--) {
            int site = lot.nextInt(wide * tall);
            if (site % wide + 1 < wide) s.append("tie ").append(site).append(" across ").append(j()).append(';');
            if (site / wide + 1 < tall) s.append("tie ").append(site).append(" along ").append(j()).append(';');
        }
        return s.toString();
    }

    /** A new object with the same strip. */
    private void anew() {
        x = Check.strip(text);
        calls = 0;
        Check.label(text);
    }

    private void due(String what, long got, long want) { Check.due(what, got, want); }
    private void due(String what, boolean got, boolean want) { Check.due(what, got, want); }
    private void due(String what, boolean holds) { Check.due(what, holds, true); }

    /** The object, or a new one like it: for questions alone, since what was changed by hand is lost then. */
    private SpinStrip ask() {
        calls++;
        if (calls > MOST_CALLS - 20) anew();
        return x;
    }

    private int sites() { return ask().count(0) * ask().count(1); }

    private void small() {
        text = textOf(7);
        anew();
        energiesOfStates();
        counts();
        fractions();
        rowsAndJoined();
        falls();
        hills();
        downAndNearest();
        handsAndState();
    }

    private void large() {
        text = textOf(16);
        anew();
        counts();
        fractions();
        rowsAndJoined();
        handsAndState();
    }

    private boolean isState(int s) { return ask().state(s, 0) != R; }

    /** A turn's cost is the energy behind it less the energy before, and a state's energy is a level's. */
    private void energiesOfStates() {
        int n = sites(), many = 0;
        for (int s = 0; s < 1 << n; s++) {
            if (!isState(s)) continue;
            many++;
            int i = ask().state(s, 5);
            due("level of " + s, ask().level(i, 0), ask().state(s, 0));
            due("least of the level of " + s, ask().level(i, 2) <= s);
            int ups = Integer.bitCount(s);
            due("ups of " + s, ask().level(i, 3) <= ups && ups <= ask().level(i, 4));
        }
        due("states", many, ask().count(3));
        anew();
        for (int turn = 0; turn < 12; turn++) {
            int site = lot.nextInt(n), bits = x.count(2), cost = x.site(site, 7), before = x.state(bits, 0);
            if (x.turn(site)) due("cost", x.state(x.count(2), 0) - before, cost);
            else due("pinned", x.site(site, 3) != 0);
        }
        anew();
    }

    private void counts() {
        int levels = ask().level(-1, 0), states = ask().count(3), added = 0;
        long value = 0;
        for (int i = 0; i < levels; i++) {
            int energy = ask().level(i, 0), many = ask().level(i, 1), byUps = 0;
            due("levels rise", i == 0 || energy > ask().level(i - 1, 0));
            for (int ups = 0; ups <= 16; ups++) byUps += ask().both(energy, ups);
            due("both of level " + i, byUps, many);
            due("fewest ups of level " + i, ask().both(energy, ask().level(i, 3)) > 0);
            due("most ups of level " + i, ask().both(energy, ask().level(i, 4)) > 0);
            added += many;
            value = (value + many * power(12345, energy - ask().level(0, 0))) % PRIME;
        }
        due("states of all levels", added, states);
        due("states by turns of what is not pinned", 1 << sites() - Integer.bitCount(ask().count(4)), states);
        due("value(12345)", ask().value(12345), value);
        due("value(1)", ask().value(1), states);
        due("value(0)", ask().value(0), ask().ground(1) % PRIME);
        due("ground is the first level", ask().ground(0) == ask().level(0, 0) && ask().ground(1) == ask().level(0, 1) && ask().ground(2) == ask().level(0, 2));
        due("ground's next level", ask().ground(3), levels == 1 ? -2 : ask().level(1, 0) - ask().level(0, 0));
        int broken = 0, fewest = -1;
        for (int many = 0; many <= ask().count(5); many++) {
            broken += ask().broken(many);
            if (fewest < 0 && broken > 0) fewest = many;
        }
        due("states of all broken", broken, states);
        due("fewest broken", ask().count(13), fewest);
        due("stuck ones of the ground", ask().stuck(false) - ask().stuck(true), ask().ground(1));
        int pairs = 0, ground = ask().ground(1);
        for (int q = 0; q <= 16; q++) pairs += ask().overlap(q);
        due("pairs", pairs, ground > 256 ? -2 * 17 : ground * (ground - 1) / 2);
    }

    private static long power(long x, int n) {
        long p = 1;
        for (int k = 0; k < n; k++) p = p * x % PRIME;
        return p;
    }

    private static int divisor(int a, int b) { return b == 0 ? Math.abs(a) : divisor(b, a % b); }

    private void fractions() {
        int n = sites(), levels = ask().level(-1, 0);
        for (int k = 0; k < 10; k++) {
            int one = lot.nextInt(n), other = lot.nextInt(n), i = lot.nextInt(levels);
            int above = ask().pair(one, other, i, 0), below = ask().pair(one, other, i, 1);
            due("lowest terms", divisor(above, below), 1);
            due("within 1", below > 0 && Math.abs(above) <= below);
            due("by how many there are", ask().level(i, 1) % below, 0);
            due("either way", ask().pair(other, one, i, 0) == above && ask().pair(other, one, i, 1) == below);
            if (one == other) due("one and the same", above, below);
            long ups = 0;
            for (int up = 0; up <= n; up++) ups += (long) up * ask().both(ask().level(i, 0), up);
            due("mean", ups * ask().mean(i, 1), (long) ask().mean(i, 0) * ask().level(i, 1));
            due("mean in lowest terms", divisor(ask().mean(i, 0), ask().mean(i, 1)), 1);
            due("stiff either way", ask().stiff(one, other), ask().stiff(other, one));
            stiffAndGround(one, other);
        }
    }

    /** A pair that is alike in all ground states is stiff above 0, one that is unlike in all below 0. */
    private void stiffAndGround(int one, int other) {
        int stiff = ask().stiff(one, other), above = ask().pair(one, other, 0, 0), below = ask().pair(one, other, 0, 1);
        if (stiff == R) due("never both ways", one == other || Math.abs(above) == below);
        else if (above == below) due("alike", stiff > 0);
        else if (above == -below) due("unlike", stiff < 0);
        else due("both", stiff, 0);
    }

    private void rowsAndJoined() {
        int last = ask().count(1) - 1, wide = ask().count(0), levels = ask().level(-1, 0);
        for (int i = 0; i < levels; i++) {
            int added = 0;
            for (int row = 0; row < 1 << wide; row++) added += ask().rows(last, row, ask().level(i, 0));
            due("rows up to the last one", added, ask().level(i, 1));
        }
        int free = 0, ways = 0;
        for (int site = 0; site < wide; site++) free += ask().site(site, 3) == 0 ? 1 : 0;
        for (int row = 0; row < 1 << wide; row++) for (int e = -24; e <= 24; e++) ways += ask().rows(0, row, e);
        due("states of the first row", ways, 1 << free);
        anew();
        x.hold(1);
        long squared = (long) x.count(3) * x.count(3), added = 0;
        long many = x.joined(1, -1, 7);
        for (int i = 0; i < many && i < 150; i++) added += x.joined(1, i, 1);
        if (many <= 150) due("states of two", added, squared);
        due("least of two", x.joined(1, 0, 0), 2L * x.ground(0));
        due("how many least of two", x.joined(1, 0, 1), (long) x.ground(1) * x.ground(1));
        due("most of two", x.joined(1, (int) many - 1, 0), 2L * x.level(levels - 1, 0));
        anew();
    }

    private void falls() {
        int n = sites(), states = ask().count(3), added = 0, stuck = 0;
        for (int s = 0; s < 1 << n; s++) {
            if (!isState(s)) continue;
            int end = ask().state(s, 3), isStuck = ask().state(s, 2);
            added += ask().basin(s);
            stuck += isStuck;
            due("an end is stuck", ask().state(end, 2), 1);
            due("an end falls to itself", ask().state(end, 3) == end && ask().state(end, 4) == 0);
            due("what is stuck does not fall", isStuck == 1, end == s);
            due("a basin has what falls to it", isStuck == 1, ask().basin(s) > 0);
            due("each turn falls", ask().state(s, 0) - ask().state(end, 0) >= 2 * ask().state(s, 4));
            due("an end is no further than its turns", Integer.bitCount(end ^ s) <= ask().state(s, 4));
        }
        due("basins", added, states);
        due("stuck", ask().stuck(false), stuck);
    }

    private void hills() {
        int n = sites(), levels = ask().level(-1, 0), top = ask().level(levels - 1, 0), ground = ask().ground(2);
        due("all hang together", ask().lakes(top), 1);
        due("all hang together", ask().lakes(Integer.MAX_VALUE), 1);
        due("none", ask().lakes(ask().ground(0) - 1), 0);
        int one = ask().count(2);
        for (int k = 0; k < 12; k++) {
            int s = lot.nextInt(1 << n), t = lot.nextInt(1 << n);
            if (!isState(s) || !isState(t)) continue;
            int pass = ask().pass(s, t);
            due("either way", ask().pass(t, s), pass);
            due("no lower than its ends", pass >= Math.max(ask().state(s, 0), ask().state(t, 0)));
            due("over a third", pass <= Math.max(ask().pass(s, one), ask().pass(one, t)));
            due("to itself", ask().pass(s, s), ask().state(s, 0));
            due("a hill is no higher than a pass to the ground", ask().hill(s) <= ask().pass(s, ground));
            due("a hill is one of a neighbour or of itself", ask().hill(s) >= ask().state(s, 0));
            int least = Integer.MAX_VALUE;
            for (int g = 0; g < 1 << n; g++) if (ask().state(g, 5) == 0) least = Math.min(least, ask().pass(s, g));
            due("a hill is the least pass to the ground", ask().hill(s), least);
        }
        lakesByPasses(n, ask().level(lot.nextInt(levels), 0));
    }

    /** Two states lie in one lake just if one comes from one to the other no higher. */
    private void lakesByPasses(int n, int energy) {
        if (n > 5) return;
        int lakes = 0;
        for (int s = 0; s < 1 << n; s++) {
            if (!isState(s) || ask().state(s, 0) > energy) continue;
            boolean first = true;
            for (int t = 0; t < s && first; t++) first = !(isState(t) && ask().pass(s, t) <= energy);
            lakes += first ? 1 : 0;
        }
        due("lakes by passes", ask().lakes(energy), lakes);
    }

    private void downAndNearest() {
        int n = sites();
        for (int k = 0; k < 12; k++) {
            int s = lot.nextInt(1 << n);
            if (!isState(s)) continue;
            long ways = 0;
            for (int site = 0; site < n; site++) {
                int t = s ^ 1 << site;
                if (isState(t) && ask().state(t, 0) < ask().state(s, 0)) ways += ask().down(t);
            }
            due("down", ask().down(s), ways == 0 ? 1 : ways);
            int near = ask().nearest(s, 0);
            due("a ground one", ask().state(near, 5), 0);
            due("unlike at so many", ask().nearest(s, 1), Integer.bitCount(near ^ s));
            for (int g = 0; g < 1 << n; g++) {
                if (ask().state(g, 5) != 0) continue;
                int far = Integer.bitCount(g ^ s), nearFar = Integer.bitCount(near ^ s);
                due("none is nearer", far > nearFar || far == nearFar && near <= g);
            }
        }
    }

    private void handsAndState() {
        anew();
        int n = sites();
        String before = Check.all(x);
        x.hold(0);
        int done = 0;
        for (int k = 0; k < 20; k++) done += byHand(n) ? 1 : 0;
        due("things done", x.count(7), done);
        for (int k = 0; k < done; k++) x.undo();
        due("nothing more to undo", x.undo(), false);
        x.hold(1);
        due("undone is as held", x.joined(0, 0, 1), x.joined(1, 0, 1));
        anew();
        Check.same("told anew", Check.all(x), before);
        clusters(n);
        wanders();
        int turns = x.state(x.count(2), 4), end = x.state(x.count(2), 3);
        due("fall", x.fall(), turns);
        due("where a fall ends", x.count(2), end);
        due("a fall is undone", x.undo(), turns > 0);
    }

    private boolean byHand(int n) {
        int site = lot.nextInt(n);
        switch (lot.nextInt(6)) {
            case 0: return x.tie(site, lot.nextBoolean(), j());
            case 1: return x.pull(site, j());
            case 2: return x.pin(site, lot.nextInt(3));
            case 3: return x.glass(lot.nextInt(10000));
            case 4: return x.fall() > 0;
            default: return x.turn(site);
        }
    }

    /** Clusters part the sites: each is in its own, and all of one have the same. */
    private void clusters(int n) {
        for (int k = 0; k < 4; k++) x.turn(lot.nextInt(n));
        int all = 0, first = 0, greatest = 0;
        for (int site = 0; site < n; site++) {
            int cluster = x.cluster(site);
            due("it is in its own", cluster >> site & 1, 1);
            due("alike", (cluster & x.count(2)) == 0 || (cluster & ~x.count(2)) == 0);
            for (int other = 0; other < n; other++) if ((cluster >> other & 1) == 1) due("one cluster", x.cluster(other), cluster);
            if (Integer.numberOfTrailingZeros(cluster) == site) first++;
            all |= cluster;
            greatest = Math.max(greatest, Integer.bitCount(cluster));
        }
        due("all sites", all, (1 << n) - 1);
        due("clusters", x.count(10), first);
        due("the greatest", x.count(11), greatest);
        anew();
    }

    /** A longer wander goes on from where a shorter one is. */
    private void wanders() {
        int c = lot.nextInt(30), before = x.wander(0, c, 0), turned = 0, least = x.state(before, 0);
        due("by no turns", before == x.count(2) && x.wander(0, c, 1) == least && x.wander(0, c, 2) == 0);
        for (int n = 1; n <= 30; n++) {
            int bits = x.wander(n, c, 0);
            int unlike = Integer.bitCount(bits ^ before);
            due("one site at most", unlike <= 1);
            turned += unlike;
            least = Math.min(least, x.state(bits, 0));
            due("how many were turned", x.wander(n, c, 2), turned);
            due("the least met", x.wander(n, c, 1), least);
            before = bits;
        }
        due("the state stays", x.count(2), x.wander(0, c, 0));
    }
}

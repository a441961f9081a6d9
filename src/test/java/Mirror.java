/** Looks at all of a strip, and tells a new one the same way: what it answers may depend on no way by which it came there. */
final class Mirror {
    private static final int R = -100000;

    private Mirror() { }

    /** A new strip with the same J, PINS, RINGS, SEED and STATE, told in one text and turned. */
    static SpinStrip of(SpinStrip x) {
        StringBuilder text = new StringBuilder("strip ").append(x.count(0)).append(' ').append(x.count(1)).append(';');
        if ((x.count(12) & 1) != 0) text.append("ring across;");
        if ((x.count(12) & 2) != 0) text.append("ring along;");
        text.append("seed ").append(x.count(9)).append(';');
        for (int site = 0; x.site(site, 0) != R; site++) {
            if (x.site(site, 4) != 100) text.append("tie ").append(site).append(" across ").append(x.site(site, 4)).append(';');
            if (x.site(site, 5) != 100) text.append("tie ").append(site).append(" along ").append(x.site(site, 5)).append(';');
            text.append("pull ").append(site).append(' ').append(x.site(site, 2)).append(';');
            if (x.site(site, 3) != 0) text.append("pin ").append(site).append(x.site(site, 3) == 1 ? " up;" : " down;");
        }
        SpinStrip y = Check.strip(text.toString());
        for (int site = 0; x.site(site, 0) != R; site++) if (x.site(site, 6) != y.site(site, 6)) y.turn(site);
        return y;
    }

    /** Asks for all that is worked out once and kept. */
    static void ask(SpinStrip x) {
        x.level(-1, 0);
        x.broken(0);
        x.lakes(0);
        x.hill(0);
        x.down(0);
        x.basin(0);
        x.rows(0, 0, 0);
        x.joined(0, 0, 1);
    }

    /** Answers of every call that asks, but of the tape, of undo and of SLOTS; for small strips, some 300 calls. */
    static String answers(SpinStrip x) {
        StringBuilder seen = new StringBuilder();
        for (int what : new int[] {0, 1, 2, 3, 4, 5, 9, 10, 11, 12, 13, 14}) add(seen, "count", x.count(what));
        int sites = x.count(0) * x.count(1);
        for (int site = 0; site < sites; site++) {
            for (int what = 2; what <= 7; what++) add(seen, "site", x.site(site, what));
            add(seen, "square", x.square(site));
            add(seen, "cluster", x.cluster(site));
            add(seen, "stiff", x.stiff(0, site));
            add(seen, "pair", x.pair(site, sites - 1, 0, 0));
        }
        add(seen, "levels", x.level(-1, 0));
        for (int i = 0; i < 4; i++) {
            for (int what = 0; what < 5; what++) add(seen, "level", x.level(i, what));
            add(seen, "mean", x.mean(i, 0));
            for (int ups = 0; ups <= sites; ups++) add(seen, "both", x.both(x.level(i, 0), ups));
        }
        for (int many = 0; many < 8; many++) add(seen, "broken", x.broken(many));
        for (int what = 0; what < 4; what++) add(seen, "ground", x.ground(what));
        for (int q = 0; q < 4; q++) add(seen, "overlap", x.overlap(q));
        add(seen, "value", x.value(2));
        add(seen, "stuck", x.stuck(false));
        add(seen, "stuck", x.stuck(true));
        for (int r = 0; r < x.count(1); r++) for (int e = -4; e <= 4; e++) add(seen, "rows", x.rows(r, 1, e));
        for (int e = -6; e <= 6; e += 2) add(seen, "lakes", x.lakes(e));
        ofStates(x, sites, seen);
        for (int what = 0; what < 3; what++) add(seen, "wander", x.wander(60, 9, what));
        return seen.toString();
    }

    private static void ofStates(SpinStrip x, int sites, StringBuilder seen) {
        for (int bits : new int[] {0, x.count(2), x.level(1, 2), (1 << sites) - 1}) {
            for (int what = 0; what <= 5; what++) add(seen, "state", x.state(bits, what));
            add(seen, "nearest", x.nearest(bits, 0));
            add(seen, "hill", x.hill(bits));
            add(seen, "basin", x.basin(bits));
            add(seen, "down", x.down(bits));
            add(seen, "pass", x.pass(bits, x.count(2)));
        }
    }

    private static void add(StringBuilder seen, String call, long answer) {
        seen.append(call).append(' ').append(answer).append("; ");
    }

    static void same(String call, SpinStrip x) {
        Check.same(call, answers(x), answers(of(x)));
    }
}

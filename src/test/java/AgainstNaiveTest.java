import java.util.Random;

/** Runs of calls by lot, on SpinStrip and on the naive model at once. */
public final class AgainstNaiveTest {
    private static final int[] EDGES = {Integer.MIN_VALUE, -100001, -2, -1, 0, 1, 2, 3, 4, 9, 10, 15, 16, 17, 99, 65535, 65536, 1000002, 1000003,
        Integer.MAX_VALUE};
    private final Random lot;
    private final SpinStrip x = new SpinStrip();
    private final Naive n = new Naive();
    private final StringBuilder told = new StringBuilder();

    private AgainstNaiveTest(long seed) { lot = new Random(seed); }

    public static void main(String[] args) {
        for (int run = 0; run < 1500; run++) new AgainstNaiveTest(run).go(run % 30 == 0 ? 16 : 9, 60);
        for (int run = 0; run < 200; run++) new AgainstNaiveTest(10000 + run).go(10, 230);
        for (int run = 0; run < 6000; run++) new AgainstNaiveTest(20000 + run).texts();
        Check.end();
    }

    private int edge(int most) {
        return lot.nextInt(12) == 0 ? EDGES[lot.nextInt(EDGES.length)] : lot.nextInt(most + 2) - (lot.nextInt(6) == 0 ? 1 : 0);
    }

    private int j() { return lot.nextInt(8) == 0 ? lot.nextInt(11) - 5 : lot.nextInt(7) - 3; }

    private String blank() { return lot.nextInt(5) == 0 ? "  \n\t\r ".substring(lot.nextInt(6)) : " "; }

    private String way() { return lot.nextBoolean() ? "across" : "along"; }

    private String tellJ(int spread) {
        int v = lot.nextInt(2 * spread + 1) - spread;
        return v < 0 ? "-" + (lot.nextBoolean() ? blank() : "") + -v : "" + v;
    }

    private String tell(int sites, int spread) {
        int site = lot.nextInt(40) == 0 ? lot.nextInt(20) : lot.nextInt(sites);
        switch (lot.nextInt(9)) {
            case 0: return "across" + blank() + tellJ(spread) + ";";
            case 1: return "along" + blank() + tellJ(spread) + " ;";
            case 2: return "field" + blank() + tellJ(lot.nextInt(2)) + ";";
            case 3: return "ring " + way() + ";";
            case 4: return "tie" + blank() + site + way() + " " + tellJ(spread) + ";";
            case 5: return "pull " + site + blank() + tellJ(spread) + ";";
            case 6: return lot.nextBoolean() ? "pin " + site + (lot.nextBoolean() ? "up" : " down") + blank() + ";" : "";
            case 7: return "seed " + lot.nextInt(10000) + ";" + blank();
            default: return "ring across;across 1;along " + tellJ(1) + ";";
        }
    }

    private String text(int most) {
        int wide = 1 + lot.nextInt(4);
        int tall = 1 + lot.nextInt(Math.max(1, Math.min(16, most / wide)));
        StringBuilder s = new StringBuilder("strip" + blank() + wide + " " + tall + blank() + ";");
        int tells = lot.nextInt(12);
        for (int k = 0; k < tells; k++) s.append(tell(wide * tall, 3)).append(blank());
        return s.toString();
    }

    private void due(String call, long got, long want) {
        if (got != want) System.out.println(told);
        Check.due(call, got, want);
    }

    private void readBoth(String text) {
        for (int at = 0; at < text.length(); at += 20) {
            int[] w = new int[5];
            for (int k = 0; k < 20; k++) w[k / 4] = w[k / 4] << 8 | (at + k < text.length() ? text.charAt(at + k) & 255 : ' ');
            due("feed", x.feed(w[0], w[1], w[2], w[3], w[4]), n.feed(w));
        }
        int over = (20 - text.length() % 20) % 20;
        due("back", x.back(over), n.back(over));
        told.append("\nread ").append(text);
        due("read of " + text, x.read(), n.read());
        due("place of " + text, x.place(), n.faultPlace);
    }

    /** Texts with faults: valid ones with a byte or a token changed, cut off, or grown too long. */
    private void texts() {
        for (int k = 0; k < 2; k++) {
            StringBuilder s = new StringBuilder(text(16));
            int how = lot.nextInt(8);
            if (how == 7) while (s.length() < 1900) s.append(lot.nextInt(3) == 0 ? "seed 1;" : "field-1;").append(lot.nextInt(30) == 0 ? "\n" : "");
            int changes = lot.nextInt(3);
            for (int c = 0; c < changes; c++) {
                int at = lot.nextInt(s.length());
                if (how == 0) s.setCharAt(at, (char) lot.nextInt(256));
                if (how == 1) s.deleteCharAt(at);
                if (how == 2) s.insert(at, lot.nextInt(100000));
                if (how == 3) s.insert(at, ";-. tie up 3x".charAt(lot.nextInt(13)));
                if (how == 4) s.setLength(Math.max(1, at));
            }
            readBoth(s.toString());
            compareCounts();
        }
    }

    private void compareCounts() {
        for (int what = 0; what <= 15; what++) if (what != 13 && what != 3) due("count(" + what + ")", x.count(what), n.count(what));
        for (int k = 0; k < n.sites(); k++) for (int what = 2; what < 6; what++) due("site(" + k + ", " + what + ")", x.site(k, what), n.site(k, what));
    }

    private void go(int sitesMost, int calls) {
        if (lot.nextInt(10) != 0) readBoth(text(sitesMost));
        for (int c = 0; c < calls; c++) {
            if (lot.nextInt(3) == 0) change(sitesMost); else ask();
        }
        compareCounts();
    }

    private void change(int most) {
        int s = edge(n.sites()), how = edge(3), v = j();
        boolean b = lot.nextBoolean();
        switch (lot.nextInt(12)) {
            case 0: told.append("\ntie ").append(s).append(b).append(v); due("tie", x.tie(s, b, v) ? 1 : 0, n.tie(s, b, v) ? 1 : 0); break;
            case 1: told.append("\npull ").append(s).append(' ').append(v); due("pull", x.pull(s, v) ? 1 : 0, n.pull(s, v) ? 1 : 0); break;
            case 2: told.append("\npin ").append(s).append(' ').append(how); due("pin", x.pin(s, how) ? 1 : 0, n.pin(s, how) ? 1 : 0); break;
            case 3:
                if (lot.nextInt(3) != 0) break;
                int seed = lot.nextInt(8) == 0 ? edge(1) * 10000 : lot.nextInt(10000);
                told.append("\nglass ").append(seed);
                due("glass", x.glass(seed) ? 1 : 0, n.glass(seed) ? 1 : 0);
                break;
            case 4: case 5: told.append("\nturn ").append(s); due("turn", x.turn(s) ? 1 : 0, n.turn(s) ? 1 : 0); break;
            case 6: told.append("\nfall"); due("fall", x.fall(), n.fall()); break;
            case 7: case 8: told.append("\nundo"); due("undo", x.undo() ? 1 : 0, n.undo() ? 1 : 0); break;
            case 9: told.append("\nhold ").append(how); due("hold", x.hold(how) ? 1 : 0, n.hold(how) ? 1 : 0); break;
            case 10: told.append("\nrestore ").append(how); due("restore", x.restore(how) ? 1 : 0, n.restore(how) ? 1 : 0); break;
            default: if (lot.nextInt(5) == 0) readBoth(text(most)); break;
        }
        due("count(2)", x.count(2), n.count(2));
        due("count(7)", x.count(7), n.count(7));
    }

    private int bits() {
        if (lot.nextInt(10) == 0) return edge(20);
        int s = lot.nextInt(1 << Math.max(1, n.sites()));
        for (int k = 0; k < n.p.length; k++) s = n.p[k] == 1 ? s | 1 << k : n.p[k] == 2 ? s & ~(1 << k) : s;
        return s;
    }

    private void ask() {
        int a = edge(n.sites()), b = edge(n.sites()), i = edge(8), what = edge(2), s = bits(), t = bits(), e = lot.nextInt(61) - 30;
        if (n.table().size() > 0 && lot.nextBoolean()) e = n.energy(s & ((1 << n.sites()) - 1));
        String args = " a=" + a + " b=" + b + " i=" + i + " what=" + what + " s=" + s + " t=" + t + " e=" + e;
        switch (lot.nextInt(26)) {
            case 0: what = edge(8); due("site" + args + what, x.site(a, what), n.site(a, what)); break;
            case 1: case 2: what = edge(5); due("level" + args + what, x.level(i, what), n.level(i, what)); break;
            case 3: due("both" + args, x.both(e, a), n.both(e, a)); break;
            case 4: i = edge(20); due("broken" + args + i, x.broken(i), n.broken(i)); break;
            case 5: what = edge(4); due("ground" + args + what, x.ground(what), n.ground(what)); break;
            case 6: due("pair" + args, x.pair(a, b, i, what), n.pair(a, b, i, what)); break;
            case 7: due("mean" + args, x.mean(i, what), n.mean(i, what)); break;
            case 8: i = lot.nextBoolean() ? lot.nextInt(1000003) : edge(10); due("value" + i, x.value(i), n.value(i)); break;
            case 9: case 10:
                a = edge(3);
                due("joined" + args + a, x.joined(a, i, what), n.joined(a, i, what));
                break;
            case 11: case 12: what = edge(6); due("state" + args + what, x.state(s, what), n.state(s, what)); break;
            case 13: due("stuck", x.stuck(true), n.stuck(true)); due("stuck", x.stuck(false), n.stuck(false)); break;
            case 14: case 15:
                a = edge(n.tall); b = edge(1 << n.wide); e = lot.nextInt(31) - 15;
                due("rows" + args + a + " " + b + " " + e, x.rows(a, b, e), n.rows(a, b, e));
                break;
            case 16: due("square" + args, x.square(a), n.square(a)); break;
            case 17: due("overlap" + args, x.overlap(a), n.overlap(a)); break;
            case 18: if (lot.nextBoolean()) s = n.lawful(s) && n.sites() <= 10 ? n.fallOf(s)[0] : s; due("basin" + args, x.basin(s), n.basin(s)); break;
            case 19: due("stiff" + args, x.stiff(a, b), n.stiff(a, b)); break;
            case 20: due("hill" + args, x.hill(s), n.hill(s)); due("pass" + args, x.pass(s, t), n.pass(s, t)); break;
            case 21: due("lakes" + args, x.lakes(e), n.lakes(e)); break;
            case 22: due("down" + args, x.down(s), n.down(s)); break;
            case 23: due("nearest" + args, x.nearest(s, what), n.nearest(s, what)); break;
            case 24: due("cluster" + args, x.cluster(a), n.cluster(a)); what = edge(15); due("count" + what, x.count(what), n.count(what)); break;
            default:
                int turns = lot.nextBoolean() ? lot.nextInt(201) : edge(200), c = lot.nextInt(3) == 0 ? edge(100) : lot.nextInt(30);
                what = edge(3);
                due("wander" + turns + " " + c + " " + what, x.wander(turns, c, what), n.wander(turns, c, what));
                break;
        }
    }
}

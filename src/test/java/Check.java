/** Counts answers that are not as due, for the tests' main methods. */
final class Check {
    private static int wrong = 0;
    private static int made = 0;
    private static String label = "";

    private Check() { }

    /** What the answers behind this hold, told ahead of each that is wrong. */
    static void label(String text) {
        label = text.isEmpty() ? "" : text + ": ";
    }

    static void due(String call, long got, long want) {
        made++;
        if (got != want) {
            wrong++;
            if (wrong <= 50) System.out.println(label + call + " answered " + got + ", due is " + want);
        }
    }

    static void due(String call, boolean got, boolean want) {
        due(call, got ? 1 : 0, want ? 1 : 0);
    }

    /** Puts a text on the tape, byte by byte (a char is a byte), and no blank more. */
    static void tell(SpinStrip x, String text) {
        for (int at = 0; at < text.length(); at += 20) {
            int[] words = new int[5];
            for (int k = 0; k < 20; k++) {
                int b = at + k < text.length() ? text.charAt(at + k) & 255 : ' ';
                words[k / 4] = words[k / 4] << 8 | b;
            }
            x.feed(words[0], words[1], words[2], words[3], words[4]);
        }
        int over = (20 - text.length() % 20) % 20;
        x.back(over);
    }

    static SpinStrip strip(String text) {
        SpinStrip x = new SpinStrip();
        tell(x, text);
        due("read() of \"" + text + "\"", x.read(), 0);
        return x;
    }

    static void fault(String text, int fault, int place) {
        SpinStrip x = new SpinStrip();
        tell(x, text);
        String shown = text.length() > 60 ? text.substring(0, 60) + ".." : text;
        due("read() of \"" + shown + "\"", x.read(), fault);
        due("place() of \"" + shown + "\"", x.place(), place);
    }

    /** What can be seen of a strip, but for the tape; of large strips less, so that it costs few calls. */
    static String all(SpinStrip x) {
        StringBuilder seen = new StringBuilder();
        for (int what = 0; what <= 15; what++) if (what != 6) seen.append(x.count(what)).append(' ');
        for (int site = 0; x.site(site, 0) != -100000; site++) {
            for (int what = 2; what <= 7; what++) seen.append(x.site(site, what)).append(' ');
        }
        for (int what = 0; what <= 3; what++) seen.append(x.ground(what)).append(' ');
        for (int slot = 0; slot < 3; slot++) seen.append(x.joined(slot, 0, 0)).append(' ').append(x.joined(slot, 0, 1)).append(' ');
        return seen.append(x.level(-1, 0)).append(' ').append(x.lakes(0)).append(' ').append(x.stuck(false)).toString();
    }

    static void same(String call, String got, String want) {
        due(call + ": " + got + " | " + want, got.equals(want), true);
    }

    static void end() {
        System.out.println(made + " answers, " + wrong + " not as due");
        if (wrong != 0 || made == 0) System.exit(1);
    }
}

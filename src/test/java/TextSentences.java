/** The first half of "Terms": the bytes of a text, TOKENS, the grammar, bounds, FAULTS and their order. */
final class TextSentences {
    private static final int R = -100000;
    private static final String HEAD = "strip 1 1;";

    private TextSentences() { }

    static void run() {
        bytes();
        tokens();
        blanks();
        wordsAndInts();
        grammar();
        sizes();
        numbers();
        tiesAcross();
        tiesAlong();
        bounds();
        lastOnes();
        places();
        syntaxAndRoom();
        wrongAndNone();
        faultChangesNothing();
        goodTextReplaces();
    }

    private static void due(String call, long got, long want) { Check.due(call, got, want); }
    private static void due(String call, boolean got, boolean want) { Check.due(call, got, want); }
    private static void of(String words) { Sentence.ofTerms(words); }

    private static boolean isBlank(int b) { return b == 9 || b == 10 || b == 13 || b == 32; }
    private static boolean isLetter(int b) { return b >= 97 && b <= 122; }
    private static boolean isDigit(int b) { return b >= 48 && b <= 57; }

    private static void bytes() {
        of("A TEXT has 2,000 bytes at most.");
        Check.fault(HEAD + " ".repeat(1990), 0, -1);
        Check.fault(HEAD + " ".repeat(1983) + "seed 7;", 0, -1);
        Check.fault(HEAD + " ".repeat(1984) + "seed 7", 1, 2000);
        Check.fault(HEAD + " ".repeat(1989) + "@", 1, 1999);
        Check.fault("9".repeat(2000), 1, 0);
        Check.fault("a".repeat(2000), 1, 0);
        Check.fault(HEAD + "seed " + "0".repeat(1985), 1, 15);
        SpinStrip x = new SpinStrip();
        Check.tell(x, HEAD + " ".repeat(1990));
        due("a 101st feed", x.feed(0x40404040, 0, 0, 0, 0), -1);
        due("read", x.read(), 0);
    }

    private static void tokens() {
        of("TOKENS, the longest that can be,");
        Check.fault("strip 1 16;", 0, -1);
        Check.fault("strip 11;", 1, 8);
        Check.fault("strip 1 1;ringacross;", 1, 10);
        Check.fault("strip 1 1;seedseed 1;", 1, 10);
        Check.fault("stripstrip 1 1;", 1, 0);
        Check.fault("strip 2 1; pin 0 upp;", 1, 17);
        Check.fault("strip 2 1; pin 0 downup;", 1, 17);
        Check.fault("strip 2 1; pin 0 u;", 1, 17);
        Check.fault("stri 2 1;", 1, 0);
        Check.fault("strip 1 1;seed 12 34;", 1, 18);
        due("one INT", Check.strip("strip 1 1;seed 1234;").count(9), 1234);
    }

    /** A byte behind "strip" parts letters from all else, one behind the first ';' parts blanks from all else. */
    private static void blanks() {
        of("with blanks (9, 10, 13, 32) between or not:");
        for (int b = 0; b < 256; b++) {
            boolean blank = isBlank(b);
            Check.fault("strip 1 1;" + (char) b + "seed 1;", blank ? 0 : 1, blank ? -1 : 10);
            Check.fault((char) b + "strip 1 1;", blank ? 0 : 1, blank ? -1 : 0);
            Check.fault("strip 1 1;" + (char) b, blank ? 0 : 1, blank ? -1 : 10);
        }
        String bare = "strip3 3;ring across;ring along;across-1;along2;field0;tie0across1;tie8along-3;pull1-2;pin2up;pin3down;seed77;";
        String wide = bare.replaceAll("([a-z]+|[0-9]+|[-;])", "\r\n$1\t ").replaceAll(" +", "  ");
        for (String text : new String[] {bare, wide}) {
            SpinStrip x = Check.strip(text);
            due("across", x.site(0, 4), 1);
            due("all across", x.site(1, 4), -1);
            due("along", x.site(8, 5), -3);
            due("all along", x.site(7, 5), 2);
            due("field", x.site(1, 2), -2);
            due("pins", x.site(2, 3) * 10 + x.site(3, 3), 12);
            due("seed", x.count(9), 77);
        }
        Check.fault("str ip 1 1;", 1, 0);
        Check.fault("strip 1 1 6;", 1, 10);
    }

    private static void wordsAndInts() {
        of("WORDS (letters a .. z),");
        for (int b = 0; b < 256; b++) {
            if (isLetter(b)) Check.fault("strip" + (char) b + " 1 1;", 1, 0);
            else if (isDigit(b)) Check.fault("strip" + (char) b + " 1 1;", 1, 9);
            else if (isBlank(b)) Check.fault("strip" + (char) b + " 1 1;", 0, -1);
            else Check.fault("strip" + (char) b + " 1 1;", 1, 5);
        }
        Check.fault("STRIP 1 1;", 1, 0);
        String[] said = {"strip 3 3;", "across 1;", "along 1;", "field 1;", "ring across;", "ring along;", "tie 1 across 1;", "tie 1 along 1;", "pull 1 1;", "pin 1 up;", "pin 1 down;", "seed 1;"};
        for (String tell : said) for (int at = 0; at < tell.length(); at++) {
            if (!isLetter(tell.charAt(at))) continue;
            int first = tell.lastIndexOf(' ', at) + 1;
            String begun = tell == said[0] ? "" : said[0];
            char other = tell.charAt(at) == 'z' ? 'y' : (char) (tell.charAt(at) + 1);
            Check.fault(begun + tell.substring(0, at) + other + tell.substring(at + 1), 1, begun.length() + first);
        }
        Check.fault("strip 1 1;sEed 1;", 1, 10);
        of("INTS (1 to 4 digits),");
        for (int b = 0; b < 256; b++) {
            boolean good = isDigit(b) || isBlank(b);
            Check.fault("strip 1 1;seed 1" + (char) b + ";", good ? 0 : 1, good ? -1 : b == ';' ? 17 : 16);
            if (isDigit(b)) due("seed", Check.strip("strip 1 1;seed 1" + (char) b + ";").count(9), 10 + b - 48);
        }
        due("1 digit", Check.strip("strip 1 1;seed 0;").count(9), 0);
        due("1 digit", Check.strip("strip 1 1;seed 9;").count(9), 9);
        due("4 digits", Check.strip("strip 1 1;seed 0000;").count(9), 0);
        due("4 digits", Check.strip("strip 1 1;seed 9999;").count(9), 9999);
        due("4 digits", Check.strip("strip 0003 0005;across 0002;").site(0, 4), 2);
        due("4 digits", Check.strip("strip 2 1;pull 0001 -0003;").site(1, 2), -3);
        of("SIGNS - ; .");
        for (char sign : "_.,:+*/!#=<>()[]{}'\"`~|@\\%&?^$".toCharArray()) {
            Check.fault("strip 1 1" + sign, 1, 9);
            Check.fault("strip 1 1; field " + sign + "1;", 1, 17);
        }
        Check.fault("strip 1 1; field -1;", 0, -1);
        Check.fault("strip 1 1; field -;", 1, 18);
        of("A longer INT, all else, is no TOKEN.");
        Check.fault("strip 1 1;seed 10000;", 1, 15);
        Check.fault("strip 1 1;seed 00000;", 1, 15);
        Check.fault("strip 00001 1;", 1, 6);
        Check.fault("strip 1 00001;", 1, 8);
        Check.fault("strip 1 1;field 00001;", 1, 16);
        Check.fault("strip 1 1;field -00001;", 1, 17);
        Check.fault("strip 1 1;pull 00000 1;", 1, 15);
        Check.fault("strip 1 1;seed 4294967296;", 1, 15);
        Check.fault("strip 1 1;" + (char) 128, 1, 10);
        Check.fault("strip 1 1;" + (char) 255, 1, 10);
    }

    /** What may stand behind each beginning; all other TOKENS, and what is none, are faults at their own place. */
    private static void grammar() {
        of("text: 'strip' INT INT ';' {TELL}.");
        goesOn("", "strip");
        goesOn("strip ", "1");
        goesOn("strip 1 ", "1");
        goesOn("strip 1 1 ", ";");
        String tells = "across along field ring tie pull pin seed";
        goesOn("strip 1 1; ", tells);
        goesOn("strip 1 1; field 1; ", tells);
        goesOn("strip 1 1; ring along; ", tells);
        goesOn("strip 1 1; seed 1; ", tells);
        Check.fault("strip 1 1;", 0, -1);
        of("TELL: ('across' | 'along' | 'field') J ';' | 'ring' ('across' | 'along') ';' | 'tie' INT ('across' | 'along') J ';'"
            + " | 'pull' INT J ';' | 'pin' INT ('up' | 'down') ';' | 'seed' INT ';'.");
        String head = "strip 3 3; ";
        for (String all : new String[] {"across ", "along ", "field ", "tie 1 across ", "tie 1 along ", "pull 1 "}) {
            goesOn(head + all, "- 1");
            goesOn(head + all + "1 ", ";");
            goesOn(head + all + "- 1 ", ";");
        }
        goesOn(head + "ring ", "across along");
        goesOn(head + "ring across ", ";");
        goesOn(head + "ring along ", ";");
        goesOn(head + "tie ", "1");
        goesOn(head + "tie 1 ", "across along");
        goesOn(head + "pull ", "1");
        goesOn(head + "pin ", "1");
        goesOn(head + "pin 1 ", "up down");
        goesOn(head + "pin 1 up ", ";");
        goesOn(head + "pin 1 down ", ";");
        goesOn(head + "seed ", "1");
        goesOn(head + "seed 1 ", ";");
        of("J: ['-'] INT.");
        for (String all : new String[] {"across ", "along ", "field ", "tie 1 across ", "tie 1 along ", "pull 1 "}) goesOn(head + all + "- ", "1");
        due("-0 is 0", Check.strip("strip 1 1; field -0;").site(0, 2), 0);
        due("- 2", Check.strip("strip 1 1; field - 2;").site(0, 2), -2);
    }

    private static void goesOn(String begun, String by) {
        String[] all = {"strip", "across", "along", "field", "ring", "tie", "pull", "pin", "up", "down", "seed", "1", "-", ";", "text", "x", "11111", "+", "."};
        for (String token : all) {
            String text = begun + token + " ";
            if (!(" " + by + " ").contains(" " + token + " ")) Check.fault(text, 1, begun.length());
            else if (token.equals(";")) Check.fault(text, 0, -1);
            else Check.fault(text, 1, text.length());
        }
    }

    private static void sizes() {
        of("WIDE (the first INT, 1 .. 4)");
        for (int wide = 0; wide <= 20; wide++) Check.fault("strip " + wide + " 1;", wide >= 1 && wide <= 4 ? 0 : 3, wide >= 1 && wide <= 4 ? -1 : 6);
        Check.fault("strip 9999 1;", 3, 6);
        of("and LONG (1 .. 16),");
        for (int tall = 0; tall <= 40; tall++) Check.fault("strip 1 " + tall + ";", tall >= 1 && tall <= 16 ? 0 : 3, tall >= 1 && tall <= 16 ? -1 : 8);
        Check.fault("strip 1 9999;", 3, 8);
        SpinStrip x = Check.strip("strip 4 3;");
        due("the first INT is WIDE", x.count(0), 4);
        due("the second LONG", x.count(1), 3);
        of("WIDE times LONG 16 at most:");
        int[] most = {0, 16, 8, 5, 4};
        for (int wide = 1; wide <= 4; wide++) for (int tall = 1; tall <= 17; tall++) {
            boolean good = tall <= most[wide];
            Check.fault("strip " + wide + " " + tall + ";", good ? 0 : 3, good ? -1 : 8);
        }
        due("16 SITES", Check.strip("strip 4 4;").count(3), 65536);
        due("15 SITES", Check.strip("strip 3 5;").count(3), 32768);
    }

    private static void numbers() {
        of("SITES, numbered from 0 on: of row r and column c r times WIDE and c.");
        for (int wide = 1; wide <= 4; wide++) {
            int tall = 16 / wide;
            SpinStrip x = Check.strip("strip " + wide + " " + tall + ";");
            for (int r = 0; r < tall; r++) for (int c = 0; c < wide; c++) {
                due("row of " + (r * wide + c), x.site(r * wide + c, 0), r);
                due("column of " + (r * wide + c), x.site(r * wide + c, 1), c);
            }
            due("no SITE below 0", x.site(-1, 0), R);
            due("no SITE behind the last", x.site(wide * tall, 0), R);
        }
    }

    /** The SITE to which a TIE leads: with its J alone, the one that must be turned along with its own to keep the energy. */
    private static int endOf(String strip, int site, boolean along) {
        SpinStrip x = Check.strip(strip);
        if (!x.tie(site, along, 1)) return -1;
        int end = -1;
        for (int k = 0; x.site(k, 0) != R; k++) {
            boolean same = x.state(1 << site | 1 << k, 0) == -1;
            if (k != site && same) end = end == -1 ? k : 99;
        }
        return end;
    }

    private static void tiesAcross() {
        of("TIES: ACROSS of a SITE: to the next one of its row");
        for (int wide = 1; wide <= 4; wide++) for (int site = 0; site < 2 * wide; site++) {
            int want = site % wide == wide - 1 ? -1 : site + 1;
            due("across of " + site + " of " + wide, endOf("strip " + wide + " 2; ring along;", site, false), want);
        }
        of("(of the last column, with a RING ACROSS and WIDE above 2, to the first one);");
        int[] last = {-1, -1, -1, 3, 4};
        for (int wide = 1; wide <= 4; wide++) {
            due("ring across of " + wide, endOf("strip " + wide + " 2; ring across;", 2 * wide - 1, false), wide > 2 ? last[wide] : -1);
            due("ring across of " + wide, endOf("strip " + wide + " 1; ring across;", wide - 1, false), wide > 2 ? 0 : -1);
        }
        due("TIES of a ring of two", Check.strip("strip 2 1; ring across;").count(5), 1);
        due("TIES of a ring of one", Check.strip("strip 1 1; ring across;").count(5), 0);
        due("TIES of a ring of three", Check.strip("strip 3 1; ring across;").count(5), 3);
        due("TIES of an open row of three", Check.strip("strip 3 1; ring along;").count(5), 2);
    }

    private static void tiesAlong() {
        of("ALONG: to that of its column in the next row");
        for (int tall = 1; tall <= 4; tall++) for (int site = 0; site < 3 * tall; site++) {
            int want = site / 3 == tall - 1 ? -1 : site + 3;
            due("along of " + site + " of " + tall, endOf("strip 3 " + tall + "; ring across;", site, true), want);
        }
        of("(of the last row, with a RING ALONG and LONG above 2, in the first row).");
        for (int tall = 1; tall <= 5; tall++) for (int c = 0; c < 3; c++) {
            due("ring along of " + tall, endOf("strip 3 " + tall + "; ring along;", 3 * tall - 3 + c, true), tall > 2 ? c : -1);
        }
        due("ring along of 16", endOf("strip 1 16; ring along;", 15, true), 0);
        due("TIES of a ring of two", Check.strip("strip 1 2; ring along;").count(5), 1);
        due("TIES of a ring of one", Check.strip("strip 1 1; ring along;").count(5), 0);
        due("TIES of a ring of three", Check.strip("strip 1 3; ring along;").count(5), 3);
        due("TIES of an open column of three", Check.strip("strip 1 3; ring across;").count(5), 2);
        due("TIES of both rings", Check.strip("strip 4 4; ring along; ring across;").count(5), 32);
    }

    private static void bounds() {
        of("A J is -3 .. 3:");
        String[] tells = {"across ", "along ", "field ", "tie 0 across ", "tie 0 along ", "pull 0 "};
        int[] whats = {4, 5, 2, 4, 5, 2};
        for (int k = 0; k < tells.length; k++) {
            String begun = "strip 2 2; " + tells[k];
            for (int j = -3; j <= 3; j++) due(tells[k] + j, Check.strip(begun + j + ";").site(0, whats[k]), j);
            Check.fault(begun + "4;", 3, begun.length());
            Check.fault(begun + "-4;", 3, begun.length() + 1);
            Check.fault(begun + "9999;", 3, begun.length());
            Check.fault(begun + "-9999;", 3, begun.length() + 1);
        }
        of("SEED 0 .. 9999, if not told 0.");
        due("not told", Check.strip("strip 1 1;").count(9), 0);
        for (int seed : new int[] {0, 1, 9998, 9999}) due("told", Check.strip("strip 1 1; seed " + seed + ";").count(9), seed);
        Check.fault("strip 1 1; seed 10000;", 1, 16);
        Check.fault("strip 1 1; seed -1;", 1, 16);
    }

    private static void lastOnes() {
        of("of all TIES ACROSS, of all ALONG, of all SITES' FIELDS, if not told 0");
        SpinStrip none = Check.strip("strip 3 3; ring across; ring along;");
        SpinStrip all = Check.strip("strip 3 3; ring across; ring along; across 1; along -2; field 3;");
        for (int site = 0; site < 9; site++) {
            due("across untold", none.site(site, 4), 0);
            due("along untold", none.site(site, 5), 0);
            due("field untold", none.site(site, 2), 0);
            due("across", all.site(site, 4), 1);
            due("along", all.site(site, 5), -2);
            due("field", all.site(site, 2), 3);
        }
        of("(the last ones);");
        SpinStrip twice = Check.strip("strip 2 2; across 1; along 1; field 1; across 2; along -3; field 0; across -1;");
        due("across", twice.site(0, 4), -1);
        due("along", twice.site(0, 5), -3);
        due("field", twice.site(0, 2), 0);
        of("of a TIE, of a SITE's FIELD (the last ones told of it;");
        SpinStrip own = Check.strip("strip 2 2; tie 0 across 1; tie 0 along 3; pull 0 1; tie 2 across 2; pull 3 -1; tie 0 across -3; pull 0 0; tie 0 along 2; pull 0 2;");
        due("across", own.site(0, 4), -3);
        due("along", own.site(0, 5), 2);
        due("field", own.site(0, 2), 2);
        SpinStrip even = Check.strip("strip 2 2; pull 0 1; pull 0 2; tie 0 across 1; tie 0 across 2; tie 0 along 1; tie 0 along 2; field 3; across 3; along 3;");
        due("told twice, across", even.site(0, 4), 2);
        due("told twice, along", even.site(0, 5), 2);
        due("told twice, field", even.site(0, 2), 2);
        due("of another one", own.site(2, 4), 2);
        due("of another one", own.site(3, 2), -1);
        due("untold", own.site(1, 5), 0);
        of("'tie', 'pull' are ahead of those of all).");
        String[] order = {"tie 0 across 0; tie 0 along 1; pull 0 0;", "across 2; along 2; field 2;"};
        for (String text : new String[] {order[0] + order[1], order[1] + order[0]}) {
            SpinStrip x = Check.strip("strip 2 2; " + text);
            due("across", x.site(0, 4), 0);
            due("along", x.site(0, 5), 1);
            due("field", x.site(0, 2), 0);
            due("of all, across", x.site(2, 4), 2);
            due("of all, along", x.site(1, 5), 2);
            due("of all, field", x.site(1, 2), 2);
        }
        of("PINS: a SITE is always UP, or DOWN (the last one told).");
        SpinStrip pins = Check.strip("strip 2 2; pin 0 up; pin 1 down; pin 2 up; pin 2 down; pin 3 down; pin 3 up;");
        int[] want = {1, 2, 2, 1};
        for (int site = 0; site < 4; site++) due("pin of " + site, pins.site(site, 3), want[site]);
        due("the STATE", pins.count(2), 9);
        due("STATES", pins.count(3), 1);
        due("none", Check.strip("strip 2 2; pin 0 up;").site(1, 3), 0);
    }

    private static void places() {
        of("FAULTS of a text, the first by its place");
        Check.fault("strip 2 2; x; @", 1, 11);
        Check.fault("strip 5 17;", 3, 6);
        Check.fault("strip 0 0;", 3, 6);
        Check.fault("strip 1 17; field 4;", 3, 8);
        Check.fault("strip 2 2; field 4; pull 4 1;", 3, 17);
        Check.fault("strip 2 2; pull 4 1; field 4;", 4, 16);
        Check.fault("strip 2 2; pull 4 4;", 4, 16);
        Check.fault("strip 2 2; tie 1 across 4;", 4, 15);
        Check.fault("strip 2 2; tie 0 across 4; tie 1 across 1;", 3, 24);
        Check.fault("strip 2 2; field 4; field -4;", 3, 17);
        Check.fault("strip 2 2; pin 5 up; pin 4 up;", 4, 15);
        of("(a byte; the text's end: its length),");
        Check.fault("", 1, 0);
        Check.fault(" ", 1, 1);
        Check.fault("strip 1 1", 1, 9);
        Check.fault("strip 1 1 \n\t", 1, 12);
        Check.fault(" ".repeat(2000), 1, 2000);
        Check.fault(" strip 9 1;", 3, 7);
        Check.fault("\n\n@", 1, 2);
    }

    private static void syntaxAndRoom() {
        String most = HEAD + "seed 1;".repeat(132);
        of("1 SYNTAX: a TOKEN, or what is none, with which no text goes on.");
        Check.fault("strip 1 1; up", 1, 11);
        Check.fault("strip 1 1; 55555", 1, 11);
        Check.fault("strip 1 1; " + (char) 200, 1, 11);
        Check.fault("strip 1 1", 1, 9);
        Check.fault("-", 1, 0);
        Check.fault(";", 1, 0);
        of("2 ROOM: a 401st TOKEN.");
        Check.fault(most, 0, -1);
        Check.fault(most + " \r\n", 0, -1);
        Check.fault(most + "seed", 2, most.length());
        Check.fault(most + "\tseed 1;", 2, most.length() + 1);
        Check.fault(most + "seed 1; x", 2, most.length());
        Check.fault(HEAD + "ring along;".repeat(132), 0, -1);
        Check.fault(HEAD + "field-1;".repeat(99), 0, -1);
        Check.fault(HEAD + "field-1;".repeat(99) + "seed", 2, HEAD.length() + 99 * 8);
        String open = HEAD + "seed 1;".repeat(131) + "seed 1";
        Check.fault(open, 1, open.length());
        Check.fault(open + "@", 1, open.length());
        String before = HEAD + "seed 1;".repeat(130) + "field-1;" + "seed";
        Check.fault(before, 1, before.length());
        Check.fault(before + " 1", 1, before.length() + 2);
        Check.fault(before + " 1;", 2, before.length() + 2);
        Check.fault("strip 9 9;" + "seed 1;".repeat(133), 2, most.length());
        of("of one place the least:");
        for (String token : new String[] {"up", "1", ";", "-", "strip", "x", "@", "12345"}) Check.fault(most + token, 1, most.length());
        Check.fault(before + " 1 x", 1, before.length() + 3);
        Check.fault(before + " 1@", 1, before.length() + 2);
    }

    private static void wrongAndNone() {
        of("3 WRONG: (at the INT)");
        Check.fault("strip   5 1;", 3, 8);
        Check.fault("strip 1   0;", 3, 10);
        Check.fault("strip 1 1; field -  4;", 3, 20);
        Check.fault("strip 2 1; tie 0 across -4;", 3, 25);
        of("WIDE, LONG not as told above");
        Check.fault("strip 0 1;", 3, 6);
        Check.fault("strip 5 1;", 3, 6);
        Check.fault("strip 1 0;", 3, 8);
        Check.fault("strip 1 17;", 3, 8);
        Check.fault("strip 0 17;", 3, 6);
        Check.fault("strip 0 17; pull 0 1;", 3, 6);
        of("(LONG, too, by which there would be more than 16 SITES),");
        Check.fault("strip 2 9;", 3, 8);
        Check.fault("strip 3 6;", 3, 8);
        Check.fault("strip 4 5;", 3, 8);
        Check.fault("strip 4 16;", 3, 8);
        of("a J beyond -3 .. 3.");
        Check.fault("strip 1 1; field 4;", 3, 17);
        Check.fault("strip 1 1; pull 0 -4;", 3, 19);
        Check.fault("strip 1 1; across 4;", 3, 18);
        Check.fault("strip 1 1; along 4;", 3, 17);
        Check.fault("strip 1 1; field 3; pull 0 -3;", 0, -1);
        of("4 NONE: (3 and 4 are looked for if there is no 1 or 2;");
        Check.fault("strip 5 1; field 4; pull 9 1", 1, 28);
        Check.fault("strip 5 1; pull 9 1;;", 1, 20);
        Check.fault("strip 1 1; pull 9 1; @", 1, 21);
        Check.fault("strip 1 1; pull 9 1;" + "seed 1;".repeat(131), 2, 20 + 131 * 7 - 1);
        of("at the INT) no such SITE;");
        for (String strip : new String[] {"strip 1 1; ", "strip 2 3; ", "strip 4 4; "}) {
            int sites = (strip.charAt(6) - 48) * (strip.charAt(8) - 48);
            Check.fault(strip + "pull " + (sites - 1) + " 1;", 0, -1);
            Check.fault(strip + "pull " + sites + " 1;", 4, 16);
            Check.fault(strip + "pin " + (sites - 1) + " down;", 0, -1);
            Check.fault(strip + "pin " + sites + " up;", 4, 15);
            Check.fault(strip + "tie " + sites + " across 1;", 4, 15);
            Check.fault(strip + "tie " + sites + " along 1;", 4, 15);
        }
        Check.fault("strip 1 1; pull 9999 1;", 4, 16);
        noSuchTie();
    }

    private static void noSuchTie() {
        of("of 'tie' one that has no such TIE");
        Check.fault("strip 3 3; tie 1 across 1;", 0, -1);
        Check.fault("strip 3 3; tie 2 across 1;", 4, 15);
        Check.fault("strip 3 3; tie 8 across 1;", 4, 15);
        Check.fault("strip 3 3; tie 5 along 1;", 0, -1);
        Check.fault("strip 3 3; tie 6 along 1;", 4, 15);
        Check.fault("strip 1 3; tie 0 across 1;", 4, 15);
        Check.fault("strip 3 1; tie 0 along 1;", 4, 15);
        of("(by all RINGS of the whole text).");
        Check.fault("strip 3 3; ring across; tie 2 across 1;", 0, -1);
        Check.fault("strip 3 3; tie 2 across 1; ring across;", 0, -1);
        Check.fault("strip 3 3; tie 6 along 1; seed 1; ring along;", 0, -1);
        Check.fault("strip 3 3; tie 2 across 1; ring along;", 4, 15);
        Check.fault("strip 3 3; tie 6 along 1; ring across;", 4, 15);
        Check.fault("strip 3 3; ring across; ring along; tie 6 along 1;", 0, -1);
        Check.fault("strip 2 2; tie 1 across 1; ring across;", 4, 15);
        Check.fault("strip 2 2; tie 2 along 1; ring along;", 4, 15);
        Check.fault("strip 1 2; tie 0 across 1; ring across;", 4, 15);
        SpinStrip x = Check.strip("strip 3 1; tie 2 across 2; ring across; across 1;");
        due("the ring's TIE", x.site(2, 4), 2);
        due("of all", x.site(1, 4), 1);
        Check.tell(x, "strip 3 1; tie 2 across 1;");
        due("RINGS of an earlier text", x.read(), 4);
    }

    private static void faultChangesNothing() {
        of("A text with a FAULT changes nothing but the tape;");
        String[] faulty = {"", "strip 2 2; across 3; field 3; pin 0 up; seed 1", "strip 9 1; across 1;", "strip 1 2; along 1; seed 3; pin 0 up; pull 2 1;",
            "strip 2 2; ring along; across 2; along 4;", "strip 3 3; ring along; seed 9; pin 0 up; tie 8 across 1;", HEAD + "seed 1;".repeat(133)};
        int[] want = {1, 1, 3, 4, 3, 4, 2};
        for (int k = 0; k < faulty.length; k++) {
            SpinStrip x = Check.strip("strip 3 3; ring across; across -1; along 2; field 1; pull 3 -2; pin 1 up; pin 2 down; seed 55;");
            x.turn(4);
            x.hold(2);
            x.turn(5);
            String before = Check.all(x);
            Check.tell(x, faulty[k]);
            due("read", x.read(), want[k]);
            due("the tape is empty", x.count(6), 0);
            Check.same("nothing else is changed by " + faulty[k], Check.all(x), before);
            due("undo", x.undo(), true);
            due("the STATE", x.count(2), 2 | 16);
            due("restore", x.restore(2), true);
        }
        SpinStrip none = new SpinStrip();
        Check.tell(none, "strip 2 2; x");
        due("read", none.read(), 1);
        due("still no SITES", none.count(0), 0);
    }

    private static void goodTextReplaces() {
        SpinStrip x = Check.strip("strip 3 3; ring across; ring along; across -1; along 2; field 1; pull 3 -2; pin 1 up; pin 2 down; seed 55;");
        x.turn(4);
        x.pull(0, 3);
        for (int slot = 0; slot < 3; slot++) x.hold(slot);
        x.level(-1, 0);
        x.broken(0);
        x.lakes(0);
        Check.tell(x, "strip 2 2; pin 3 up; pin 0 down;");
        due("read", x.read(), 0);
        of("else it is in place of the one ahead:");
        SpinStrip fresh = Check.strip("strip 2 2; pin 3 up; pin 0 down;");
        Check.same("as a new one", Check.all(x), Check.all(fresh));
        due("SEED", x.count(9), 0);
        due("RINGS", x.count(12), 0);
        String[] texts = {"strip 3 2; ring across; across -1; along 2; pull 1 3; tie 0 across 2; pin 5 up; seed 4;", "strip 2 3; ring along; across 1; along -3; field 1; pin 0 down;",
            "strip 1 1; field 1;", "strip 3 2; across 1; along 1; field -2;", "strip 1 6; along 2; pull 0 1;", "strip 3 2; ring across; across -1; along 2;"};
        for (String first : texts) for (String second : texts) {
            SpinStrip y = Check.strip(first);
            Mirror.ask(y);
            Check.tell(y, second);
            due("read", y.read(), 0);
            Check.same("behind " + first, Mirror.answers(y), Mirror.answers(Check.strip(second)));
        }
        for (int site = 0; site < 4; site++) due("FIELD", x.site(site, 2), 0);
        of("the STATE has all SITES DOWN that are not pinned UP;");
        due("the STATE", x.count(2), 8);
        due("the STATE", Check.strip("strip 4 4;").count(2), 0);
        due("the STATE", Check.strip("strip 1 3; pin 0 up; pin 1 down; field 3;").count(2), 1);
        of("nothing can be undone, SLOTS hold nothing.");
        due("things", x.count(7), 0);
        due("undo", x.undo(), false);
        due("slots", x.count(8), 0);
        for (int slot = 0; slot < 3; slot++) {
            due("restore", x.restore(slot), false);
            due("joined", x.joined(slot, -1, 0), R);
        }
    }
}

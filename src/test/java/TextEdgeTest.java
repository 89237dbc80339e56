/** The edges of Terms 1 and of promises 1 to 4: bytes, TOKENS, NUMBERS, NOTES, ITEMS, FAULTS. */
public final class TextEdgeTest {
    private static final String LETTERS = "cdefgab";
    private static final int[] LETTER_PITCHES = {0, 2, 4, 5, 7, 9, 11};
    private static final String TWELVE = "c1d1e1f1g1a1b1c2d2e2f2g2";

    public static void main(String[] args) {
        newObject();
        lastCall();
        feedFull();
        feedOrder();
        readCounts();
        readTunes();
        readFaultStays();
        readAnew();
        faultWhats();
        pitches();
        ticks();
        ticksOfRepetitions();
        textLength();
        bytesAlone();
        bytesBetween();
        blanks();
        digitsOfNumbers();
        items();
        octaves();
        weights();
        timesOfItems();
        repetitions();
        chords();
        groups();
        endOfText();
        firstFault();
        leastKind();
        badPitches();
        samePitches();
        tooManyNotes();
        pitchAheadOfLength();
        numbering();
        Bench.end();
    }

    private static void taken(String text, int notes) {
        MusicBoxShop shop = new MusicBoxShop();
        Bench.due("read " + text, Bench.read(shop, 0, text), notes);
        Bench.due("fault(0) of " + text, shop.fault(0), 0);
        Bench.due("fault(1) of " + text, shop.fault(1), -1);
        Bench.due("tune(0, 0) of " + text, shop.tune(0, 0), notes);
    }

    private static void refused(String text, int kind, int place) {
        MusicBoxShop shop = new MusicBoxShop();
        Bench.due("read " + text, Bench.read(shop, 0, text), -2);
        Bench.due("fault(0) of " + text, shop.fault(0), kind);
        Bench.due("fault(1) of " + text, shop.fault(1), place);
        Bench.due("tune(0, 0) of " + text, shop.tune(0, 0), -1);
    }

    /** TICK, PITCH and WEIGHT of each NOTE. */
    private static void reads(String text, int... notes) {
        MusicBoxShop shop = new MusicBoxShop();
        Bench.due("read " + text, Bench.read(shop, 0, text), notes.length / 3);
        for (int n = 0; n < notes.length; n++) {
            Bench.due(text + ", note(0, " + n / 3 + ", " + n % 3 + ")",
                    Bench.note(shop, 0, n / 3, n % 3), notes[n]);
        }
    }

    private static void newObject() {
        Bench.sentence("No TEETH, no TUNES, an empty tape.");
        MusicBoxShop shop = new MusicBoxShop();
        for (int k = 0; k < 60; k++) {
            Bench.due("comb(" + k + ", 0)", shop.comb(k, 0), -1);
        }
        for (int t = 0; t < 6; t++) {
            for (int what = 0; what < 8; what++) {
                Bench.due("tune(" + t + ", " + what + ")", shop.tune(t, what), -1);
            }
            Bench.due("note(t, 0, 0)", Bench.note(shop, t, 0, 0), Bench.THROWS);
            Bench.due("fit(t, 0)", shop.fit(t, 0), -1);
            Bench.due("keeps(t, 0, 0)", shop.keeps(t, 0, 0), -1);
            Bench.due("best(t)", shop.best(t), 99);
            Bench.due("fewest(t)", shop.fewest(t), -1);
            Bench.due("pin(t, 0)", shop.pin(t, 0), -1);
            Bench.due("start(t, 0)", shop.start(t, 0), false);
        }
        Bench.due("crowds()", shop.crowds(), 0);
        Bench.due("arrange()", shop.arrange(), 0);
        Bench.due("listen()", shop.listen(), 0);
        Bench.due("faults()", shop.faults(), 0);
        Bench.due("read(1, 0)", shop.read(1, 0), -1);
        Bench.due("feed", shop.feed(0, 0, 0, 0, 0), 20);
        Bench.due("tooth(0)", shop.tooth(0), 0);
    }

    private static void lastCall() {
        Bench.sentence("An object is used for at most 512 calls after it has been made");
        MusicBoxShop shop = new MusicBoxShop();
        int calls = 0;
        for (int k = 0; k < 60; k++) {
            calls++;
            Bench.due("tooth", shop.tooth(20 + k), k);
        }
        for (int n = 0; n < 150; n++) {
            calls += 3;
            Bench.due("feed", shop.feed(0x63342064, 0x34206534, 0x20663420, 0x67342061, 0x34206234),
                    20);
            Bench.due("read", shop.read(20, n % 6), 7);
            Bench.due("pin", shop.pin(n % 6, 0), 7);
        }
        Bench.due("call 511: crowds()", shop.crowds(), 5 * 7);
        Bench.due("call 512: arrange()", shop.arrange(), 3 * (1 + 3));
        Bench.due("calls ahead of these", calls, 510);
    }

    /** 800 bytes, 200 of them NOTES or pauses, which no other order of the bytes would give. */
    private static String fullText() {
        StringBuilder text = new StringBuilder();
        for (int n = 0; n < 200; n++) {
            text.append(n % 2 == 0 ? LETTERS.charAt(n % 7) : 'r');
            text.append(n % 2 == 0 ? String.valueOf(1 + n / 2 % 7) : "/");
            text.append(n % 2 == 0 ? "/1" : "3 ");
        }
        return text.toString();
    }

    private static void feedFull() {
        Bench.sentence("how many it has; NONE if there would be more than 800");
        String text = fullText();
        Bench.due("the text's length", text.length(), 800);
        MusicBoxShop shop = new MusicBoxShop();
        for (int n = 1; n <= 40; n++) {
            Bench.due("feed " + n, shop.feed(0x63342064, 0x34206534, 0x20663420, 0x67342061,
                    0x34206234), 20 * n);
        }
        for (int n = 41; n <= 43; n++) {
            Bench.due("feed " + n, shop.feed(-1, -1, -1, -1, -1), -1);
        }
        Bench.unchanged("feed, the 41st", made -> Bench.feed(made, text),
                made -> made.feed(0x20202020, 0x20202020, 0x20202020, 0x20202020, 0x20202020), -1);
        MusicBoxShop full = new MusicBoxShop();
        Bench.feed(full, text);
        full.feed(0, 0, 0, 0, 0);
        Bench.due("read(801, 0)", full.read(801, 0), -1);
        Bench.due("read(800, 0)", full.read(800, 0), 100);
        Bench.due("feed behind it", full.feed(0, 0, 0, 0, 0), 20);
        MusicBoxShop nearly = new MusicBoxShop();
        Bench.feed(nearly, text.substring(0, 780));
        Bench.due("feed, to 800", nearly.feed(0, 0, 0, 0, 0), 800);
    }

    private static void feedOrder() {
        Bench.sentence("Twenty bytes come behind those on the tape, the highest of each int first");
        MusicBoxShop shop = new MusicBoxShop();
        shop.feed(0x63316432, 0x65336634, 0x67356136, 0x62376338, 0x64316532);
        shop.feed(0x66336734, 0x61356236, 0x63376438, 0x65316632, 0x67336134);
        Bench.due("read(40, 0)", shop.read(40, 0), 20);
        Bench.due("the pitches", Bench.notes(shop, 0, 1), 0, 14, 28, 41, 55, 69, 83, 84, 2, 16, 29,
                43, 57, 71, 72, 86, 4, 17, 31, 45);
        // A byte of 128 or more makes its int less than 0, and is no TOKEN wherever it stands.
        for (int at = 0; at < 20; at++) {
            int[] words = {0x20202020, 0x20202020, 0x20202020, 0x20202020, 0x20202020};
            words[at / 4] |= 0x80 << (24 - 8 * (at % 4));
            MusicBoxShop high = new MusicBoxShop();
            high.feed(words[0], words[1], words[2], words[3], words[4]);
            Bench.due("read(20, 0), byte " + at, high.read(20, 0), -2);
            Bench.due("fault(0), byte " + at, high.fault(0), 1);
            Bench.due("fault(1), byte " + at, high.fault(1), at);
        }
    }

    /** A shop with something of each kind, 40 bytes on its tape, and a FAULT. */
    private static void busy(MusicBoxShop shop) {
        shop.tooth(36);
        shop.tooth(38);
        Bench.read(shop, 0, "c4 d4 c4");
        Bench.read(shop, 1, "c4 d4");
        Bench.read(shop, 3, "e4");
        shop.pin(0, 0);
        shop.pin(1, 0);
        shop.start(0, 7);
        shop.bend(0, 1, true);
        shop.silent(0, 2, true);
        shop.rest(5);
        Bench.read(shop, 0, "c4 d4 ]");
        Bench.feed(shop, "c1 d1 e1 f1 g1 a1 b1 c2 d2 e2 f2 g2 a2 b");
    }

    private static void readCounts() {
        Bench.sentence("NONE, and nothing happens, if n is below 0, or the tape has not so many");
        for (int n : new int[] {-1, -2, -40, Bench.MIN, 41, 42, 60, 800, 801, Bench.MAX}) {
            Bench.unchanged("read(" + n + ", 0)", TextEdgeTest::busy, shop -> shop.read(n, 0), -1);
        }
        Bench.unchanged("read(1, 0), an empty tape", shop -> { }, shop -> shop.read(1, 0), -1);
        Bench.unchanged("read(-1, 0), an empty tape", shop -> { }, shop -> shop.read(-1, 0), -1);
        Bench.sentence("The first n bytes of the tape (which is empty then) are a TEXT");
        for (int n : new int[] {0, 2, 20, 21, 38, 39, 40}) {
            MusicBoxShop shop = new MusicBoxShop();
            busy(shop);
            boolean whole = n % 3 != 1;
            Bench.due("read(" + n + ", 2)", shop.read(n, 2), whole ? (n + 1) / 3 : -2);
            Bench.due("read(1, 2) behind read(" + n + ", 2)", shop.read(1, 2), -1);
            Bench.due("feed behind read(" + n + ", 2)", shop.feed(0, 0, 0, 0, 0), 20);
        }
        MusicBoxShop empty = new MusicBoxShop();
        Bench.due("read(0, 0), an empty tape", empty.read(0, 0), 0);
        Bench.due("tune(0, 0)", empty.tune(0, 0), 0);
        Bench.feed(empty, "h");
        Bench.due("read(0, 1), a full one", empty.read(0, 1), 0);
        Bench.due("read(1, 1)", empty.read(1, 1), -1);
    }

    private static void readTunes() {
        Bench.sentence("NONE, and nothing happens, if .. there is no such TUNE");
        for (int t : new int[] {-1, 6, 7, Bench.MIN, Bench.MAX}) {
            Bench.unchanged("read(38, " + t + ")", TextEdgeTest::busy, shop -> shop.read(38, t), -1);
            Bench.unchanged("read(0, " + t + ")", TextEdgeTest::busy, shop -> shop.read(0, t), -1);
        }
        Bench.sentence("at most 6, 0 to 5");
        MusicBoxShop shop = new MusicBoxShop();
        for (int t = 0; t < 6; t++) {
            Bench.due("read, tune " + t, Bench.read(shop, t, Bench.times("c4 ", t)), t);
        }
        for (int t = 0; t < 6; t++) {
            Bench.due("tune(" + t + ", 0)", shop.tune(t, 0), t);
        }
    }

    private static void readFaultStays() {
        Bench.sentence("-2 with a FAULT, and TUNE t stays");
        for (int t = 0; t < 6; t++) {
            int tune = t;
            // The tape holds "b" without its octave at the end.
            Bench.changesOnly("read(40, " + t + ")", TextEdgeTest::busy,
                    shop -> shop.read(40, tune), -2, "tape", "fault ");
        }
        for (String text : new String[] {"c4 h", "c4)", "(((((", "e8", "(r/96)5c4"}) {
            Bench.changesOnly("read " + text, shop -> {
                busy(shop);
                shop.read(0, 4);
                Bench.feed(shop, text);
            }, shop -> shop.read(text.length(), 0), -2, "tape", "fault ");
        }
        Bench.sentence("The first n bytes of the tape (which is empty then)");
        MusicBoxShop shop = new MusicBoxShop();
        busy(shop);
        shop.read(40, 0);
        Bench.due("read(1, 0)", shop.read(1, 0), -1);
        Bench.due("feed", shop.feed(0, 0, 0, 0, 0), 20);
    }

    private static void readAnew() {
        Bench.sentence("A TUNE that is read anew .. has no SILENT NOTES, no BENT PINS, and START 0");
        MusicBoxShop shop = new MusicBoxShop();
        busy(shop);
        Bench.due("read(38, 0)", shop.read(38, 0), 13);
        int[] whats = {13, 130, 0, 0, 0, 0, 0, 0};
        for (int what = 0; what < 8; what++) {
            Bench.due("tune(0, " + what + ")", shop.tune(0, what), whats[what]);
        }
        for (int what = 4; what < 7; what++) {
            Bench.due("note(0, i, " + what + ")", Bench.notes(shop, 0, what), new int[13]);
        }
        Bench.due("faults()", shop.faults(), 0);
        Bench.due("comb(0, 2), of tune 1 alone", shop.comb(0, 2), 1);
        // The very same text once more is anew too.
        MusicBoxShop same = Bench.shopWith(36);
        Bench.read(same, 0, "c4 c4");
        same.pin(0, 0);
        same.start(0, 63);
        same.bend(0, 1, true);
        same.silent(0, 0, true);
        Bench.due("read", Bench.read(same, 0, "c4 c4"), 2);
        Bench.due("tune(0, 2)", same.tune(0, 2), 0);
        Bench.due("pin(0, 0)", same.pin(0, 0), 2);
        Bench.due("tune(0, 4)", same.tune(0, 4), 0);
        Bench.due("note(0, i, 5)", Bench.notes(same, 0, 5), 0, 0);
        Bench.due("note(0, i, 6)", Bench.notes(same, 0, 6), 0, 0);
        // A shorter one leaves nothing of the longer one.
        Bench.due("read", Bench.read(same, 0, "c4"), 1);
        Bench.due("note(0, 1, 0)", Bench.note(same, 0, 1, 0), Bench.THROWS);
        Bench.due("tune(0, 1)", same.tune(0, 1), 10);
    }

    private static void faultWhats() {
        Bench.sentence("NONE for others, and ahead of any.");
        int[] whats = {Bench.MIN, -2, -1, 0, 1, 2, 3, Bench.MAX};
        MusicBoxShop shop = new MusicBoxShop();
        for (int what : whats) {
            Bench.due("fault(" + what + ") ahead of any", shop.fault(what), -1);
        }
        shop.read(1, 0);
        shop.read(0, 6);
        shop.read(-1, 0);
        for (int what : whats) {
            Bench.due("fault(" + what + ") behind NONE alone", shop.fault(what), -1);
        }
        Bench.sentence("what 0: the FAULT (0 without one), 1: its place (NONE without)");
        shop.read(0, 0);
        for (int what : whats) {
            Bench.due("fault(" + what + ") without", shop.fault(what), what == 0 ? 0 : -1);
        }
        Bench.read(shop, 0, "c4 d4 9");
        for (int what : whats) {
            int want = what == 0 ? 2 : what == 1 ? 6 : -1;
            Bench.due("fault(" + what + ")", shop.fault(what), want);
        }
        Bench.sentence("Of the latest read() that was not NONE");
        Bench.feed(shop, "h");
        shop.read(21, 0);
        shop.read(1, 6);
        shop.read(-1, 0);
        Bench.due("fault(0) behind NONE", shop.fault(0), 2);
        Bench.due("fault(1) behind NONE", shop.fault(1), 6);
        shop.read(1, 5);
        Bench.due("fault(0) of the next", shop.fault(0), 1);
        Bench.due("fault(1) of the next", shop.fault(1), 0);
        shop.read(0, 2);
        Bench.due("fault(0) of one without", shop.fault(0), 0);
        Bench.due("fault(1) of one without", shop.fault(1), -1);
        for (int what : whats) {
            Bench.unchanged("fault(" + what + ")", TextEdgeTest::busy, made -> made.fault(what),
                    what == 0 ? 2 : what == 1 ? 6 : -1);
        }
    }

    private static void pitches() {
        Bench.sentence("c d e f g a b of octave 1 are 0 2 4 5 7 9 11, of octave n 12 (n - 1) more;"
                + " # is 1 more .. a NOTE whose PITCH is above 87");
        for (int octave = 1; octave <= 8; octave++) {
            for (int n = 0; n < 14; n++) {
                String sharp = n % 2 == 0 ? "" : "#";
                String text = LETTERS.substring(n / 2, n / 2 + 1) + sharp + octave;
                int pitch = LETTER_PITCHES[n / 2] + n % 2 + 12 * (octave - 1);
                if (pitch <= 87) {
                    reads(text, 0, pitch, 10);
                } else {
                    refused(text, 4, 0);
                }
            }
        }
    }

    private static void ticks() {
        Bench.sentence("the cylinder has a LENGTH of 480 TICKS .. or one at a TICK above 479");
        reads("c4/96", 0, 36, 10);
        reads("(r/96)4 r/94 c4/1 d4/96", 478, 36, 10, 479, 38, 10);
        refused("(r/96)4 r/95 c4/1 d4/96", 5, 23);
        reads("(r/96)4 r/95 [c4 d4]", 479, 36, 10, 479, 38, 10);
        refused("(r/96)5 [c4 d4]", 5, 15);
        refused("(r/96)5 r/1 c4", 5, 14);
        taken("(r/96)5", 0);
        taken("c4 (r/96)20 r/96", 1);
        // Without a TIME an ITEM takes 6.
        reads("(r/96)4 r/89 c4 r", 473, 36, 10);
        reads("(r/96)4 r/83 c4 r d4/96", 467, 36, 10, 479, 38, 10);
        refused("(r/96)4 r/84 (c4)3", 5, 18);
    }

    private static void ticksOfRepetitions() {
        Bench.sentence("ITEMS follow one another by their TIMES; ( .. ) NUMBER: so many times");
        taken("(r/23 c4/1)20", 20);
        refused("r/1 (r/23 c4/1)20", 5, 17);
        taken("r/1 (r/23 c4/1)19", 19);
        taken("((r/23 c4/1)4)5", 20);
        refused("((r/23 c4/1)7)3", 5, 15);
        refused("c4 ((((r/96)20)20)20)20 c4", 5, 26);
        taken("c4 ((((r/96)20)20)20)20", 1);
        // No TIME at all goes by in an empty one.
        reads("c4/3 ((()20)20)20 d4", 0, 36, 10, 3, 38, 10);
    }

    private static void textLength() {
        Bench.sentence("TEXTS have at most 800 bytes.");
        String blanks = Bench.times(" \n", 399);
        taken(blanks + "c4", 1);
        taken("c4" + blanks, 1);
        taken("c" + blanks + "4", 1);
        taken(" \n" + blanks, 0);
        refused(blanks + " c", 2, 800);
        refused(blanks + " h", 1, 799);
        refused(blanks + " 4", 2, 799);
        refused("e8" + blanks, 4, 0);
        refused("(r/96)5c4" + Bench.times(" ", 791), 5, 800);
        refused("c4/" + Bench.times("9", 797), 1, 3);
        refused(Bench.times("1", 800), 1, 0);
        refused(Bench.times("(", 800), 3, 4);
        refused(Bench.times("r", 799) + "(", 2, 800);
        taken(Bench.times("r", 800), 0);
        taken(Bench.times("()1 ", 200), 0);
        taken(Bench.times("c1/1", 150) + Bench.times("r/1 ", 50), 150);
        refused(Bench.times("c1/1", 151) + Bench.times("r/1 ", 49), 5, 800);
        // The most that ( ) can make of a text.
        taken("((((" + Bench.times("r/96", 196) + ")20)20)20)20", 0);
        refused("((((" + Bench.times("c1/96", 156) + ")20)20)20)20", 5, 796);
    }

    /** What a text of one byte is: its notes, or its FAULT by kind and place. */
    private static void bytesAlone() {
        Bench.sentence("LETTERS a to g, r; # ; NUMBERS (1 to 3 digits); SIGNS / * [ ] ( ) .");
        for (int sign = 0; sign < 256; sign++) {
            String text = String.valueOf((char) sign);
            if (sign == 10 || sign == 32 || sign == 'r') {
                taken(text, 0);
            } else if ("abcdefg[(".indexOf(sign) >= 0) {
                refused(text, 2, 1);
            } else if ("#0123456789/*])".indexOf(sign) >= 0) {
                refused(text, 2, 0);
            } else {
                refused(text, 1, 0);
            }
        }
    }

    private static void bytesBetween() {
        Bench.sentence("TOKENS, between them blanks (10, 32) or not");
        for (int sign = 0; sign < 256; sign++) {
            String text = "c4" + (char) sign + "d4";
            if (sign == 10 || sign == 32 || sign == 'r') {
                taken(text, 2);
            } else if (sign >= '0' && sign <= '9') {
                refused(text, 2, 1);
            } else if ("abcdefg/*".indexOf(sign) >= 0) {
                refused(text, 2, 3);
            } else if ("[(".indexOf(sign) >= 0) {
                refused(text, 2, 5);
            } else if ("#])".indexOf(sign) >= 0) {
                refused(text, 2, 2);
            } else {
                refused(text, 1, 2);
            }
        }
    }

    private static void blanks() {
        Bench.sentence("TOKENS, between them blanks (10, 32) or not");
        String[] tokens = {"c", "#", "4", "*", "5", "/", "3", "[", "d", "4", "e", "#", "4", "*",
            "99", "]", "/", "96", "(", "r", "/", "1", "f", "5", ")", "2"};
        int[] notes = {0, 37, 5, 3, 38, 10, 3, 41, 99, 100, 53, 10, 107, 53, 10};
        for (String blank : new String[] {"", " ", "\n", " \n ", "\n\n"}) {
            reads(blank + String.join(blank, tokens) + blank, notes);
        }
        for (String other : new String[] {"\t", "\r", "\0", "\u000b", "\u00a0"}) {
            refused("c" + other + "4", 1, 1);
        }
        // A blank ends a NUMBER.
        refused("c4/1 2", 2, 5);
        refused("c4*1 0", 2, 5);
        refused("(c4)1 0", 2, 6);
        refused("c4/1\n000", 2, 5);
        taken("c1 c2", 2);
        refused("c1 2", 2, 3);
    }

    private static void digitsOfNumbers() {
        Bench.sentence("NUMBERS (1 to 3 digits) .. 1 no TOKEN (a NUMBER too long: at its first"
                + " byte)");
        String[] before = {"c4*", "c4/", "r/", "[c4]/", "(c4)"};
        for (String text : before) {
            int notes = text.equals("(c4)") ? 7 : text.equals("r/") ? 0 : 1;
            taken(text + "7", notes);
            taken(text + "07", notes);
            taken(text + "007", notes);
            refused(text + "0007", 1, text.length());
            refused(text + "00007", 1, text.length());
            refused(text + "1000", 1, text.length());
            refused(text + "999", 2, text.length());
            refused(text + "000", 2, text.length());
            refused(text + "9999 h", 1, text.length());
        }
        refused("c1111", 1, 1);
        refused("c111", 2, 1);
        refused("0000", 1, 0);
        refused("000", 2, 0);
        // Values beyond an int, and beyond a long.
        refused("c4/4294967302", 1, 3);
        refused("c4/18446744073709551622", 1, 3);
    }

    private static void items() {
        Bench.sentence("TEXT: {ITEM}.  ITEM: NOTE TIME, or r TIME (a pause), or [ NOTE {NOTE} ]"
                + " TIME, or ( {ITEM} ) NUMBER.");
        taken("", 0);
        taken("\n", 0);
        taken("r", 0);
        taken("r/1", 0);
        taken("()1", 0);
        taken("[c4]", 1);
        taken("c4", 1);
        for (String text : new String[] {"r#", "r4", "r*5", "r]", "r)"}) {
            refused(text, 2, 1);
        }
        for (String text : new String[] {"r/r", "r/#", "r//", "r/*", "r/[", "r/(", "r/)"}) {
            refused(text, 2, 2);
        }
        for (String text : new String[] {"c/4", "c*4", "cr", "cc", "c[", "c(", "c)", "c]"}) {
            refused(text, 2, 1);
        }
        for (String text : new String[] {"c#/4", "c##4", "c#c", "c#r", "c#]", "c#)"}) {
            refused(text, 2, 2);
        }
        for (String text : new String[] {"c4#", "c4]", "c4)"}) {
            refused(text, 2, 2);
        }
        refused("c4/3*5", 2, 4);
        refused("c4/3/3", 2, 4);
        refused("c4*5*5", 2, 4);
        refused("c4/3 3", 2, 5);
        refused("c4*5 5", 2, 5);
        refused("[c4/3]", 2, 3);
        refused("[c4]*5", 2, 4);
        refused("[c4]4", 2, 4);
        refused("[(c4)1]", 2, 1);
        refused("[r]", 2, 1);
        refused("[c4r]", 2, 3);
        refused("[c4[d4]]", 2, 3);
        refused("[c4)", 2, 3);
        refused("(c4]", 2, 3);
        refused("(c4)/3", 2, 4);
        refused("(c4)*3", 2, 4);
        refused("(c4)c4", 2, 4);
        refused("(c4)2/3", 2, 5);
        refused("(c4)2 2", 2, 6);
        refused("(c4)2)2", 2, 5);
        refused("(c4/)2", 2, 4);
        refused("(c)2", 2, 2);
    }

    private static void octaves() {
        Bench.sentence("a digit 1 to 8 (a NUMBER of one digit)");
        for (int octave = 0; octave <= 9; octave++) {
            if (octave >= 1 && octave <= 8) {
                reads("c" + octave, 0, 12 * (octave - 1), 10);
                reads("[c#" + octave + "]", 0, 12 * (octave - 1) + 1, 10);
            } else {
                refused("c" + octave, 2, 1);
                refused("c#" + octave, 2, 2);
                refused("[d4c" + octave + "]", 2, 4);
            }
            refused("c0" + octave, 2, 1);
            refused("c00" + octave, 2, 1);
            refused("c1" + octave, 2, 1);
            refused("c" + octave + "0", 2, 1);
        }
        refused("c 10", 2, 2);
    }

    private static void weights() {
        Bench.sentence("perhaps * NUMBER (its WEIGHT, 1 to 99; without: 10)");
        for (int weight = 0; weight <= 120; weight++) {
            if (weight >= 1 && weight <= 99) {
                reads("c4*" + weight, 0, 36, weight);
                reads("[c4*" + weight + "d4]", 0, 36, weight, 0, 38, 10);
            } else {
                refused("c4*" + weight, 2, 3);
                refused("[d4c4*" + weight + "]", 2, 6);
            }
        }
        reads("c4", 0, 36, 10);
        reads("[c4]", 0, 36, 10);
        reads("[c4*1 d4 e4*99]", 0, 36, 1, 0, 38, 10, 0, 40, 99);
        reads("c4*001", 0, 36, 1);
        reads("c4*099", 0, 36, 99);
        refused("c4*00", 2, 3);
        refused("c4*", 2, 3);
        refused("c4*/3", 2, 3);
        refused("c4**3", 2, 3);
        refused("c4*r", 2, 3);
    }

    private static void timesOfItems() {
        Bench.sentence("TIME: / NUMBER (1 to 96), or nothing (6).");
        for (int time = 0; time <= 120; time++) {
            if (time >= 1 && time <= 96) {
                reads("c4/" + time + " d4", 0, 36, 10, time, 38, 10);
                reads("r/" + time + " d4", time, 38, 10);
                reads("[c4]/" + time + " d4", 0, 36, 10, time, 38, 10);
            } else {
                refused("c4/" + time, 2, 3);
                refused("r/" + time, 2, 2);
                refused("[c4]/" + time, 2, 5);
            }
        }
        reads("c4 d4", 0, 36, 10, 6, 38, 10);
        reads("r d4", 6, 38, 10);
        reads("[c4] d4", 0, 36, 10, 6, 38, 10);
        reads("c4*3 d4", 0, 36, 3, 6, 38, 10);
        refused("c4/", 2, 3);
        refused("r/", 2, 2);
        refused("c4/ d4", 2, 4);
    }

    private static void repetitions() {
        Bench.sentence("( .. ) NUMBER: so many times (1 to 20) one behind the other");
        for (int times = 0; times <= 40; times++) {
            String text = "(c4/7)" + times;
            if (times < 1 || times > 20) {
                refused(text, 2, 6);
                continue;
            }
            MusicBoxShop shop = new MusicBoxShop();
            Bench.due("read " + text, Bench.read(shop, 0, text + "d4"), times + 1);
            for (int i = 0; i <= times; i++) {
                Bench.due("the tick in " + text, Bench.note(shop, 0, i, 0), 7 * i);
            }
        }
        refused("()0", 2, 2);
        refused("()21", 2, 2);
        taken("()20", 0);
        refused("(c4)", 2, 4);
        refused("(c4) ", 2, 5);
        reads("((c4/2)2 d4/3)2", 0, 36, 10, 2, 36, 10, 4, 38, 10, 7, 36, 10, 9, 36, 10, 11, 38, 10);
        reads("([d4 c4*5]/1)2", 0, 36, 5, 0, 38, 10, 1, 36, 5, 1, 38, 10);
    }

    private static void chords() {
        Bench.sentence("3 one too many: .. a 13th NOTE of a [ ] (at its LETTER)");
        refused("[]", 2, 1);
        refused("[ ]", 2, 2);
        reads("[c1]", 0, 0, 10);
        taken("[" + TWELVE + "]", 12);
        refused("[" + TWELVE + "a2]", 3, 25);
        refused("[" + TWELVE + " a", 3, 26);
        refused("[" + TWELVE + "\n#", 2, 26);
        refused("[" + TWELVE + "*5a2*0]", 3, 27);
        refused("[" + TWELVE + "*a", 2, 26);
        refused("[" + TWELVE + "r", 2, 25);
        refused("[" + TWELVE + "[", 2, 25);
        refused("[" + TWELVE + "h", 1, 25);
        refused("[" + TWELVE, 2, 25);
        // Each [ ] has twelve of its own.
        taken("[" + TWELVE + "][" + TWELVE + "]c3", 25);
        refused("[" + TWELVE + "][" + TWELVE + "c3]", 3, 51);
        taken("[" + TWELVE + "]a2 b2", 14);
        taken("([" + TWELVE + "]/1)12", 144);
    }

    private static void groups() {
        Bench.sentence("3 one too many: a fifth ( within one another");
        taken("(c4)1", 1);
        taken("((((c4)1)1)1)1", 1);
        refused("(((((c4)1)1)1)1)1", 3, 4);
        refused("(((( (", 3, 5);
        refused("((((c4(", 3, 6);
        refused("((((r/3\n(", 3, 8);
        refused("((((c(", 2, 5);
        refused("((((c4/(", 2, 7);
        refused("((((c4*(", 2, 7);
        refused("(((([(", 2, 5);
        refused("(((([c4(", 2, 7);
        refused("((((c4)(", 2, 7);
        refused("(((()1(((", 3, 7);
        // Closed ones are no more around: there may be many side by side.
        taken("((((c4)1(d4)1)1(e4)1)1(f4)1)1", 4);
        taken(Bench.times("((((c4/1)1)1)1)1 ", 20), 20);
        refused("((((c4)1(d4)1(e4(", 3, 16);
        refused("((((c4)1)1)1((((", 3, 15);
        refused("((((c4)1)1)1)1(((((", 3, 18);
    }

    private static void endOfText() {
        Bench.sentence("2 it can't stand there (the end: the text's length");
        String[] open = {"c", "c#", "c4*", "c4/", "r/", "[", "[c", "[c#", "[c4", "[c4*", "[c4*5",
            "[c4]/", "(", "(c4", "(c4/3", "(c4)", "()", "(()1", "((((", "c4 d4 e"};
        for (String text : open) {
            refused(text, 2, text.length());
            refused(text + " ", 2, text.length() + 1);
            refused(text + " \n \n", 2, text.length() + 4);
        }
        // What stands on the tape behind the text is not of it.
        MusicBoxShop shop = new MusicBoxShop();
        Bench.feed(shop, "c4 d4/12");
        Bench.due("read(4, 0)", shop.read(4, 0), -2);
        Bench.due("fault(0)", shop.fault(0), 2);
        Bench.due("fault(1)", shop.fault(1), 4);
        Bench.feed(shop, "c4/12 d4");
        Bench.due("read(3, 0)", shop.read(3, 0), -2);
        Bench.due("fault(1)", shop.fault(1), 3);
        Bench.feed(shop, "c4/12345");
        Bench.due("read(5, 0)", shop.read(5, 0), 1);
        Bench.feed(shop, "c4/0121");
        Bench.due("read(6, 0)", shop.read(6, 0), 1);
        Bench.feed(shop, "c4/0121");
        Bench.due("read(7, 0)", shop.read(7, 0), -2);
        Bench.due("fault(0)", shop.fault(0), 1);
    }

    private static void firstFault() {
        Bench.sentence("FAULTS, the first along the text");
        refused("h ]", 1, 0);
        refused("] h", 2, 0);
        refused("c4 h (((((", 1, 3);
        refused("((((( h", 3, 4);
        refused("((((( ]", 3, 4);
        refused("] (((((", 2, 0);
        refused("[" + TWELVE + "a2 h", 3, 25);
        refused("c4/1234 c4/", 1, 3);
        refused("c4/ 1234", 1, 4);
        refused("c4/97 1234", 2, 3);
    }

    private static void leastKind() {
        Bench.sentence("(of one TOKEN the least kind)");
        // No TOKEN where none, or one too many, could stand.
        refused("chc4", 1, 1);
        refused("c1234", 1, 1);
        refused("1234", 1, 0);
        refused("(c4)h", 1, 4);
        refused("((((h", 1, 4);
        refused("[" + TWELVE + "h2", 1, 25);
        // One too many where it can't stand.
        refused("((((c(", 2, 5);
        refused("((((c#(", 2, 6);
        refused("[" + TWELVE + "*c", 2, 26);
    }

    private static void badPitches() {
        Bench.sentence("Without these, at the text's end: 4 a NOTE whose PITCH is above 87 .. (the"
                + " first such one's LETTER)");
        taken("d#8", 1);
        taken("[d8 d#8]", 2);
        refused("e8", 4, 0);
        refused("d#8 e8", 4, 4);
        refused("c4 \n b#8", 4, 5);
        refused("e8 f8 g8", 4, 0);
        refused("[c4 e # 8 * 5 ]", 4, 4);
        refused("(e8)20", 4, 1);
        // Those of the text ahead of it, wherever they stand.
        refused("e8 h", 1, 3);
        refused("e8 ]", 2, 3);
        refused("e8 c", 2, 4);
        refused("e8 (((((", 3, 7);
        refused("[e8" + TWELVE + "]", 3, 25);
        refused("e8*0", 2, 3);
        refused("e8/97", 2, 3);
        refused("(e8)21", 2, 4);
    }

    private static void samePitches() {
        Bench.sentence("4 a NOTE whose PITCH is .. that of one ahead of it in its [ ]");
        refused("[c4 c4]", 4, 4);
        refused("[c4c4]", 4, 3);
        refused("[c4*5 d4 c4*9]", 4, 9);
        refused("[c4 d4 e4 d4 c4]", 4, 10);
        refused("[b#3 c4]", 4, 5);
        refused("[e#4 f4]", 4, 5);
        refused("[f4 e#4]", 4, 4);
        refused("[c#4 c4 c # 4]", 4, 8);
        taken("[c4 c5 c#4]", 3);
        refused("[c1d1e1f1g1a1b1c2d2e2f2c1]", 4, 23);
        refused("[c1d1e1f1g1a1b1c2d2e2f2f2]", 4, 23);
        // Not with one of another ITEM.
        taken("[c4][c4]", 2);
        taken("c4/1 [c4] c4", 3);
        taken("([c4])20", 20);
        taken("c4 c4", 2);
        // The first such one along the text, of both.
        refused("[c4 c4] e8", 4, 4);
        refused("e8 [c4 c4]", 4, 0);
        refused("[c4 e8 c4]", 4, 4);
        refused("[c4 c4 e8]", 4, 4);
        refused("[e8 e8]", 4, 1);
        refused("[c4 c4] [d4 d4]", 4, 4);
        // With faults of the text behind it, those.
        refused("[c4 c4] h", 1, 8);
        refused("[c4 c4", 2, 6);
        refused("[c4 c4*100]", 2, 7);
        refused("[c1c1c1c1c1c1c1c1c1c1c1c1c1]", 3, 25);
    }

    private static void tooManyNotes() {
        Bench.sentence("5 the TUNE has more than 150 NOTES (place: the text's length)");
        taken("((c4/1)10)15", 150);
        refused("((c4/1)10)15c4", 5, 14);
        refused("((c4/1)10)15 c4 \n", 5, 17);
        taken("((c4/1)10)15 r", 150);
        refused("(((c4/1)10)15)2", 5, 15);
        refused("((c4/1)19)8", 5, 11);
        taken("([" + TWELVE + "]/1)12 [c1d1e1f1g1a1]", 150);
        refused("([" + TWELVE + "]/1)12 [c1d1e1f1g1a1b1]", 5, 49);
        refused("([" + TWELVE + "]/1)13", 5, 32);
        refused("((((c4/1)20)20)20)20", 5, 20);
        taken("((((r/1)20)20)20)20", 0);
        // Fewer than 150 NOTES, but the 20th one is too late.
        refused("(c4/26)20", 5, 9);
        // More than 150, and too late as well.
        refused("((c4/4)20)10", 5, 12);
        MusicBoxShop shop = new MusicBoxShop();
        Bench.read(shop, 0, "((c4*99/3)10)15");
        Bench.due("tune(0, 0)", shop.tune(0, 0), 150);
        Bench.due("tune(0, 1)", shop.tune(0, 1), 150 * 99);
        Bench.due("note(0, 149, 0)", Bench.note(shop, 0, 149, 0), 447);
        Bench.due("note(0, 150, 0)", Bench.note(shop, 0, 150, 0), Bench.THROWS);
    }

    private static void pitchAheadOfLength() {
        Bench.sentence("4 ahead of 5.");
        refused("((c4/1)10)16 e8", 4, 13);
        refused("((c4/1)10)16 [c4 c4]", 4, 17);
        refused("(r/96)5 c4 e8", 4, 11);
        refused("(r/96)5 e8", 4, 8);
        refused("e8 (r/96)5 c4", 4, 0);
        refused("(e8/1)20(e8/1)20(e8/1)20(e8/1)20(e8/1)20(e8/1)20(e8/1)20(e8/1)20", 4, 1);
        Bench.sentence("Without these, at the text's end: .. 5");
        refused("((c4/1)10)16 h", 1, 13);
        refused("((c4/1)10)16 ]", 2, 13);
        refused("((c4/1)10)16 c", 2, 14);
        refused("((c4/1)10)16 (((((", 3, 17);
        refused("(r/96)5 c4 h", 1, 11);
    }

    private static void numbering() {
        Bench.sentence("NOTES of a TUNE are numbered by TICKS, of one TICK by PITCHES.");
        MusicBoxShop shop = new MusicBoxShop();
        Bench.read(shop, 0, "[g2*12f2*11e2*10d2*9c2*8b1*7a1*6g1*5f1*4e1*3d1*2c1*1]/1 [b8 d#8 c1]");
        Bench.due("fault(0): b8", shop.fault(0), 4);
        Bench.read(shop, 0, "[g2*12f2*11e2*10d2*9c2*8b1*7a1*6g1*5f1*4e1*3d1*2c1*1]/1 [b7 d#8 c1]");
        Bench.due("the pitches", Bench.notes(shop, 0, 1), 0, 2, 4, 5, 7, 9, 11, 12, 14, 16, 17, 19,
                0, 83, 87);
        Bench.due("the weights", Bench.notes(shop, 0, 2), 1, 2, 3, 4, 5, 6, 7, 8, 9, 10, 11, 12, 10,
                10, 10);
        Bench.due("the ticks", Bench.notes(shop, 0, 0), 0, 0, 0, 0, 0, 0, 0, 0, 0, 0, 0, 0, 1, 1,
                1);
        // c#4 and d4 lie above c4, whatever their letters are; b#3 is c4.
        reads("[d4 c#4 b#3]", 0, 36, 10, 0, 37, 10, 0, 38, 10);
    }
}

import java.util.NoSuchElementException;

/** Each promise of the document by hand: ordinary inputs, the named edges and wrong inputs. */
public final class PromiseTest {
    private static final int THROWS = -77;
    private static int wrong = 0;
    private static String promise = "";

    public static void main(String[] args) {
        newObject();
        feed();
        read();
        readRepeats();
        fault();
        faultsOfTexts();
        fullTexts();
        tune();
        note();
        tooth();
        comb();
        breaks();
        rest();
        fit();
        keepsFirst();
        best();
        fewest();
        pin();
        pinTeeth();
        tear();
        start();
        crowds();
        crowd();
        crowdAcrossTeeth();
        arrange();
        arrangeNone();
        arrangeSpent();
        arrangeEdges();
        bend();
        silent();
        listen();
        faults();
        suspect();
        plucks();
        wildArguments();
        System.out.println(wrong == 0 ? "all promises hold" : wrong + " answers are not as due");
        if (wrong != 0) {
            System.exit(1);
        }
    }

    private static void due(String call, long got, long want) {
        if (got != want) {
            wrong++;
            System.out.println(promise + ": " + call + " answered " + got + ", due is " + want);
        }
    }

    private static void due(String call, boolean got, boolean want) {
        due(call, got ? 1 : 0, want ? 1 : 0);
    }

    private static int byteAt(String text, int at) {
        return at < text.length() ? text.charAt(at) & 255 : '?';
    }

    private static int word(String text, int at) {
        return byteAt(text, at) << 24 | byteAt(text, at + 1) << 16
                | byteAt(text, at + 2) << 8 | byteAt(text, at + 3);
    }

    private static void feedText(MusicBoxShop shop, String text) {
        for (int at = 0; at < text.length(); at += 20) {
            shop.feed(word(text, at), word(text, at + 4), word(text, at + 8), word(text, at + 12),
                    word(text, at + 16));
        }
    }

    private static int readText(MusicBoxShop shop, int t, String text) {
        feedText(shop, text);
        return shop.read(text.length(), t);
    }

    private static int note(MusicBoxShop shop, int t, int i, int what) {
        try {
            return shop.note(t, i, what);
        } catch (NoSuchElementException e) {
            return THROWS;
        }
    }

    private static MusicBoxShop shopWith(int... pitches) {
        MusicBoxShop shop = new MusicBoxShop();
        for (int pitch : pitches) {
            shop.tooth(pitch);
        }
        return shop;
    }

    private static void newObject() {
        promise = "1 a new object";
        MusicBoxShop shop = new MusicBoxShop();
        due("comb(0, 0)", shop.comb(0, 0), -1);
        for (int t = -1; t <= 6; t++) {
            due("tune(t, 0)", shop.tune(t, 0), -1);
            due("note(t, 0, 0)", note(shop, t, 0, 0), THROWS);
        }
        due("read(1, 0)", shop.read(1, 0), -1);
        due("fault(0)", shop.fault(0), -1);
        due("fault(1)", shop.fault(1), -1);
        due("tooth(5)", shop.tooth(5), 0);
        due("feed", shop.feed(0, 0, 0, 0, 0), 20);
        due("NONE", MusicBoxShop.NONE, -1);
    }

    private static void feed() {
        promise = "2 feed";
        MusicBoxShop shop = new MusicBoxShop();
        for (int n = 1; n <= 40; n++) {
            due("feed " + n, shop.feed(0x63342064, 0x34206534, 0x20663420, 0x67342061, 0x34206234),
                    20 * n);
        }
        due("feed 41", shop.feed(0, 0, 0, 0, 0), -1);
        due("feed 42", shop.feed(0, 0, 0, 0, 0), -1);
        due("read(19, 0)", shop.read(19, 0), -2);
        due("fault(1)", shop.fault(1), 19);
        due("feed", shop.feed(0x63342064, 0x34206534, 0x20663420, 0x67342061, 0x34206234), 20);
        due("read(20, 0)", shop.read(20, 0), 7);
        int[] pitches = {36, 38, 40, 41, 43, 45, 47};
        for (int i = 0; i < pitches.length; i++) {
            due("note(0, i, 1)", note(shop, 0, i, 1), pitches[i]);
        }
        shop.feed(0x20202020, 0x20202020, 0x20200a20, 0x2020ff20, 0x20202020);
        due("read(20, 1)", shop.read(20, 1), -2);
        due("fault(0)", shop.fault(0), 1);
        due("fault(1)", shop.fault(1), 14);
    }

    private static void read() {
        promise = "3 read";
        MusicBoxShop shop = shopWith(36);
        due("read(0, 5)", shop.read(0, 5), 0);
        feedText(shop, "c4 d4 e4");
        due("read(-1, 0)", shop.read(-1, 0), -1);
        due("read(21, 0)", shop.read(21, 0), -1);
        due("read(8, -1)", shop.read(8, -1), -1);
        due("read(8, 6)", shop.read(8, 6), -1);
        due("fault(0)", shop.fault(0), 0);
        due("feed", shop.feed(0, 0, 0, 0, 0), 40);
        due("read(5, 0)", shop.read(5, 0), 2);
        due("read(1, 0)", shop.read(1, 0), -1);
        shop.pin(0, 0);
        shop.start(0, 7);
        shop.bend(0, 0, true);
        shop.silent(0, 0, true);
        due("read with a fault", readText(shop, 0, "c4 d"), -2);
        due("tune(0, 0) stays", shop.tune(0, 0), 2);
        due("tune(0, 2) stays", shop.tune(0, 2), 1);
        due("tune(0, 4) stays", shop.tune(0, 4), 7);
        due("note(0, 0, 5) stays", note(shop, 0, 0, 5), 1);
        due("the tape is empty", shop.read(1, 0), -1);
        due("read anew", readText(shop, 0, "c4"), 1);
        due("tune(0, 2)", shop.tune(0, 2), 0);
        due("tune(0, 4)", shop.tune(0, 4), 0);
        due("note(0, 0, 5)", note(shop, 0, 0, 5), 0);
        due("note(0, 0, 6)", note(shop, 0, 0, 6), 0);
        due("faults()", shop.faults(), 0);
    }

    private static void dueNotes(String text, int[] notes) {
        MusicBoxShop shop = new MusicBoxShop();
        due("read " + text, readText(shop, 2, text), notes.length / 3);
        for (int n = 0; n < notes.length; n++) {
            due(text + " note " + n / 3 + " what " + n % 3, note(shop, 2, n / 3, n % 3), notes[n]);
        }
    }

    private static void readRepeats() {
        promise = "3 read, what the notes are";
        dueNotes("c1 d#8*99/96 b#1*1", new int[] {0, 0, 10, 6, 87, 99, 102, 12, 1});
        dueNotes("c#1d1e1f1g1a1b1", new int[] {0, 1, 10, 6, 2, 10, 12, 4, 10, 18, 5, 10, 24, 7, 10,
            30, 9, 10, 36, 11, 10});
        dueNotes(" c # 4 * 007 / 03\n[ d 4 c 4 * 3 ] / 2 r / 1 r ( e 4 ) 02 ",
                new int[] {0, 37, 7, 3, 36, 3, 3, 38, 10, 12, 40, 10, 18, 40, 10});
        dueNotes("[g2c2*9e2]/3[c2]c2", new int[] {0, 12, 9, 0, 16, 10, 0, 19, 10, 3, 12, 10, 9, 12,
            10});
        dueNotes("(c4/2(d4/1)2)2", new int[] {0, 36, 10, 2, 38, 10, 3, 38, 10, 4, 36, 10, 6, 38, 10,
            7, 38, 10});
        dueNotes("()20((((r/96)20)20)20)20", new int[] {});
        dueNotes("((((c4/1)1)1)1)1", new int[] {0, 36, 10});
        dueNotes("(r/80)5 r/79 c4/96", new int[] {479, 36, 10});
    }

    private static void fault() {
        promise = "4 fault";
        MusicBoxShop shop = new MusicBoxShop();
        readText(shop, 0, "c4");
        due("fault(0)", shop.fault(0), 0);
        due("fault(1)", shop.fault(1), -1);
        readText(shop, 0, "c4 9");
        due("fault(0)", shop.fault(0), 2);
        due("fault(1)", shop.fault(1), 3);
        due("fault(2)", shop.fault(2), -1);
        due("fault(-1)", shop.fault(-1), -1);
        shop.read(5, 0);
        due("fault(0) behind NONE", shop.fault(0), 2);
        shop.read(0, 0);
        due("fault(0) of the latest", shop.fault(0), 0);
    }

    private static void dueFault(String text, int kind, int place) {
        MusicBoxShop shop = new MusicBoxShop();
        int notes = readText(shop, 0, text);
        due("read " + text, notes < 0 ? notes : 0, kind == 0 ? 0 : -2);
        due("fault(0) of " + text, shop.fault(0), kind);
        due("fault(1) of " + text, shop.fault(1), place);
    }

    private static void faultsOfTexts() {
        promise = "4 fault, the faults of texts";
        dueFault("c4.", 1, 2);
        dueFault("C4", 1, 0);
        dueFault("c4\tc4", 1, 2);
        dueFault("c1234", 1, 1);
        dueFault("c4 1234", 1, 3);
        dueFault("(c4)0020", 1, 4);
        dueFault("c4/6000", 1, 3);
        dueFault("c  h", 1, 3);
        dueFault("c", 2, 1);
        dueFault("c  ", 2, 3);
        dueFault("c#", 2, 2);
        dueFault("c##4", 2, 2);
        dueFault("c4#", 2, 2);
        dueFault("c04", 2, 1);
        dueFault("c4/", 2, 3);
        dueFault("c4*", 2, 3);
        dueFault("c4/3*5", 2, 4);
        dueFault("c4*5*5", 2, 4);
        dueFault("c4/3/3", 2, 4);
        dueFault("r#", 2, 1);
        dueFault("r4", 2, 1);
        dueFault("#4", 2, 0);
        dueFault("5", 2, 0);
        dueFault("*5", 2, 0);
        dueFault("/5", 2, 0);
        dueFault("]", 2, 0);
        dueFault(")", 2, 0);
        dueFault("(c4)2)2", 2, 5);
        dueFault("(c4)2/3", 2, 5);
        dueFault("(c4) c4", 2, 5);
        dueFault("(", 2, 1);
        dueFault("(()2", 2, 4);
        dueFault("[]", 2, 1);
        dueFault("c4[]", 2, 3);
        dueFault("[c4/3]", 2, 3);
        dueFault("[c4 r]", 2, 4);
        dueFault("[c4[d4]]", 2, 3);
        dueFault("[(c4)2]", 2, 1);
        dueFault("[c4]*3", 2, 4);
        dueFault("[c", 2, 2);
        dueFault("c4*0", 2, 3);
        dueFault("c4*000", 2, 3);
        dueFault("c4/97", 2, 3);
        dueFault("c4/096", 0, -1);
        dueFault("(c4)021", 2, 4);
        dueFault("((((c(", 2, 5);
        dueFault("((((c4(", 3, 6);
        dueFault("(((( (", 3, 5);
        dueFault("((((c4)1)1)1(d4)1)1", 0, -1);
        dueFault("((((c4)1(", 2, 9);
        dueFault("((((c4)1((", 3, 9);
        dueFault("[c1d1e1f1g1a1b1c2d2e2f2g2]", 0, -1);
        dueFault("[c1d1e1f1g1a1b1c2d2e2f2g2 r]", 2, 26);
        dueFault("[c1c1c1c1c1c1c1c1c1c1c1c1 h", 1, 26);
        dueFault("[c1c1c1c1c1c1c1c1c1c1c1c1 c", 3, 26);
        dueFault("e8 [c4 c4] c", 2, 12);
        dueFault("d#8", 0, -1);
        dueFault("c4 e 8", 4, 3);
        dueFault("[b#4 c5]", 4, 5);
        dueFault("[c4 d4 e8 c4]", 4, 7);
        dueFault("[c4] [c4]", 0, -1);
        dueFault("(r/96)5c4 e8", 4, 10);
        dueFault("(r/96)5c4 ", 5, 10);
        dueFault("r/96(r/96)4c4", 5, 13);
        dueFault("(r/95)5r/4c4", 0, -1);
        dueFault("(c4/3)20(c4/3)20(c4/3)20(c4/3)20(c4/3)20(c4/3)20(c4/3)20(c4/3)10", 0, -1);
        dueFault("(c4/3)20(c4/3)20(c4/3)20(c4/3)20(c4/3)20(c4/3)20(c4/3)20(c4/3)11", 5, 64);
        dueFault("((((c4/96)20)20)20)20", 5, 21);
        dueFault("[c1d1e1f1g1a1b1c2d2e2f2g2]([c1d1e1f1g1a1b1c2d2e2f2g2]/1)11", 0, -1);
        dueFault("([c1d1e1f1g1a1b1c2d2e2f2g2]/1)13", 5, 32);
    }

    /** A text of all 800 bytes, and the most that repetitions can make of one. */
    private static void fullTexts() {
        promise = "3 read, a full tape";
        StringBuilder blanks = new StringBuilder("c4");
        while (blanks.length() < 800) {
            blanks.append(blanks.length() % 2 == 0 ? ' ' : '\n');
        }
        dueFault(blanks.toString(), 0, -1);
        blanks.setCharAt(799, 'c');
        dueFault(blanks.toString(), 2, 800);
        StringBuilder pauses = new StringBuilder("((((");
        while (pauses.length() < 780) {
            pauses.append("r/96");
        }
        pauses.append(")20)20)20)20");
        dueFault(pauses.toString(), 0, -1);
        dueFault(pauses.append("c4").toString(), 5, 798 - 4);
        StringBuilder number = new StringBuilder("c4/");
        while (number.length() < 800) {
            number.append('9');
        }
        dueFault(number.toString(), 1, 3);
    }

    private static void tune() {
        promise = "5 tune";
        MusicBoxShop shop = shopWith(36, 38);
        readText(shop, 3, "c4*5/3 c4*9/3 d4*5/3 e4*3");
        int[] unpinned = {4, 22, 0, 0, 0, 0, 0, 0};
        int[] pinned = {4, 22, 1, -2, 9, 1, 5, 1};
        int[] heard = {4, 22, 1, 0, 0, 2, 14, 1};
        for (int what = 0; what < 8; what++) {
            due("tune(3, " + what + ") not pinned", shop.tune(3, what), unpinned[what]);
        }
        // d4 moved down by 2 is plucked by tooth 0, and e4 by tooth 1.
        due("pin(3, -2)", shop.pin(3, -2), 2);
        due("breaks(1, true)", shop.breaks(1, true), true);
        due("pin(3, -2)", shop.pin(3, -2), 1);
        shop.start(3, 9);
        for (int what = 0; what < 8; what++) {
            due("tune(3, " + what + ") pinned", shop.tune(3, what), pinned[what]);
        }
        shop.breaks(1, false);
        due("pin(3, 0)", shop.pin(3, 0), 2);
        shop.breaks(1, true);
        for (int what = 0; what < 8; what++) {
            due("tune(3, " + what + ") half heard", shop.tune(3, what), heard[what]);
        }
        shop.bend(3, 1, true);
        due("tune(3, 7)", shop.tune(3, 7), 0);
        shop.tear(3, false);
        for (int what = 0; what < 8; what++) {
            due("tune(3, " + what + ") torn", shop.tune(3, what), unpinned[what]);
        }
        due("tune(3, 8)", shop.tune(3, 8), -1);
        due("tune(3, -1)", shop.tune(3, -1), -1);
        due("tune(2, 0)", shop.tune(2, 0), -1);
        due("tune(-1, 0)", shop.tune(-1, 0), -1);
        due("tune(6, 0)", shop.tune(6, 0), -1);
    }

    private static void note() {
        promise = "6 note";
        MusicBoxShop shop = shopWith(40, 40);
        readText(shop, 1, "[e4 d4*7]/5 e4*3");
        int[][] unpinned = {{0, 38, 7, -1, 0, 0, 0}, {0, 40, 10, -1, 0, 0, 0},
            {5, 40, 3, -1, 0, 0, 0}};
        int[][] pinned = {{0, 38, 7, -1, 0, 0, 0}, {0, 40, 10, 0, 0, 1, 0}, {5, 40, 3, 1, 0, 0, 1}};
        for (int n = 0; n < 21; n++) {
            due("note(1, " + n / 7 + ", " + n % 7 + ")", note(shop, 1, n / 7, n % 7),
                    unpinned[n / 7][n % 7]);
        }
        shop.pin(1, 0);
        due("note(1, 1, 4)", note(shop, 1, 1, 4), 1);
        due("note(1, 2, 4)", note(shop, 1, 2, 4), 1);
        shop.silent(1, 1, true);
        shop.breaks(0, true);
        shop.bend(1, 2, true);
        for (int n = 0; n < 21; n++) {
            due("note(1, " + n / 7 + ", " + n % 7 + ") pinned", note(shop, 1, n / 7, n % 7),
                    pinned[n / 7][n % 7]);
        }
        due("note(1, 3, 0)", note(shop, 1, 3, 0), THROWS);
        due("note(1, -1, 0)", note(shop, 1, -1, 0), THROWS);
        due("note(1, 0, 7)", note(shop, 1, 0, 7), THROWS);
        due("note(1, 0, -1)", note(shop, 1, 0, -1), THROWS);
        due("note(0, 0, 0)", note(shop, 0, 0, 0), THROWS);
        due("note(-1, 0, 0)", note(shop, -1, 0, 0), THROWS);
        due("note(6, 0, 0)", note(shop, 6, 0, 0), THROWS);
        shop.tear(1, true);
        due("note(1, 0, 0) torn out", note(shop, 1, 0, 0), THROWS);
    }

    private static void tooth() {
        promise = "7 tooth";
        MusicBoxShop shop = new MusicBoxShop();
        due("tooth(-1)", shop.tooth(-1), -1);
        due("tooth(88)", shop.tooth(88), -1);
        for (int k = 0; k < 60; k++) {
            due("tooth " + k, shop.tooth(k / 3), k);
            if (k == 2) {
                shop.breaks(0, true);
                due("a fourth, one broken", shop.tooth(0), -1);
            }
        }
        due("tooth(87), the 61st", shop.tooth(87), -1);
        due("comb(59, 0)", shop.comb(59, 0), 19);
        due("comb(60, 0)", shop.comb(60, 0), -1);
        due("tooth(87)", new MusicBoxShop().tooth(87), 0);
    }

    private static void comb() {
        promise = "8 comb";
        MusicBoxShop shop = shopWith(36, 87);
        readText(shop, 0, "c4 c4 d#8");
        readText(shop, 5, "c4");
        due("comb(0, 2)", shop.comb(0, 2), 0);
        shop.pin(0, 0);
        shop.pin(5, 0);
        due("comb(0, 0)", shop.comb(0, 0), 36);
        due("comb(1, 0)", shop.comb(1, 0), 87);
        due("comb(0, 2)", shop.comb(0, 2), 3);
        due("comb(1, 2)", shop.comb(1, 2), 1);
        shop.bend(0, 0, true);
        shop.breaks(0, true);
        due("comb(0, 1)", shop.comb(0, 1), 0);
        due("comb(1, 1)", shop.comb(1, 1), 1);
        due("comb(0, 2), bent and broken", shop.comb(0, 2), 3);
        shop.tear(0, false);
        due("comb(0, 2)", shop.comb(0, 2), 1);
        due("comb(0, 3)", shop.comb(0, 3), -1);
        due("comb(0, -1)", shop.comb(0, -1), -1);
        due("comb(2, 0)", shop.comb(2, 0), -1);
        due("comb(-1, 0)", shop.comb(-1, 0), -1);
    }

    private static void breaks() {
        promise = "9 breaks";
        MusicBoxShop shop = shopWith(36);
        readText(shop, 0, "c4");
        due("breaks(0, false)", shop.breaks(0, false), false);
        due("breaks(0, true)", shop.breaks(0, true), true);
        due("breaks(0, true)", shop.breaks(0, true), false);
        due("fit(0, 0)", shop.fit(0, 0), 0);
        due("breaks(0, false)", shop.breaks(0, false), true);
        due("fit(0, 0)", shop.fit(0, 0), 10);
        due("breaks(1, true)", shop.breaks(1, true), false);
        due("breaks(-1, true)", shop.breaks(-1, true), false);
        shop.pin(0, 0);
        shop.breaks(0, true);
        due("pins stay", note(shop, 0, 0, 3), 0);
        due("not heard", note(shop, 0, 0, 4), 0);
        shop.breaks(0, false);
        due("heard again", note(shop, 0, 0, 4), 1);
    }

    private static void rest() {
        promise = "10 rest";
        MusicBoxShop shop = shopWith(36);
        readText(shop, 0, "c4/5 c4/1 c4/47 c4");
        due("fit, rest 6 at first", shop.fit(0, 0), 30);
        due("keeps(0, 0, 1)", shop.keeps(0, 0, 1), 0);
        due("rest(0)", shop.rest(0), false);
        due("rest(-5)", shop.rest(-5), false);
        due("rest(49)", shop.rest(49), false);
        due("fit", shop.fit(0, 0), 30);
        due("rest(5)", shop.rest(5), true);
        due("rest(5)", shop.rest(5), true);
        due("keeps(0, 0, 1)", shop.keeps(0, 0, 1), 1);
        due("rest(1)", shop.rest(1), true);
        due("fit", shop.fit(0, 0), 40);
        due("pin", shop.pin(0, 0), 4);
        due("rest(48)", shop.rest(48), true);
        due("pins stay", shop.tune(0, 5), 4);
        due("fit", shop.fit(0, 0), 20);
        due("keeps(0, 0, 2)", shop.keeps(0, 0, 2), 0);
    }

    private static void fit() {
        promise = "11 fit";
        MusicBoxShop shop = shopWith(36, 36, 36, 60, 0, 87);
        readText(shop, 0, "c4*9/1 c4*8/1 c4*7/1 c4*6/1 c4*5/1 c4*4/1 c4*3");
        due("three of six", shop.fit(0, 0), 9 + 8 + 7 + 3);
        shop.breaks(1, true);
        due("two of six", shop.fit(0, 0), 9 + 8 + 3);
        shop.breaks(0, true);
        due("one", shop.fit(0, 0), 9 + 3);
        shop.breaks(2, true);
        due("none", shop.fit(0, 0), 0);
        due("fit(0, 24)", shop.fit(0, 24), 12);
        due("fit(0, 25)", shop.fit(0, 25), -1);
        due("fit(0, -25)", shop.fit(0, -25), -1);
        due("fit(1, 0)", shop.fit(1, 0), -1);
        due("fit(-1, 0)", shop.fit(-1, 0), -1);
        due("fit(6, 0)", shop.fit(6, 0), -1);
        readText(shop, 1, "c1 d#8");
        due("beyond the pitches above", shop.fit(1, 24), 0);
        due("beyond the pitches below", shop.fit(1, -24), 0);
        due("at both ends", shop.fit(1, 0), 20);
        due("keeps at both ends", shop.keeps(1, 0, 0) + shop.keeps(1, 0, 1), 2);
        due("pin at both ends", shop.pin(1, 0), 2);
        due("the lowest tooth", note(shop, 1, 0, 3), 4);
        due("the highest tooth", note(shop, 1, 1, 3), 5);
        due("best at both ends", shop.best(1), 0);
        due("pins stay", shop.tune(0, 2), 0);
        // The middle one outweighs each of its neighbours, but not both together.
        MusicBoxShop one = shopWith(36);
        readText(one, 0, "c4*6/5 c4*10/5 c4*5/5 c4*5");
        due("no greedy choice", one.fit(0, 0), 15);
        readText(one, 0, "c4*6/5 c4*10/5 c4*5");
        due("both neighbours", one.fit(0, 0), 11);
    }

    private static void keepsFirst() {
        promise = "12 keeps";
        MusicBoxShop shop = shopWith(36);
        readText(shop, 0, "c4/3 c4/3 c4");
        int[] first = {1, 0, 1};
        for (int i = 0; i < 3; i++) {
            due("keeps(0, 0, " + i + ")", shop.keeps(0, 0, i), first[i]);
        }
        due("keeps(0, 0, 3)", shop.keeps(0, 0, 3), -1);
        due("keeps(0, 0, -1)", shop.keeps(0, 0, -1), -1);
        due("keeps(0, 25, 0)", shop.keeps(0, 25, 0), -1);
        due("keeps(0, -25, 0)", shop.keeps(0, -25, 0), -1);
        due("keeps(1, 0, 0)", shop.keeps(1, 0, 0), -1);
        due("keeps(6, 0, 0)", shop.keeps(6, 0, 0), -1);
        due("keeps(0, 1, 0)", shop.keeps(0, 1, 0), 0);
        due("not pinned", shop.tune(0, 2), 0);
        // 4 alone, or 1 and 3: equal, and the first differing note decides.
        readText(shop, 1, "c4*1/5 c4*4/5 c4*3");
        int[] outer = {1, 0, 1};
        for (int i = 0; i < 3; i++) {
            due("keeps(1, 0, " + i + ")", shop.keeps(1, 0, i), outer[i]);
        }
        // Two teeth, all alike: the first two of each three that are too near.
        shop.tooth(36);
        readText(shop, 2, "(c4/2)9");
        int[] two = {1, 1, 0, 1, 1, 0, 1, 1, 0};
        for (int i = 0; i < 9; i++) {
            due("keeps(2, 0, " + i + ")", shop.keeps(2, 0, i), two[i]);
        }
    }

    private static void best() {
        promise = "13 best";
        MusicBoxShop shop = shopWith(36);
        due("best(0) not read", shop.best(0), 99);
        due("best(-1)", shop.best(-1), 99);
        due("best(6)", shop.best(6), 99);
        readText(shop, 0, "c2");
        due("best(0), 24 up", shop.best(0), 24);
        readText(shop, 0, "c6");
        due("best(0), 24 down", shop.best(0), -24);
        readText(shop, 0, "c#6");
        due("best(0), too far", shop.best(0), 0);
        readText(shop, 0, "[b3 c#4]");
        due("best(0), both sizes 1", shop.best(0), 1);
        readText(shop, 0, "[b3 c#4*11]");
        due("best(0), the heavier", shop.best(0), -1);
        readText(shop, 0, "[c4 c#4*10 d4]");
        due("best(0), size 0", shop.best(0), 0);
        shop.breaks(0, true);
        due("best(0), no tooth", shop.best(0), 0);
        MusicBoxShop low = shopWith(10);
        readText(low, 0, "[c1*9 d1]");
        due("best(0), d1 by 8", low.best(0), 8);
        readText(low, 0, "[c1*11 d1]");
        due("best(0), c1 by 10", low.best(0), 10);
        shop.tooth(40);
        due("best(0)", shop.best(0), 2);
    }

    private static void fewest() {
        promise = "14 fewest";
        MusicBoxShop shop = new MusicBoxShop();
        due("fewest(0)", shop.fewest(0), -1);
        due("fewest(6)", shop.fewest(6), -1);
        due("fewest(-1)", shop.fewest(-1), -1);
        shop.read(0, 0);
        due("fewest of nothing", shop.fewest(0), 0);
        readText(shop, 0, "c4/6 c4/5 c4/6 d4");
        due("fewest(0)", shop.fewest(0), 3);
        shop.rest(5);
        due("fewest(0)", shop.fewest(0), 2);
        shop.rest(48);
        due("fewest(0)", shop.fewest(0), 4);
        readText(shop, 0, "(c4/1)4");
        shop.rest(3);
        due("three of one", shop.fewest(0), 3);
        shop.rest(4);
        due("four of one", shop.fewest(0), -2);
        // 20 pitches of three teeth each are 60; one pitch more is too many.
        String chords = "([c1 d1 e1 f1 g1 a1 b1 c2 d2 e2]/1)3([c3 d3 e3 f3 g3 a3 b3 c4 d4 e4]/1)3";
        readText(shop, 0, chords);
        due("sixty", shop.fewest(0), 60);
        readText(shop, 0, chords + "c5");
        due("sixty-one", shop.fewest(0), -2);
        due("the comb stays", shop.comb(0, 0), -1);
    }

    private static void pin() {
        promise = "15 pin";
        MusicBoxShop shop = shopWith(36);
        due("pin(0, 0) not read", shop.pin(0, 0), -1);
        readText(shop, 0, "c4/5 c4/5 c4 d4");
        due("pin(0, 25)", shop.pin(0, 25), -1);
        due("pin(0, -25)", shop.pin(0, -25), -1);
        due("pin(6, 0)", shop.pin(6, 0), -1);
        due("pin(-1, 0)", shop.pin(-1, 0), -1);
        due("tune(0, 2)", shop.tune(0, 2), 0);
        due("pin(0, 0)", shop.pin(0, 0), 2);
        due("pin(0, 24)", shop.pin(0, 24), 0);
        due("tune(0, 2)", shop.tune(0, 2), 1);
        due("tune(0, 3)", shop.tune(0, 3), 24);
        shop.pin(0, 0);
        shop.start(0, 5);
        shop.bend(0, 0, true);
        shop.silent(0, 2, true);
        due("pin(0, 25)", shop.pin(0, 25), -1);
        due("start stays", shop.tune(0, 4), 5);
        due("pin(0, 0) anew", shop.pin(0, 0), 2);
        due("start", shop.tune(0, 4), 0);
        due("bent", note(shop, 0, 0, 6), 0);
        due("silent", note(shop, 0, 2, 5), 0);
        // A tune's pins ask nothing of another's: both may pluck one tooth at once.
        readText(shop, 1, "c4");
        due("pin(1, 0)", shop.pin(1, 0), 1);
        due("pin(1, -2)", shop.pin(1, -2), 0);
    }

    private static void pinTeeth() {
        promise = "15 pin, which teeth";
        MusicBoxShop shop = shopWith(50, 36, 40, 36, 36);
        readText(shop, 0, "c4/2 c4/2 c4/2 c4/2 c4/2 c4/6 c4");
        due("pin(0, 0)", shop.pin(0, 0), 7);
        int[] three = {1, 3, 4, 1, 3, 4, 1};
        for (int i = 0; i < three.length; i++) {
            due("note(0, " + i + ", 3)", note(shop, 0, i, 3), three[i]);
        }
        shop.breaks(1, true);
        due("pin(0, 0)", shop.pin(0, 0), 5);
        int[] two = {3, 4, -1, 3, 4, -1, 3};
        for (int i = 0; i < two.length; i++) {
            due("note(0, " + i + ", 3)", note(shop, 0, i, 3), two[i]);
        }
        readText(shop, 1, "d4 e4");
        due("pin(1, 10)", shop.pin(1, 10), 1);
        due("note(1, 0, 3)", note(shop, 1, 0, 3), -1);
        due("note(1, 1, 3)", note(shop, 1, 1, 3), 0);
    }

    private static void tear() {
        promise = "16 tear";
        MusicBoxShop shop = shopWith(36);
        due("tear(0, false) not read", shop.tear(0, false), false);
        due("tear(0, true) not read", shop.tear(0, true), false);
        due("tear(6, true)", shop.tear(6, true), false);
        due("tear(-1, false)", shop.tear(-1, false), false);
        readText(shop, 0, "c4");
        due("tear(0, false) not pinned", shop.tear(0, false), false);
        shop.pin(0, 0);
        shop.start(0, 3);
        shop.bend(0, 0, true);
        shop.silent(0, 0, true);
        due("tear(0, false)", shop.tear(0, false), true);
        due("tune(0, 0)", shop.tune(0, 0), 1);
        due("tune(0, 2)", shop.tune(0, 2), 0);
        due("note(0, 0, 3)", note(shop, 0, 0, 3), -1);
        due("faults()", shop.faults(), 0);
        shop.pin(0, 0);
        due("tune(0, 4)", shop.tune(0, 4), 0);
        due("note(0, 0, 6)", note(shop, 0, 0, 6), 0);
        due("tear(0, true), pinned", shop.tear(0, true), true);
        due("tune(0, 0)", shop.tune(0, 0), -1);
        due("comb(0, 2)", shop.comb(0, 2), 0);
        due("tear(0, true)", shop.tear(0, true), false);
        due("tear(0, false)", shop.tear(0, false), false);
    }

    private static void start() {
        promise = "17 start";
        MusicBoxShop shop = shopWith(36);
        due("start(0, 0)", shop.start(0, 0), false);
        readText(shop, 0, "(r/84)5 c4/20 d4");
        due("start(0, 0), not pinned", shop.start(0, 0), false);
        shop.pin(0, 0);
        due("start(0, -1)", shop.start(0, -1), false);
        due("start(0, 64)", shop.start(0, 64), false);
        due("start(0, 60)", shop.start(0, 60), false);
        due("tune(0, 4)", shop.tune(0, 4), 0);
        // The note at 440 is not kept: only pins count.
        due("start(0, 59)", shop.start(0, 59), true);
        due("start(0, 59)", shop.start(0, 59), true);
        due("tune(0, 4)", shop.tune(0, 4), 59);
        due("plucks(0, 0)", shop.plucks(0, 0), 479);
        due("note(0, 0, 0), as read", note(shop, 0, 0, 0), 420);
        due("start(6, 0)", shop.start(6, 0), false);
        due("start(-1, 0)", shop.start(-1, 0), false);
        shop.pin(0, 5);
        due("start(0, 63), no pin", shop.start(0, 63), true);
    }

    private static void crowds() {
        promise = "18 crowds";
        MusicBoxShop shop = shopWith(36, 38);
        for (int t = 0; t < 3; t++) {
            readText(shop, t, "c4/6 c4/6 d4");
            due("crowds()", shop.crowds(), t == 2 ? 3 : 0);
            shop.pin(t, 0);
        }
        due("crowds()", shop.crowds(), 6);
        shop.start(1, 1);
        due("crowds(), 1 apart", shop.crowds(), 6);
        shop.start(1, 2);
        due("crowds(), 2 apart", shop.crowds(), 0);
        shop.start(2, 1);
        due("crowds()", shop.crowds(), 3);
        shop.bend(1, 0, true);
        shop.breaks(1, true);
        due("crowds(), bent and broken", shop.crowds(), 3);
        shop.tear(1, false);
        due("crowds(), two apart", shop.crowds(), 0);
        // With a rest of 1 a pin may crowd with three of its neighbour.
        MusicBoxShop dense = shopWith(36);
        dense.rest(1);
        readText(dense, 3, "(c4/1)3");
        readText(dense, 4, "r/1 c4");
        dense.pin(3, 0);
        dense.pin(4, 0);
        due("crowds()", dense.crowds(), 3);
    }

    private static void crowd() {
        promise = "19 crowd";
        MusicBoxShop shop = shopWith(36, 38);
        readText(shop, 2, "e4 d4 c4 d4");
        readText(shop, 3, "r/5 [c4 d4] d4 d4");
        shop.pin(2, 0);
        due("crowd(0)", shop.crowd(0), -1);
        shop.pin(3, 0);
        int[] first = {2, 1, 3, 1};
        for (int what = 0; what < 4; what++) {
            due("crowd(" + what + ")", shop.crowd(what), first[what]);
        }
        due("crowd(4)", shop.crowd(4), -1);
        due("crowd(-1)", shop.crowd(-1), -1);
        shop.start(3, 3);
        for (int what = 0; what < 4; what++) {
            due("crowd(" + what + ")", shop.crowd(what), -1);
        }
        shop.start(3, 7);
        int[] second = {2, 2, 3, 0};
        for (int what = 0; what < 4; what++) {
            due("crowd(" + what + ")", shop.crowd(what), second[what]);
        }
    }

    private static void crowdAcrossTeeth() {
        promise = "18 and 19, the last lane of a tooth and the first of the next";
        MusicBoxShop shop = shopWith(36, 38);
        readText(shop, 5, "c4");
        readText(shop, 0, "d4 c4");
        shop.pin(5, 0);
        shop.pin(0, 0);
        due("crowds()", shop.crowds(), 1);
        int[] pair = {0, 0, 5, 0};
        for (int what = 0; what < 4; what++) {
            due("crowd(" + what + ")", shop.crowd(what), pair[what]);
        }
        due("arrange()", shop.arrange(), 4);
        due("tune(0, 4)", shop.tune(0, 4), 0);
        due("tune(5, 4)", shop.tune(5, 4), 2);
        // Not the other way round: tooth 1 of tune 5 lies far from tooth 0 of tune 0.
        readText(shop, 5, "d4");
        readText(shop, 0, "c4");
        shop.pin(5, 0);
        shop.pin(0, 0);
        due("crowds()", shop.crowds(), 0);
        due("arrange()", shop.arrange(), 2);
        // Its first partner is that of the least tune.
        readText(shop, 0, "d4");
        readText(shop, 1, "d4");
        readText(shop, 5, "c4");
        shop.pin(5, 0);
        shop.pin(0, 0);
        shop.pin(1, 0);
        due("crowds()", shop.crowds(), 2);
        due("crowd(2)", shop.crowd(2), 1);
    }

    private static void arrange() {
        promise = "20 arrange";
        MusicBoxShop shop = shopWith(36);
        due("arrange()", shop.arrange(), 0);
        for (int t = 1; t < 5; t++) {
            readText(shop, t, "c4 c4 c4");
        }
        due("arrange(), none pinned", shop.arrange(), 0);
        shop.pin(1, 0);
        shop.pin(2, 0);
        shop.pin(4, 0);
        shop.start(1, 33);
        // Tune 1 at 0: one try; tune 2 at 0, 1, 2: three; tune 4 has no neighbour: one.
        due("arrange()", shop.arrange(), 5);
        due("tune(1, 4)", shop.tune(1, 4), 0);
        due("tune(2, 4)", shop.tune(2, 4), 2);
        due("tune(4, 4)", shop.tune(4, 4), 0);
        due("crowds()", shop.crowds(), 0);
        shop.pin(3, 0);
        // Tune 3 at 0, and then tune 4 at 0, 1, 2.
        due("arrange()", shop.arrange(), 1 + 3 + 1 + 3);
        due("tune(3, 4)", shop.tune(3, 4), 0);
        due("tune(4, 4)", shop.tune(4, 4), 2);
        // Tune 1 has its last pin at 479 and no START but 0, so that tune 0 must go on to 2; for
        // its starts 0 and 1 all 64 of tune 1 are looked at.
        MusicBoxShop late = shopWith(36);
        readText(late, 0, "c4 (r/94)4 r/88 c4");
        readText(late, 1, "c4 (r/94)5 r/3 c4");
        late.pin(0, 0);
        late.pin(1, 0);
        due("crowds()", late.crowds(), 1);
        due("arrange()", late.arrange(), 1 + 64 + 1 + 64 + 1 + 1);
        due("tune(0, 4)", late.tune(0, 4), 2);
        due("tune(1, 4)", late.tune(1, 4), 0);
        due("plucks(0, 3)", late.plucks(0, 3), 479);
        MusicBoxShop empty = new MusicBoxShop();
        readText(empty, 0, "c4");
        readText(empty, 5, "c4");
        empty.pin(0, 0);
        empty.pin(5, 0);
        due("arrange(), no pins", empty.arrange(), 2);
    }

    private static void arrangeNone() {
        promise = "20 arrange, none";
        MusicBoxShop shop = shopWith(36);
        shop.rest(3);
        // Pins at every third tick crowd with whatever the start is.
        String all = "(c4/3)20(c4/3)20(c4/3)20(c4/3)20(c4/3)20(c4/3)20(c4/3)10";
        readText(shop, 0, all);
        readText(shop, 1, all);
        shop.pin(0, 0);
        shop.pin(1, 0);
        shop.start(0, 5);
        shop.start(1, 9);
        due("arrange()", shop.arrange(), -2);
        due("tune(0, 4) stays", shop.tune(0, 4), 5);
        due("tune(1, 4) stays", shop.tune(1, 4), 9);
    }

    private static void arrangeSpent() {
        promise = "20 arrange, spent";
        MusicBoxShop shop = shopWith(36, 60);
        shop.rest(3);
        String all = "(c4/3)20(c4/3)20(c4/3)20(c4/3)20(c4/3)20(c4/3)20(c4/3)10";
        readText(shop, 0, "c6");
        readText(shop, 1, all);
        readText(shop, 2, all);
        for (int t = 0; t < 3; t++) {
            shop.pin(t, 0);
        }
        shop.start(2, 4);
        due("arrange()", shop.arrange(), -3);
        due("tune(2, 4) stays", shop.tune(2, 4), 4);
        // 64 starts of tune 0, each with 64 of tune 1: 4160 tries are not yet spent.
        shop.tear(0, false);
        due("arrange()", shop.arrange(), -2);
    }

    private static int triesFor(int pause, String... texts) {
        MusicBoxShop shop = shopWith(36);
        shop.rest(pause);
        for (int t = 0; t < texts.length; t++) {
            readText(shop, t, texts[t]);
            shop.pin(t, 0);
        }
        return shop.arrange();
    }

    private static void arrangeEdges() {
        promise = "20 arrange, edges";
        due("the 20,000th try is the last", triesFor(1, "(c4/4)10", "(c4/2)8",
                "r/3 (c4/6)11 r/96 r/96 r/96 r/77 c4"), 20000);
        due("the 20,001st would be it", triesFor(1,
                "r/6 (c4/2)6 r/96 r/96 r/96 r/96 r/34 c4",
                "(c4/2)11 r/96 r/96 r/96 r/96 r/30 c4",
                "r/8 (c4/5)11 r/96 r/96 r/96 r/96 r/10 c4"), -3);
        // Pins at 1, 4, .. 64 leave no start of 0 to 63 for one at 0; a tick later 0 is free.
        due("start 63 crowds too", triesFor(3, "r/1 (c4/3)20 (c4/3)2", "c4"), 1 + 64 + 1 + 1);
        due("start 63 of the one ahead too", triesFor(3, "c4",
                "r/1 (c4/3)20 (c4/3)2 (r/96)4 r/28 c4"), -2);
        // Without the pin at 64 it is free.
        due("start 63 is free", triesFor(3, "r/1 (c4/3)20 c4", "c4"), 1 + 64);
        due("start 63 of the one ahead is free", triesFor(3, "c4",
                "r/1 (c4/3)20 c4 (r/96)4 r/28 c4"), 64 + 63 * 64 + 1);
    }

    private static void bend() {
        promise = "21 bend";
        MusicBoxShop shop = shopWith(36);
        readText(shop, 0, "c4 d4");
        due("bend(0, 0, true), not pinned", shop.bend(0, 0, true), false);
        shop.pin(0, 0);
        due("bend(0, 0, false)", shop.bend(0, 0, false), false);
        due("bend(0, 0, true)", shop.bend(0, 0, true), true);
        due("bend(0, 0, true)", shop.bend(0, 0, true), false);
        due("note(0, 0, 6)", note(shop, 0, 0, 6), 1);
        due("note(0, 0, 4)", note(shop, 0, 0, 4), 0);
        due("bend(0, 0, false)", shop.bend(0, 0, false), true);
        due("note(0, 0, 4)", note(shop, 0, 0, 4), 1);
        due("bend(0, 1, true), not kept", shop.bend(0, 1, true), false);
        due("bend(0, 2, true)", shop.bend(0, 2, true), false);
        due("bend(0, -1, true)", shop.bend(0, -1, true), false);
        due("bend(1, 0, true)", shop.bend(1, 0, true), false);
        due("bend(6, 0, true)", shop.bend(6, 0, true), false);
    }

    private static void silent() {
        promise = "22 silent";
        MusicBoxShop shop = shopWith(36);
        readText(shop, 0, "c4 d4");
        due("silent(0, 0, true), not pinned", shop.silent(0, 0, true), false);
        shop.pin(0, 0);
        due("silent(0, 0, false)", shop.silent(0, 0, false), false);
        due("silent(0, 0, true)", shop.silent(0, 0, true), true);
        due("silent(0, 0, true)", shop.silent(0, 0, true), false);
        due("note(0, 0, 5)", note(shop, 0, 0, 5), 1);
        due("note(0, 0, 4), heard still", note(shop, 0, 0, 4), 1);
        due("silent(0, 0, false)", shop.silent(0, 0, false), true);
        due("note(0, 0, 5)", note(shop, 0, 0, 5), 0);
        due("silent(0, 1, true), not kept", shop.silent(0, 1, true), false);
        due("silent(0, 2, true)", shop.silent(0, 2, true), false);
        due("silent(0, -1, true)", shop.silent(0, -1, true), false);
        due("silent(1, 0, true)", shop.silent(1, 0, true), false);
        due("silent(-1, 0, true)", shop.silent(-1, 0, true), false);
    }

    private static void listen() {
        promise = "23 listen";
        MusicBoxShop shop = shopWith(36, 38);
        readText(shop, 0, "c4 d4 e4");
        readText(shop, 4, "c4 d4");
        shop.pin(0, 0);
        shop.pin(4, 0);
        due("listen()", shop.listen(), 0);
        shop.silent(0, 0, true);
        shop.bend(0, 1, true);
        shop.breaks(1, true);
        due("listen()", shop.listen(), 2);
        due("note(0, 0, 5), no more", note(shop, 0, 0, 5), 0);
        due("note(0, 1, 5)", note(shop, 0, 1, 5), 1);
        due("note(0, 2, 5), not kept", note(shop, 0, 2, 5), 0);
        due("note(4, 1, 5)", note(shop, 4, 1, 5), 1);
        shop.breaks(1, false);
        due("note(4, 1, 5), until the next", note(shop, 4, 1, 5), 1);
        due("listen()", shop.listen(), 1);
    }

    private static void faults() {
        promise = "24 faults";
        MusicBoxShop shop = shopWith(36, 38, 40);
        readText(shop, 0, "c4 c4 d4");
        readText(shop, 3, "c4 d4 e4");
        shop.pin(0, 0);
        shop.pin(3, 0);
        due("faults()", shop.faults(), 0);
        shop.silent(0, 0, true);
        shop.silent(0, 1, true);
        due("two pins of three", shop.faults(), 2);
        shop.silent(3, 0, true);
        due("the tooth", shop.faults(), 1);
        shop.silent(3, 2, true);
        due("a lone pin of its tooth", shop.faults(), 2);
        due("suspect(1, 0)", shop.suspect(1, 0), -1);
        shop.silent(0, 2, true);
        due("one pin more", shop.faults(), 3);
        shop.silent(3, 1, true);
        due("two teeth and a pin", shop.faults(), 3);
        shop.bend(0, 0, true);
        shop.breaks(2, true);
        due("what is heard is of no weight", shop.faults(), 3);
        shop.tear(0, false);
        due("three lone pins", shop.faults(), 3);
        due("suspect(0, 0)", shop.suspect(0, 0), -1);
    }

    private static void suspect() {
        promise = "25 suspect";
        MusicBoxShop shop = shopWith(36, 38, 40);
        readText(shop, 1, "d4 c4 d4 e4");
        readText(shop, 2, "e4 c4");
        shop.pin(1, 0);
        shop.pin(2, 0);
        shop.silent(2, 0, true);
        shop.silent(1, 1, true);
        shop.silent(1, 0, true);
        shop.silent(1, 2, true);
        int[][] all = {{1, -1, -1}, {-1, 1, 1}, {-1, 2, 0}};
        due("faults()", shop.faults(), 3);
        for (int n = 0; n < 9; n++) {
            due("suspect(" + n / 3 + ", " + n % 3 + ")", shop.suspect(n / 3, n % 3),
                    all[n / 3][n % 3]);
        }
        shop.silent(2, 1, true);
        due("suspect(0, 0)", shop.suspect(0, 0), 0);
        due("suspect(1, 0)", shop.suspect(1, 0), 1);
        due("suspect(2, 1)", shop.suspect(2, 1), 2);
        due("suspect(3, 0)", shop.suspect(3, 0), -2);
        due("suspect(-1, 0)", shop.suspect(-1, 0), -2);
        due("suspect(0, 3)", shop.suspect(0, 3), -2);
        due("suspect(0, -1)", shop.suspect(0, -1), -2);
    }

    private static void plucks() {
        promise = "26 plucks";
        MusicBoxShop shop = shopWith(36, 38);
        readText(shop, 4, "c4 d4 c4");
        readText(shop, 2, "d4/20 c4");
        due("plucks(0, 0), not pinned", shop.plucks(0, 0), -2);
        shop.pin(4, 0);
        shop.pin(2, 0);
        shop.start(2, 30);
        int[] ticks = {50, 0, 12, -2};
        for (int k = 0; k < 4; k++) {
            due("plucks(0, " + k + ")", shop.plucks(0, k), ticks[k]);
        }
        shop.bend(4, 0, true);
        shop.breaks(0, true);
        due("plucks(0, 1), bent and broken", shop.plucks(0, 1), 0);
        due("plucks(1, 0)", shop.plucks(1, 0), 30);
        due("plucks(1, 1)", shop.plucks(1, 1), 6);
        due("plucks(0, -1)", shop.plucks(0, -1), -2);
        due("plucks(2, 0)", shop.plucks(2, 0), -2);
        due("plucks(-1, 0)", shop.plucks(-1, 0), -2);
    }

    /** Whatever the arguments are, nothing but NoSuchElementException of note() is thrown. */
    private static void wildArguments() {
        promise = "wild arguments";
        int[] wild = {Integer.MIN_VALUE, Integer.MIN_VALUE + 1, -481, -151, -61, -25, -7, -2, -1, 0,
            1, 5, 6, 24, 25, 59, 60, 63, 64, 88, 149, 150, 151, 479, 480, 800, 801,
            Integer.MAX_VALUE - 1, Integer.MAX_VALUE};
        for (int a : wild) {
            // A new one each time, as no object is used for more than 512 calls.
            MusicBoxShop shop = shopWith(36, 36, 38);
            readText(shop, 0, "(c4/1 [c4 d4]/2)9");
            shop.pin(0, 0);
            shop.fault(a);
            shop.comb(0, a);
            shop.comb(a, 2);
            shop.crowd(a);
            shop.best(a);
            shop.fewest(a);
            shop.breaks(a, true);
            shop.tear(a == 0 ? -1 : a, true);
            for (int b : wild) {
                shop.tune(a, b);
                note(shop, a, b, 4);
                note(shop, 0, a, b);
                shop.fit(a, b);
                shop.keeps(a, b, 0);
                shop.keeps(0, a, b);
                shop.pin(a, b);
                shop.start(a, b);
                shop.bend(a, b, true);
                shop.silent(a, b, true);
                shop.suspect(a, b);
                shop.plucks(a, b);
            }
            if (a != 0) {
                due("read(" + a + ", " + a + ")", shop.read(a, a), -1);
            }
            due("the tune stays", shop.tune(0, 0), 27);
        }
    }
}

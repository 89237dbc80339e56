/** The edges of Terms 2 and of promises 5 to 15: TEETH, REST, SHIFTS, what is KEPT, BEST. */
public final class CombEdgeTest {
    private static final int[] NO_TUNES = {-1, 6, 7, Bench.MIN, Bench.MAX};
    private static final int[] NO_SHIFTS = {-25, 25, -26, 26, Bench.MIN, Bench.MAX};
    private static final int[] FAR = {-2, Bench.MIN, Bench.MAX};

    public static void main(String[] args) {
        toothPitches();
        toothAlike();
        toothFull();
        comb();
        combPins();
        breaks();
        breaksRefused();
        restEdges();
        restRefused();
        restApart();
        wholeTeeth();
        threeTeeth();
        shifts();
        noPitchWraps();
        refusedShiftsAndTunes();
        keepsNotes();
        keptIsTheMost();
        keptIsTheFirst();
        keptTeeth();
        best();
        bestTies();
        fewest();
        fewestOfOne();
        fewestOfAll();
        pin();
        pinAnew();
        pinsStay();
        tuneWhats();
        tuneNotPinned();
        noteWhats();
        noteRefused();
        Bench.end();
    }

    /**
     * TUNES 0 and 1 PINNED, 2 read, 3 read and empty, 4 not read, 5 PINNED without a PIN; a bent
     * PIN, a SILENT NOTE, a BROKEN TOOTH, REST 5, bytes on the tape and a FAULT.
     */
    private static void busy(MusicBoxShop shop) {
        shop.tooth(36);
        shop.tooth(36);
        shop.tooth(38);
        shop.tooth(36);
        Bench.read(shop, 0, "c4*5/3 c4/3 d4 c4 e4");
        Bench.read(shop, 1, "d4 f4 d4");
        Bench.read(shop, 2, "c4/1 c4/1 c4/1 c4");
        shop.read(0, 3);
        Bench.read(shop, 5, "b7");
        shop.pin(0, 0);
        shop.pin(1, -2);
        shop.pin(5, 0);
        shop.start(0, 7);
        shop.start(5, 63);
        shop.bend(0, 1, true);
        shop.silent(0, 2, true);
        shop.breaks(3, true);
        shop.rest(5);
        Bench.read(shop, 0, "c4 d");
        Bench.feed(shop, "c1 d1 e1");
    }

    private static void toothPitches() {
        Bench.sentence("A TOOTH more: its number; NONE if .. it is none");
        for (int pitch = 0; pitch <= 87; pitch++) {
            MusicBoxShop shop = new MusicBoxShop();
            Bench.due("tooth(" + pitch + ")", shop.tooth(pitch), 0);
            Bench.due("comb(0, 0)", shop.comb(0, 0), pitch);
            Bench.due("comb(0, 1)", shop.comb(0, 1), 1);
        }
        for (int pitch : new int[] {-1, 88, -2, 89, -88, 124, Bench.MIN, Bench.MAX}) {
            Bench.unchanged("tooth(" + pitch + ")", CombEdgeTest::busy, shop -> shop.tooth(pitch),
                    -1);
            Bench.due("tooth(" + pitch + "), the first", new MusicBoxShop().tooth(pitch), -1);
        }
    }

    private static void toothAlike() {
        Bench.sentence("each of a PITCH (at most 3 of one)");
        for (int pitch : new int[] {0, 36, 87}) {
            MusicBoxShop shop = new MusicBoxShop();
            for (int k = 0; k < 3; k++) {
                Bench.due("tooth(" + pitch + "), " + k, shop.tooth(pitch), k);
            }
            Bench.due("tooth(" + pitch + "), the fourth", shop.tooth(pitch), -1);
            Bench.due("another pitch: the next number", shop.tooth(50), 3);
            for (int k = 0; k < 3; k++) {
                shop.breaks(k, true);
                Bench.due("the fourth, some broken", shop.tooth(pitch), -1);
            }
            Bench.due("comb(4, 0)", shop.comb(4, 0), -1);
        }
        Bench.unchanged("tooth(36), the fourth, one broken", CombEdgeTest::busy,
                shop -> shop.tooth(36), -1);
        Bench.changesOnly("tooth(38), the second", CombEdgeTest::busy, shop -> shop.tooth(38), 4,
                "tooth 4", "plucks 4", "choice");
    }

    private static void toothFull() {
        Bench.sentence("THE COMB has TEETH, at most 60, numbered as they are told");
        MusicBoxShop shop = new MusicBoxShop();
        for (int k = 0; k < 60; k++) {
            Bench.due("tooth " + k, shop.tooth(87 - k), k);
        }
        for (int pitch : new int[] {0, 27, 28, 87, 88, -1}) {
            Bench.due("tooth(" + pitch + "), the 61st", shop.tooth(pitch), -1);
        }
        for (int k = 0; k < 60; k++) {
            Bench.due("comb(" + k + ", 0)", shop.comb(k, 0), 87 - k);
        }
        Bench.due("comb(60, 0)", shop.comb(60, 0), -1);
        Bench.due("breaks(59, true)", shop.breaks(59, true), true);
        Bench.due("breaks(60, true)", shop.breaks(60, true), false);
        Bench.due("the 61st, one broken", shop.tooth(0), -1);
        Bench.unchanged("tooth(0), the 61st", made -> {
            for (int k = 0; k < 60; k++) {
                made.tooth(20 + k);
            }
            Bench.read(made, 0, "c4 g#2 c1");
            made.pin(0, 0);
        }, made -> made.tooth(0), -1);
        // The last TOOTH is as good as any.
        MusicBoxShop last = new MusicBoxShop();
        for (int k = 0; k < 60; k++) {
            last.tooth(k / 3);
        }
        Bench.read(last, 5, "g2/1 g2/1 g2");
        Bench.due("pin(5, 0)", last.pin(5, 0), 3);
        Bench.due("note(5, i, 3)", Bench.notes(last, 5, 3), 57, 58, 59);
        Bench.due("plucks(59, 0)", last.plucks(59, 0), 2);
        Bench.due("comb(59, 2)", last.comb(59, 2), 1);
    }

    private static void comb() {
        Bench.sentence("Of TOOTH k, what 0: its PITCH, 1: whether it is whole (1, 0), 2: PINS of all"
                + " PINNED TUNES for it. NONE for others.");
        int[][] all = {{36, 1, 4}, {36, 1, 1}, {38, 1, 1}, {36, 0, 0}};
        MusicBoxShop shop = new MusicBoxShop();
        busy(shop);
        for (int k = 0; k < 4; k++) {
            for (int what = 0; what < 3; what++) {
                Bench.due("comb(" + k + ", " + what + ")", shop.comb(k, what), all[k][what]);
            }
            for (int what : new int[] {-1, 3, 4, Bench.MIN, Bench.MAX}) {
                Bench.due("comb(" + k + ", " + what + ")", shop.comb(k, what), -1);
            }
        }
        for (int k : new int[] {-1, 4, 5, 59, 60, Bench.MIN, Bench.MAX}) {
            for (int what = -1; what <= 3; what++) {
                Bench.due("comb(" + k + ", " + what + ")", shop.comb(k, what), -1);
            }
        }
        Bench.unchanged("comb(0, 2)", CombEdgeTest::busy, made -> made.comb(0, 2), 4);
        Bench.unchanged("comb(4, 0)", CombEdgeTest::busy, made -> made.comb(4, 0), -1);
    }

    private static void combPins() {
        Bench.sentence("2: PINS of all PINNED TUNES for it");
        MusicBoxShop shop = Bench.shopWith(36);
        shop.rest(1);
        for (int t = 0; t < 6; t++) {
            Bench.read(shop, t, "((c4/1)10)15");
            Bench.due("comb(0, 2), one read more", shop.comb(0, 2), 150 * t);
            shop.pin(t, 0);
            Bench.due("comb(0, 2), one pinned more", shop.comb(0, 2), 150 * (t + 1));
        }
        shop.bend(0, 0, true);
        shop.silent(0, 1, true);
        shop.breaks(0, true);
        Bench.due("comb(0, 2), bent, silent, broken", shop.comb(0, 2), 900);
        shop.tear(3, false);
        shop.tear(4, true);
        Bench.due("comb(0, 2), two torn", shop.comb(0, 2), 600);
    }

    private static void breaks() {
        Bench.sentence("TOOTH k is BROKEN (true) or whole: true .. Breaking a TOOTH, or mending it,"
                + " leaves PINS as they are.");
        Bench.changesOnly("breaks(0, true)", CombEdgeTest::busy,
                shop -> Bench.bit(shop.breaks(0, true)), 1, "tooth 0", "tune 0", "tune 1", "note",
                "choice");
        Bench.changesOnly("breaks(3, false)", CombEdgeTest::busy,
                shop -> Bench.bit(shop.breaks(3, false)), 1, "tooth 3", "choice");
        MusicBoxShop shop = new MusicBoxShop();
        busy(shop);
        int[] teeth = Bench.notes(shop, 0, 3);
        for (int k = 0; k < 3; k++) {
            Bench.due("breaks(" + k + ", true)", shop.breaks(k, true), true);
        }
        Bench.due("note(0, i, 3)", Bench.notes(shop, 0, 3), teeth);
        Bench.due("tune(0, 5)", shop.tune(0, 5), 4);
        Bench.due("tune(0, 7), all broken", shop.tune(0, 7), 0);
        Bench.due("fit(0, 0), all broken", shop.fit(0, 0), 0);
        for (int k = 0; k < 3; k++) {
            Bench.due("breaks(" + k + ", false)", shop.breaks(k, false), true);
        }
        Bench.due("tune(0, 7), all mended, one bent", shop.tune(0, 7), 3);
        // What was broken and is mended is as if it had never been broken.
        for (int k = 0; k < 3; k++) {
            int tooth = k;
            Bench.unchanged("breaks(" + k + ", true) and false", CombEdgeTest::busy, made -> {
                made.breaks(tooth, true);
                return Bench.bit(made.breaks(tooth, false));
            }, 1);
        }
        Bench.unchanged("breaks(3, false) and true", CombEdgeTest::busy, made -> {
            made.breaks(3, false);
            return Bench.bit(made.breaks(3, true));
        }, 1);
        for (int count = 1; count <= 3; count++) {
            MusicBoxShop mended = new MusicBoxShop();
            for (int k = 0; k < count; k++) {
                mended.tooth(36);
                mended.breaks(k, true);
                mended.breaks(k, false);
            }
            Bench.read(mended, 0, Bench.times("c4/1 ", 5));
            Bench.due(count + " mended teeth: fit", mended.fit(0, 0), 10 * count);
        }
    }

    private static void breaksRefused() {
        Bench.sentence("false if there is none such, or it is so");
        for (int k : new int[] {-1, 4, 5, 59, 60, Bench.MIN, Bench.MAX}) {
            Bench.unchanged("breaks(" + k + ", true)", CombEdgeTest::busy,
                    shop -> Bench.bit(shop.breaks(k, true)), 0);
            Bench.unchanged("breaks(" + k + ", false)", CombEdgeTest::busy,
                    shop -> Bench.bit(shop.breaks(k, false)), 0);
        }
        for (int k = 0; k < 3; k++) {
            int tooth = k;
            Bench.unchanged("breaks(" + k + ", false), whole", CombEdgeTest::busy,
                    shop -> Bench.bit(shop.breaks(tooth, false)), 0);
        }
        Bench.unchanged("breaks(3, true), broken", CombEdgeTest::busy,
                shop -> Bench.bit(shop.breaks(3, true)), 0);
        MusicBoxShop none = new MusicBoxShop();
        Bench.due("breaks(0, true), no teeth", none.breaks(0, true), false);
        Bench.due("breaks(0, false), no teeth", none.breaks(0, false), false);
    }

    private static void restEdges() {
        Bench.sentence("REST is a number of TICKS, 1 to 48; 6 at first.");
        MusicBoxShop shop = Bench.shopWith(36);
        Bench.read(shop, 0, "c4/5 c4");
        Bench.read(shop, 1, "c4/6 c4");
        Bench.due("fit, 5 apart, at first", shop.fit(0, 0), 10);
        Bench.due("fit, 6 apart, at first", shop.fit(1, 0), 20);
        for (int rest = 1; rest <= 48; rest++) {
            MusicBoxShop made = Bench.shopWith(36);
            Bench.due("rest(" + rest + ")", made.rest(rest), true);
            Bench.due("rest(" + rest + ") once more", made.rest(rest), true);
            for (int apart = Math.max(1, rest - 1); apart <= rest + 1; apart++) {
                String name = "rest " + rest + ", " + apart + " apart: ";
                boolean both = apart >= rest;
                Bench.read(made, 0, "c4*9/" + apart + " c4*8");
                Bench.due(name + "fit", made.fit(0, 0), both ? 17 : 9);
                Bench.due(name + "keeps", made.keeps(0, 0, 1), both ? 1 : 0);
                Bench.due(name + "fewest", made.fewest(0), both ? 1 : 2);
                Bench.due(name + "best", made.best(0), 0);
                Bench.due(name + "pin", made.pin(0, 0), both ? 2 : 1);
                Bench.due(name + "tune(0, 6)", made.tune(0, 6), both ? 17 : 9);
            }
        }
    }

    private static void restRefused() {
        Bench.sentence("REST is a number: true; false for others.");
        for (int ticks : new int[] {0, 49, -1, 50, -6, Bench.MIN, Bench.MAX}) {
            Bench.unchanged("rest(" + ticks + ")", CombEdgeTest::busy,
                    shop -> Bench.bit(shop.rest(ticks)), 0);
            Bench.unchanged("rest(" + ticks + "), 6 at first", shop -> { },
                    shop -> Bench.bit(shop.rest(ticks)), 0);
        }
        // PINS stay with another REST.
        Bench.changesOnly("rest(48)", CombEdgeTest::busy, shop -> Bench.bit(shop.rest(48)), 1,
                "rest", "choice");
        Bench.changesOnly("rest(1)", CombEdgeTest::busy, shop -> Bench.bit(shop.rest(1)), 1, "rest",
                "choice");
        Bench.unchanged("rest(5), as it is", CombEdgeTest::busy, shop -> Bench.bit(shop.rest(5)),
                1);
    }

    private static void restApart() {
        Bench.sentence("no TOOTH has two with TICKS less than REST apart");
        // Of two PITCHES, and of two TUNES, none asks the other to rest.
        MusicBoxShop shop = Bench.shopWith(36, 38);
        shop.rest(48);
        Bench.read(shop, 0, "[c4 d4]/1 c4/1 d4");
        Bench.due("fit, one of each", shop.fit(0, 0), 20);
        Bench.read(shop, 1, "c4");
        Bench.due("pin(0, 0)", shop.pin(0, 0), 2);
        Bench.due("pin(1, 0), the same tooth at once", shop.pin(1, 0), 1);
        // The cylinder is round, but TICKS are not: 479 and 0 are far apart.
        Bench.read(shop, 2, "c4 (r/96)4 r/89 c4");
        Bench.due("note(2, 1, 0)", Bench.note(shop, 2, 1, 0), 479);
        Bench.due("pin(2, 0)", shop.pin(2, 0), 2);
        Bench.due("fewest(2)", shop.fewest(2), 1);
    }

    private static void wholeTeeth() {
        Bench.sentence("it can be plucked, if there is a whole TOOTH of that PITCH");
        MusicBoxShop shop = new MusicBoxShop();
        Bench.read(shop, 0, "c4");
        Bench.due("no teeth: fit", shop.fit(0, 0), 0);
        Bench.due("no teeth: keeps", shop.keeps(0, 0, 0), 0);
        Bench.due("no teeth: pin", shop.pin(0, 0), 0);
        shop.tooth(35);
        shop.tooth(37);
        Bench.due("one below, one above: fit", shop.fit(0, 0), 0);
        shop.tooth(36);
        Bench.due("one: fit", shop.fit(0, 0), 10);
        shop.breaks(2, true);
        Bench.due("broken: fit", shop.fit(0, 0), 0);
        Bench.due("broken: keeps", shop.keeps(0, 0, 0), 0);
        Bench.due("broken: pin", shop.pin(0, 0), 0);
        shop.tooth(36);
        Bench.due("a second: pin", shop.pin(0, 0), 1);
        Bench.due("a second: its number", Bench.note(shop, 0, 0, 3), 3);
        shop.breaks(2, false);
        Bench.due("mended: the pin stays", Bench.note(shop, 0, 0, 3), 3);
        Bench.due("mended: pin", shop.pin(0, 0), 1);
        Bench.due("mended: the first", Bench.note(shop, 0, 0, 3), 2);
    }

    private static void threeTeeth() {
        Bench.sentence("Some NOTES GO TOGETHER, if each has a TOOTH of its PITCH");
        for (int teeth = 0; teeth <= 3; teeth++) {
            MusicBoxShop shop = new MusicBoxShop();
            for (int k = 0; k < teeth; k++) {
                shop.tooth(36);
            }
            for (int notes = 1; notes <= 5; notes++) {
                Bench.read(shop, 0, Bench.times("c4/1 ", notes));
                String name = teeth + " teeth, " + notes + " notes: ";
                Bench.due(name + "fit", shop.fit(0, 0), 10 * Math.min(teeth, notes));
                Bench.due(name + "pin", shop.pin(0, 0), Math.min(teeth, notes));
            }
            // The sixth TICK is free for the first TOOTH once more.
            Bench.read(shop, 0, Bench.times("c4/1 ", 7));
            Bench.due(teeth + " teeth, 7 notes: pin", shop.pin(0, 0), teeth == 0 ? 0 : teeth + 1);
        }
    }

    private static void shifts() {
        Bench.sentence("A TUNE with a SHIFT (-24 to 24): a NOTE's PITCH is that much more");
        for (int pitch = 36 - 26; pitch <= 36 + 26; pitch++) {
            MusicBoxShop shop = Bench.shopWith(pitch);
            Bench.read(shop, 0, "c4*7");
            for (int shift = -24; shift <= 24; shift++) {
                boolean fits = 36 + shift == pitch;
                Bench.due("fit(0, " + shift + "), tooth of " + pitch, shop.fit(0, shift),
                        fits ? 7 : 0);
                Bench.due("keeps(0, " + shift + ", 0), tooth of " + pitch, shop.keeps(0, shift, 0),
                        fits ? 1 : 0);
                Bench.due("pin(0, " + shift + "), tooth of " + pitch, shop.pin(0, shift),
                        fits ? 1 : 0);
                Bench.due("tune(0, 3)", shop.tune(0, 3), shift);
                Bench.due("note(0, 0, 1), as read", Bench.note(shop, 0, 0, 1), 36);
            }
            int best = pitch - 36;
            Bench.due("best(0), tooth of " + pitch, shop.best(0),
                    best < -24 || best > 24 ? 0 : best);
        }
    }

    private static void noPitchWraps() {
        Bench.sentence("PITCHES are numbered from 0 to 87");
        MusicBoxShop shop = new MusicBoxShop();
        for (int k = 0; k < 24; k++) {
            shop.tooth(k);
            shop.tooth(87 - k);
        }
        // c1 is 0 and d#8 is 87: below and above them is no TOOTH, on neither end.
        Bench.read(shop, 0, "c1");
        Bench.read(shop, 1, "d#8");
        for (int shift = -24; shift <= 24; shift++) {
            boolean up = shift >= 0 && shift < 24;
            boolean down = shift <= 0 && shift > -24;
            Bench.due("fit(0, " + shift + ")", shop.fit(0, shift), up ? 10 : 0);
            Bench.due("fit(1, " + shift + ")", shop.fit(1, shift), down ? 10 : 0);
            Bench.due("keeps(0, " + shift + ", 0)", shop.keeps(0, shift, 0), up ? 1 : 0);
            Bench.due("keeps(1, " + shift + ", 0)", shop.keeps(1, shift, 0), down ? 1 : 0);
        }
        Bench.due("best(0)", shop.best(0), 0);
        Bench.due("best(1)", shop.best(1), 0);
        Bench.due("pin(0, -1)", shop.pin(0, -1), 0);
        Bench.due("pin(1, 1)", shop.pin(1, 1), 0);
        Bench.due("pin(0, -24)", shop.pin(0, -24), 0);
        Bench.due("pin(1, 24)", shop.pin(1, 24), 0);
        Bench.due("pin(0, 23)", shop.pin(0, 23), 1);
        Bench.due("comb(46, 0)", shop.comb(46, 0), 23);
        Bench.due("note(0, 0, 3)", Bench.note(shop, 0, 0, 3), 46);
    }

    private static void refusedShiftsAndTunes() {
        Bench.sentence("NONE if there is no such TUNE read, or no such SHIFT");
        for (int shift : NO_SHIFTS) {
            Bench.unchanged("fit(0, " + shift + ")", CombEdgeTest::busy,
                    shop -> shop.fit(0, shift), -1);
            Bench.unchanged("keeps(0, " + shift + ", 0)", CombEdgeTest::busy,
                    shop -> shop.keeps(0, shift, 0), -1);
            Bench.unchanged("pin(0, " + shift + ")", CombEdgeTest::busy,
                    shop -> shop.pin(0, shift), -1);
            Bench.unchanged("pin(2, " + shift + ")", CombEdgeTest::busy,
                    shop -> shop.pin(2, shift), -1);
        }
        for (int t : new int[] {4, -1, 6, 7, Bench.MIN, Bench.MAX}) {
            Bench.unchanged("fit(" + t + ", 0)", CombEdgeTest::busy, shop -> shop.fit(t, 0), -1);
            Bench.unchanged("keeps(" + t + ", 0, 0)", CombEdgeTest::busy,
                    shop -> shop.keeps(t, 0, 0), -1);
            Bench.unchanged("pin(" + t + ", 0)", CombEdgeTest::busy, shop -> shop.pin(t, 0), -1);
            Bench.unchanged("fewest(" + t + ")", CombEdgeTest::busy, shop -> shop.fewest(t), -1);
            Bench.sentence("BEST of TUNE t; 99 if there is no such TUNE read.");
            Bench.unchanged("best(" + t + ")", CombEdgeTest::busy, shop -> shop.best(t), 99);
        }
        Bench.sentence("NONE if there is no such TUNE read, after it was torn out");
        MusicBoxShop shop = new MusicBoxShop();
        busy(shop);
        shop.tear(0, true);
        Bench.due("fit(0, 0)", shop.fit(0, 0), -1);
        Bench.due("keeps(0, 0, 0)", shop.keeps(0, 0, 0), -1);
        Bench.due("best(0)", shop.best(0), 99);
        Bench.due("fewest(0)", shop.fewest(0), -1);
        Bench.due("pin(0, 0)", shop.pin(0, 0), -1);
    }

    private static void keepsNotes() {
        Bench.sentence("Whether NOTE i would be KEPT so: 1, 0. NONE as fit(), or if there is none"
                + " such.");
        MusicBoxShop shop = new MusicBoxShop();
        busy(shop);
        Bench.due("keeps(0, 0, i)", Bench.keeps(shop, 0, 0), 1, 1, 1, 1, 0);
        for (int i : new int[] {-1, 5, 6, 149, 150, 151, Bench.MIN, Bench.MAX}) {
            Bench.unchanged("keeps(0, 0, " + i + ")", CombEdgeTest::busy,
                    made -> made.keeps(0, 0, i), -1);
        }
        for (int i : new int[] {-1, 0, 1}) {
            Bench.due("keeps(3, 0, " + i + "), no notes", shop.keeps(3, 0, i), -1);
            Bench.due("keeps(4, 0, " + i + "), not read", shop.keeps(4, 0, i), -1);
        }
        MusicBoxShop full = Bench.shopWith(36);
        full.rest(1);
        Bench.read(full, 0, "((c4/1)10)15");
        Bench.due("keeps(0, 0, 149)", full.keeps(0, 0, 149), 1);
        Bench.due("keeps(0, 0, 150)", full.keeps(0, 0, 150), -1);
        Bench.due("keeps(0, 1, 149)", full.keeps(0, 1, 149), 0);
    }

    private static void keptIsTheMost() {
        Bench.sentence("those whose WEIGHTS are the most together");
        MusicBoxShop shop = Bench.shopWith(36);
        Bench.read(shop, 0, "c4*50/5 c4*99/5 c4*50");
        Bench.due("one less than both: keeps", Bench.keeps(shop, 0, 0), 1, 0, 1);
        Bench.read(shop, 0, "c4*49/5 c4*99/5 c4*49");
        Bench.due("one more than both: keeps", Bench.keeps(shop, 0, 0), 0, 1, 0);
        Bench.due("one more than both: fit", shop.fit(0, 0), 99);
        // A chain along which each choice hangs on the last one.
        Bench.read(shop, 0, Bench.times("c4*10/5 ", 8) + "c4*11");
        Bench.due("a chain: keeps", Bench.keeps(shop, 0, 0), 1, 0, 1, 0, 1, 0, 1, 0, 1);
        Bench.read(shop, 0, Bench.times("c4*10/5 ", 8) + "c4*11/5 c4*12");
        Bench.due("a chain: keeps", Bench.keeps(shop, 0, 0), 1, 0, 1, 0, 1, 0, 1, 0, 0, 1);
        // The greatest weight there can be.
        shop.rest(1);
        Bench.read(shop, 0, "((c4*99/3)10)15");
        Bench.due("fit(0, 0)", shop.fit(0, 0), 150 * 99);
        Bench.due("pin(0, 0)", shop.pin(0, 0), 150);
        Bench.due("tune(0, 6)", shop.tune(0, 6), 150 * 99);
        Bench.due("tune(0, 7)", shop.tune(0, 7), 150);
        // Two teeth: the one left out is the least of three.
        MusicBoxShop two = Bench.shopWith(36, 36);
        Bench.read(two, 0, "c4*3/1 c4*2/1 c4*4/1 c4*2/4 c4*1");
        Bench.due("two teeth: keeps", Bench.keeps(two, 0, 0), 1, 0, 1, 0, 1);
        Bench.due("two teeth: fit", two.fit(0, 0), 8);
    }

    private static void keptIsTheFirst() {
        Bench.sentence("of these the first: which has the first NOTE in which two differ");
        MusicBoxShop shop = Bench.shopWith(36);
        Bench.read(shop, 0, "c4/5 c4");
        Bench.due("the first of two", Bench.keeps(shop, 0, 0), 1, 0);
        Bench.read(shop, 0, "c4*9/5 c4");
        Bench.due("the heavier of two", Bench.keeps(shop, 0, 0), 0, 1);
        Bench.read(shop, 0, "c4/5 c4/5 c4/5 c4");
        Bench.due("two of four", Bench.keeps(shop, 0, 0), 1, 0, 1, 0);
        // The first is in by 1 and 98 as well as not by 99: the same weight, so it is in.
        Bench.read(shop, 0, "c4*1/5 c4*99/5 c4*98");
        Bench.due("by 1 and 98", Bench.keeps(shop, 0, 0), 1, 0, 1);
        Bench.read(shop, 0, "c4*1/5 c4*99/5 c4*97");
        Bench.due("by 1 and 97", Bench.keeps(shop, 0, 0), 0, 1, 0);
        // Alike at the beginning: the first NOTE in which two differ is a later one.
        Bench.read(shop, 0, "c4 c4/5 c4/5 c4/5 c4");
        Bench.due("alike at first", Bench.keeps(shop, 0, 0), 1, 1, 0, 1, 0);
        // Two teeth, three alike at a time: the first two of them.
        MusicBoxShop two = Bench.shopWith(36, 36);
        Bench.read(two, 0, Bench.times("c4/2 ", 8));
        Bench.due("two teeth", Bench.keeps(two, 0, 0), 1, 1, 0, 1, 1, 0, 1, 1);
        two.breaks(0, true);
        Bench.due("one tooth", Bench.keeps(two, 0, 0), 1, 0, 0, 1, 0, 0, 1, 0);
        // Each PITCH is chosen for itself: the lower one at a TICK is the first.
        MusicBoxShop both = Bench.shopWith(36, 38);
        Bench.read(both, 0, "[d4 c4]/5 [c4 d4]");
        Bench.due("two pitches", Bench.keeps(both, 0, 0), 1, 1, 0, 0);
    }

    private static void keptTeeth() {
        Bench.sentence("the first TOOTH of its PITCH that is whole and whose NOTE ahead is REST or"
                + " more TICKS ahead");
        MusicBoxShop shop = Bench.shopWith(40, 36, 40, 36, 36);
        Bench.read(shop, 0, "c4/6 c4/6 c4");
        shop.pin(0, 0);
        Bench.due("REST ahead: the first", Bench.notes(shop, 0, 3), 1, 1, 1);
        Bench.read(shop, 0, "c4/5 c4/5 c4/1 c4");
        shop.pin(0, 0);
        Bench.due("one less: the next", Bench.notes(shop, 0, 3), 1, 3, 1, 3);
        Bench.read(shop, 0, "c4/2 c4/2 c4/2 c4/7 c4");
        shop.pin(0, 0);
        Bench.due("three", Bench.notes(shop, 0, 3), 1, 3, 4, 1, 1);
        shop.breaks(1, true);
        shop.pin(0, 0);
        Bench.due("one broken", Bench.notes(shop, 0, 3), 3, 4, -1, 3, 3);
        shop.breaks(3, true);
        shop.pin(0, 0);
        Bench.due("two broken", Bench.notes(shop, 0, 3), 4, -1, -1, 4, 4);
        shop.breaks(4, true);
        Bench.due("pin, three broken", shop.pin(0, 0), 0);
        Bench.due("three broken", Bench.notes(shop, 0, 3), -1, -1, -1, -1, -1);
        shop.breaks(1, false);
        shop.rest(1);
        shop.pin(0, 0);
        Bench.due("rest 1", Bench.notes(shop, 0, 3), 1, 1, 1, 1, 1);
        // The first NOTE of a TOOTH has none ahead, even at TICK 0 and with the longest REST.
        shop.rest(48);
        shop.pin(0, 0);
        Bench.due("rest 48", Bench.notes(shop, 0, 3), 1, -1, -1, -1, -1);
    }

    private static void best() {
        Bench.sentence("BEST is the SHIFT with the most WEIGHT KEPT");
        MusicBoxShop shop = Bench.shopWith(36);
        String[] texts = {"c2", "b1", "c6", "c#6", "c4", "", "b3 b3", "[c4 c#4*11]", "[c2*11 c4]",
            "[c6*11 c4]", "[c4*11 c2]", "b#1*11 c4"};
        int[] bests = {24, 0, -24, 0, 0, 0, 1, -1, 24, -24, 0, 24};
        for (int n = 0; n < texts.length; n++) {
            Bench.read(shop, 0, texts[n]);
            Bench.due("best of " + texts[n], shop.best(0), bests[n]);
        }
        // One more of WEIGHT is enough, however far it is.
        Bench.read(shop, 0, "[c2*11 b3 c4 c#4]");
        Bench.due("best, 24 up by one more", shop.best(0), 24);
        Bench.read(shop, 0, "[c2 b3 c4 c#4]");
        Bench.due("best, all alike", shop.best(0), 0);
        // REST and BROKEN TEETH count.
        Bench.read(shop, 0, "c4*9/1 c4*9/1 d4/6 d4");
        Bench.due("best, rest 6", shop.best(0), -2);
        shop.rest(1);
        Bench.read(shop, 0, "c4/1 c4*11/1 d4/6 d4");
        Bench.due("best, rest 1", shop.best(0), 0);
        shop.breaks(0, true);
        Bench.due("best, no whole tooth", shop.best(0), 0);
        Bench.due("best, no teeth", onlyTune("c4").best(0), 0);
        bestOfEnds();
        bestOfTeeth();
    }

    /** The lowest and the highest PITCH, and the furthest SHIFTS that they have. */
    private static void bestOfEnds() {
        MusicBoxShop shop = Bench.shopWith(24);
        Bench.read(shop, 0, "c1");
        Bench.due("best, c1 moved up by 24", shop.best(0), 24);
        shop = Bench.shopWith(25);
        Bench.read(shop, 0, "c1");
        Bench.due("best, c1 would be moved up by 25", shop.best(0), 0);
        shop = Bench.shopWith(63);
        Bench.read(shop, 0, "d#8");
        Bench.due("best, d#8 moved down by 24", shop.best(0), -24);
        shop = Bench.shopWith(62);
        Bench.read(shop, 0, "d#8");
        Bench.due("best, d#8 would be moved down by 25", shop.best(0), 0);
        shop = Bench.shopWith(0, 87);
        Bench.read(shop, 0, "c#1");
        Bench.due("best, c#1 moved to the lowest tooth", shop.best(0), -1);
        Bench.read(shop, 0, "d8");
        Bench.due("best, d8 moved to the highest tooth", shop.best(0), 1);
    }

    /** One, two and three TEETH of a PITCH keep so many NOTES at once. */
    private static void bestOfTeeth() {
        MusicBoxShop shop = Bench.shopWith(36, 38, 38, 40, 40, 40);
        Bench.read(shop, 0, "c4/1 c4/1 c4/1 c4");
        Bench.due("best, three teeth", shop.best(0), 4);
        shop.breaks(3, true);
        Bench.due("best, two teeth", shop.best(0), 2);
        shop.breaks(1, true);
        Bench.due("best, two teeth further up", shop.best(0), 4);
        shop.breaks(5, true);
        Bench.due("best, one tooth", shop.best(0), 0);
        Bench.due("fit(0, 4)", shop.fit(0, 4), 10);
    }

    private static MusicBoxShop onlyTune(String text) {
        MusicBoxShop shop = new MusicBoxShop();
        Bench.read(shop, 0, text);
        return shop;
    }

    private static void bestTies() {
        Bench.sentence("of these that with the least size, then that above 0");
        for (int size = 1; size <= 24; size++) {
            MusicBoxShop shop = Bench.shopWith(36 - size, 36 + size);
            Bench.read(shop, 0, "c4");
            Bench.due("best, " + size + " both ways", shop.best(0), size);
            shop.breaks(1, true);
            Bench.due("best, down alone", shop.best(0), -size);
            shop.breaks(0, true);
            shop.breaks(1, false);
            Bench.due("best, up alone", shop.best(0), size);
            MusicBoxShop nearer = Bench.shopWith(36 - size, 36 + size + 1, 36 - size - 1);
            Bench.read(nearer, 0, "c4");
            Bench.due("best, down is nearer", nearer.best(0), -size);
            nearer.tooth(36);
            Bench.due("best, 0 is nearest", nearer.best(0), 0);
        }
    }

    private static void fewest() {
        Bench.sentence("The fewest TEETH .. of a comb of their own with which all NOTES of TUNE t"
                + " would be KEPT");
        MusicBoxShop shop = new MusicBoxShop();
        String[] texts = {"", "r", "c4", "c1", "d#8", "c4 c4", "c4/5 c4", "c4 d4", "[c4 d4]",
            "c4/5 c4/5 c4/5 c4", "c4/3 c4/2 c4", "c4/3 c4/3 c4", "c4 c4/5 c4", "c4 c4 c4/1 c4/1 c4",
            "c4 c4 c4/1 c4/1 c4/1 c4", "c4/1 c4/1 c4 c4 c4", "c4/1 c4/5 c4/1 c4/5 c4/1 c4"};
        int[] teeth = {0, 0, 1, 1, 1, 1, 2, 2, 2, 2, 3, 2, 2, 3, -2, 3, 2};
        for (int n = 0; n < texts.length; n++) {
            Bench.read(shop, 0, texts[n]);
            Bench.due("fewest of " + texts[n], shop.fewest(0), teeth[n]);
        }
        // The comb that there is has no part in it.
        Bench.read(shop, 0, "c4/5 c4");
        shop.tooth(36);
        Bench.due("one tooth there", shop.fewest(0), 2);
        shop.breaks(0, true);
        Bench.due("a broken one", shop.fewest(0), 2);
        for (int k = 1; k < 60; k++) {
            shop.tooth(40 + k % 40);
        }
        Bench.due("a full comb", shop.fewest(0), 2);
        shop.pin(0, 4);
        Bench.due("pinned with a shift", shop.fewest(0), 2);
    }

    private static void fewestOfOne() {
        Bench.sentence("-2 if a PITCH would need more");
        MusicBoxShop shop = new MusicBoxShop();
        for (int notes = 1; notes <= 5; notes++) {
            Bench.read(shop, 0, Bench.times("c4/1 ", notes));
            Bench.due(notes + " at once", shop.fewest(0), notes <= 3 ? notes : -2);
        }
        Bench.read(shop, 0, "c4/1 c4/1 c4/3 c4");
        Bench.due("four within 5", shop.fewest(0), -2);
        Bench.read(shop, 0, "c4/1 c4/1 c4/4 c4");
        Bench.due("four within 6", shop.fewest(0), 3);
        shop.rest(7);
        Bench.due("four within 6, rest 7", shop.fewest(0), -2);
        // The one PITCH that needs more is the highest, and the last.
        shop.rest(6);
        Bench.read(shop, 0, "c1 (d#8/1)4");
        Bench.due("the highest needs four", shop.fewest(0), -2);
        Bench.read(shop, 0, "c1 (d#8/1)3");
        Bench.due("the highest needs three", shop.fewest(0), 4);
        Bench.read(shop, 0, "(c1/1)4 d#8");
        Bench.due("the lowest needs four", shop.fewest(0), -2);
        shop.rest(48);
        Bench.read(shop, 0, "c4/16 c4/16 c4/16 c4");
        Bench.due("rest 48, four within 48", shop.fewest(0), 3);
        Bench.read(shop, 0, "c4/16 c4/16 c4/15 c4");
        Bench.due("rest 48, four within 47", shop.fewest(0), -2);
    }

    private static void fewestOfAll() {
        Bench.sentence("-2 if .. there would be more than 60");
        String chords = "[c1d1e1f1g1a1b1c2d2e2f2g2][c3d3e3f3g3a3b3c4d4e4f4g4]"
                + "[c5d5e5f5g5a5b5c6d6e6f6g6][c7d7e7f7g7a7b7c8d8c#7d#7f#7]"
                + "[c#1d#1f#1g#1a#1c#2d#2f#2g#2a#2a2b2]";
        MusicBoxShop shop = new MusicBoxShop();
        Bench.due("read", Bench.read(shop, 0, chords), 60);
        Bench.due("60 pitches", shop.fewest(0), 60);
        Bench.read(shop, 0, chords + "c1");
        Bench.due("one of them twice, with rest between", shop.fewest(0), 60);
        Bench.read(shop, 0, chords + "d#8");
        Bench.due("61 pitches", shop.fewest(0), -2);
        shop.rest(31);
        Bench.read(shop, 0, chords + "c1");
        Bench.due("one of them twice at once", shop.fewest(0), -2);
        shop.rest(30);
        Bench.due("one of them twice, with just enough rest", shop.fewest(0), 60);
        shop.rest(6);
        String threes = "([c1d1e1f1g1a1b1c2d2e2]/1)3([c3d3e3f3g3a3b3c4d4e4]/1)3";
        Bench.read(shop, 0, threes);
        Bench.due("three of 20 pitches", shop.fewest(0), 60);
        Bench.read(shop, 0, threes + "c5");
        Bench.due("three of 20 pitches, and one", shop.fewest(0), -2);
        Bench.read(shop, 0, "([c1d1e1f1g1a1b1c2d2e2]/1)3([c3d3e3f3g3a3b3c4d4]/1)3 c5/1 c5");
        Bench.due("59", shop.fewest(0), 59);
    }

    private static void pin() {
        Bench.sentence("TUNE t is PINNED with a SHIFT: how many NOTES are KEPT.");
        MusicBoxShop shop = new MusicBoxShop();
        busy(shop);
        Bench.due("pin(3, 0), no notes", shop.pin(3, 0), 0);
        Bench.due("tune(3, 2)", shop.tune(3, 2), 1);
        Bench.due("pin(2, 20), none kept", shop.pin(2, 20), 0);
        Bench.due("tune(2, 2)", shop.tune(2, 2), 1);
        Bench.due("tune(2, 3)", shop.tune(2, 3), 20);
        Bench.due("tune(2, 6)", shop.tune(2, 6), 0);
        Bench.due("pin(2, 0), two of four", shop.pin(2, 0), 2);
        Bench.due("pin(2, -24)", shop.pin(2, -24), 0);
        Bench.due("tune(2, 3)", shop.tune(2, 3), -24);
        Bench.due("pin(2, 24)", shop.pin(2, 24), 0);
        Bench.due("tune(2, 3)", shop.tune(2, 3), 24);
        // All six at once, each with all that it can have.
        MusicBoxShop full = Bench.shopWith(0);
        full.rest(1);
        for (int t = 0; t < 6; t++) {
            Bench.read(full, t, "((c1/1)10)15");
            Bench.due("pin(" + t + ", 0)", full.pin(t, 0), 150);
        }
        Bench.changesOnly("pin(2, 0)", CombEdgeTest::busy, made -> made.pin(2, 0), 2, "tune 2",
                "note 2", "tooth", "plucks", "crowds", "arrange");
    }

    private static void pinAnew() {
        Bench.sentence("A TUNE that is .. PINNED anew .. has no SILENT NOTES, no BENT PINS, and"
                + " START 0.");
        MusicBoxShop shop = new MusicBoxShop();
        busy(shop);
        Bench.due("pin(0, 0), as it was", shop.pin(0, 0), 4);
        Bench.due("tune(0, 4)", shop.tune(0, 4), 0);
        Bench.due("note(0, i, 5)", Bench.notes(shop, 0, 5), 0, 0, 0, 0, 0);
        Bench.due("note(0, i, 6)", Bench.notes(shop, 0, 6), 0, 0, 0, 0, 0);
        Bench.due("faults()", shop.faults(), 0);
        Bench.due("tune(5, 4), another's start", shop.tune(5, 4), 63);
        // With START 63 and a PIN at 416, a SHIFT that keeps one at 479 is none too late.
        MusicBoxShop late = Bench.shopWith(36, 38);
        Bench.read(late, 0, "(r/96)4 r/32 c4/63 d4");
        late.pin(0, 2);
        Bench.due("start(0, 63)", late.start(0, 63), true);
        Bench.due("pin(0, 0)", late.pin(0, 0), 2);
        Bench.due("tune(0, 4)", late.tune(0, 4), 0);
        Bench.due("plucks(1, 0)", late.plucks(1, 0), 479);
    }

    private static void pinsStay() {
        Bench.sentence("The WEIGHT that would be KEPT of TUNE t with a SHIFT (PINS stay).");
        for (int t : new int[] {0, 1, 2, 3, 5}) {
            MusicBoxShop shop = new MusicBoxShop();
            busy(shop);
            for (int shift : new int[] {-24, -2, 0, 24}) {
                int fit = shop.fit(t, shift);
                Bench.unchanged("fit(" + t + ", " + shift + ")", CombEdgeTest::busy,
                        made -> made.fit(t, shift), fit);
                int keeps = shop.keeps(t, shift, 0);
                Bench.unchanged("keeps(" + t + ", " + shift + ", 0)", CombEdgeTest::busy,
                        made -> made.keeps(t, shift, 0), keeps);
            }
            int best = shop.best(t);
            Bench.unchanged("best(" + t + ")", CombEdgeTest::busy, made -> made.best(t), best);
            int fewest = shop.fewest(t);
            Bench.unchanged("fewest(" + t + ")", CombEdgeTest::busy, made -> made.fewest(t),
                    fewest);
        }
        MusicBoxShop shop = new MusicBoxShop();
        busy(shop);
        Bench.due("fit(3, 0), no notes", shop.fit(3, 0), 0);
        Bench.due("fit(3, 24)", shop.fit(3, 24), 0);
        Bench.due("fit(3, -24)", shop.fit(3, -24), 0);
        Bench.due("fit(3, 25)", shop.fit(3, 25), -1);
    }

    private static void tuneWhats() {
        Bench.sentence("NONE for others, or if it is not read.");
        MusicBoxShop shop = new MusicBoxShop();
        busy(shop);
        int[][] all = {{5, 45, 1, 0, 7, 4, 35, 3}, {3, 30, 1, -2, 0, 2, 20, 2},
            {4, 40, 0, 0, 0, 0, 0, 0}, {0, 0, 0, 0, 0, 0, 0, 0}, {-1, -1, -1, -1, -1, -1, -1, -1},
            {1, 10, 1, 0, 63, 0, 0, 0}};
        for (int t = 0; t < 6; t++) {
            for (int what = 0; what < 8; what++) {
                Bench.due("tune(" + t + ", " + what + ")", shop.tune(t, what), all[t][what]);
            }
            for (int what : new int[] {-1, 8, 9, Bench.MIN, Bench.MAX}) {
                Bench.due("tune(" + t + ", " + what + ")", shop.tune(t, what), -1);
            }
        }
        for (int t : NO_TUNES) {
            for (int what = -1; what <= 8; what++) {
                Bench.due("tune(" + t + ", " + what + ")", shop.tune(t, what), -1);
            }
        }
        Bench.unchanged("tune(0, 7)", CombEdgeTest::busy, made -> made.tune(0, 7), 3);
        Bench.unchanged("tune(4, 0)", CombEdgeTest::busy, made -> made.tune(4, 0), -1);
    }

    private static void tuneNotPinned() {
        Bench.sentence("(3 to 7: 0 if it is not PINNED)");
        MusicBoxShop shop = Bench.shopWith(38);
        Bench.read(shop, 5, "c4 c4*5");
        shop.pin(5, 2);
        shop.start(5, 9);
        int[] pinned = {2, 15, 1, 2, 9, 2, 15, 2};
        int[] torn = {2, 15, 0, 0, 0, 0, 0, 0};
        for (int what = 0; what < 8; what++) {
            Bench.due("tune(5, " + what + "), pinned", shop.tune(5, what), pinned[what]);
        }
        shop.tear(5, false);
        for (int what = 0; what < 8; what++) {
            Bench.due("tune(5, " + what + "), no more", shop.tune(5, what), torn[what]);
        }
        shop.tear(5, true);
        for (int what = 0; what < 8; what++) {
            Bench.due("tune(5, " + what + "), torn out", shop.tune(5, what), -1);
        }
    }

    private static void noteWhats() {
        Bench.sentence("what 0: its TICK .. 6: its PIN BENT (1, 0)");
        int[][] all = {{0, 36, 5, 0, 1, 0, 0}, {3, 36, 10, 1, 0, 0, 1}, {6, 38, 10, 2, 1, 1, 0},
            {12, 36, 10, 0, 1, 0, 0}, {18, 40, 10, -1, 0, 0, 0}};
        MusicBoxShop shop = new MusicBoxShop();
        busy(shop);
        for (int i = 0; i < 5; i++) {
            for (int what = 0; what < 7; what++) {
                Bench.due("note(0, " + i + ", " + what + ")", Bench.note(shop, 0, i, what),
                        all[i][what]);
            }
        }
        Bench.sentence("3: its TOOTH (NONE: it is not KEPT, or the TUNE not PINNED)");
        Bench.due("note(2, i, 3), not pinned", Bench.notes(shop, 2, 3), -1, -1, -1, -1);
        Bench.due("note(2, i, 4), not pinned", Bench.notes(shop, 2, 4), 0, 0, 0, 0);
        Bench.due("note(5, 0, 3), not kept", Bench.note(shop, 5, 0, 3), -1);
        shop.tear(0, false);
        for (int what = 3; what < 7; what++) {
            int want = what == 3 ? -1 : 0;
            Bench.due("note(0, i, " + what + "), no more pinned", Bench.notes(shop, 0, what), want,
                    want, want, want, want);
        }
    }

    private static void noteRefused() {
        Bench.sentence("NoSuchElementException: there is none such, or another what.");
        MusicBoxShop shop = new MusicBoxShop();
        busy(shop);
        for (int i = 0; i < 5; i++) {
            for (int what : new int[] {-1, 7, 8, Bench.MIN, Bench.MAX}) {
                Bench.due("note(0, " + i + ", " + what + ")", Bench.note(shop, 0, i, what),
                        Bench.THROWS);
            }
        }
        for (int i : new int[] {-1, 5, 6, 149, 150, 151, Bench.MIN, Bench.MAX}) {
            for (int what = -1; what <= 7; what++) {
                Bench.due("note(0, " + i + ", " + what + ")", Bench.note(shop, 0, i, what),
                        Bench.THROWS);
            }
        }
        for (int t : new int[] {3, 4, -1, 6, 7, Bench.MIN, Bench.MAX}) {
            for (int what = -1; what <= 7; what++) {
                Bench.due("note(" + t + ", 0, " + what + ")", Bench.note(shop, t, 0, what),
                        Bench.THROWS);
            }
        }
        for (int far : FAR) {
            int i = far;
            Bench.unchanged("note(0, " + i + ", 0)", CombEdgeTest::busy,
                    made -> Bench.note(made, 0, i, 0), Bench.THROWS);
            Bench.unchanged("note(0, 0, " + i + ")", CombEdgeTest::busy,
                    made -> Bench.note(made, 0, 0, i), Bench.THROWS);
        }
        Bench.unchanged("note(4, 0, 0)", CombEdgeTest::busy, made -> Bench.note(made, 4, 0, 0),
                Bench.THROWS);
        Bench.unchanged("note(0, 1, 6)", CombEdgeTest::busy, made -> Bench.note(made, 0, 1, 6), 1);
    }
}

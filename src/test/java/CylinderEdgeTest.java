/** The edges of Terms 3 and of promises 16 to 26: STARTS, CROWDS, ARRANGE, what is HEARD, FAULTS. */
public final class CylinderEdgeTest {
    private static final int[] NO_TUNES = {-1, 6, 7, Bench.MIN, Bench.MAX};
    /** 61 PINS, each third TICK from 0 to 180: two such CROWD with every START of both. */
    private static final String DENSE = "((c4/3)20)3 c4";
    private static final String TO_416 = "(r/96)4 r/32 ";

    public static void main(String[] args) {
        tearRefused();
        tear();
        startRange();
        startLength();
        startRefused();
        startChanges();
        crowdLanes();
        crowdTicks();
        crowdNoWrap();
        crowdOneTune();
        crowdCounts();
        crowdFirst();
        crowdWhats();
        arrangeNone();
        arrangeFew();
        arrangeNeighbours();
        arrangeLastStart();
        arrangeLength();
        arrangeAhead();
        arrangeImpossible();
        arrangeSpent();
        bendRefused();
        bend();
        silentRefused();
        silent();
        listen();
        faultsOfTeeth();
        faultsFull();
        suspectOrder();
        suspectRefused();
        plucksOrder();
        plucksRefused();
        Bench.end();
    }

    /**
     * TUNES 0, 1 and 5 PINNED and CROWDING, 2 read, 3 PINNED without NOTES, 4 not read; a bent PIN,
     * SILENT NOTES, a BROKEN TOOTH, REST 5, bytes on the tape and a FAULT.
     */
    private static void busy(MusicBoxShop shop) {
        shop.tooth(36);
        shop.tooth(36);
        shop.tooth(38);
        shop.tooth(36);
        Bench.read(shop, 0, "c4*5/3 c4/3 d4 c4 e4");
        Bench.read(shop, 1, "c4 d4 e4 c4");
        Bench.read(shop, 2, "c4/1 c4/1 c4/1 c4");
        shop.read(0, 3);
        Bench.read(shop, 5, "c4/1 c4/1 c4");
        shop.pin(0, 0);
        shop.pin(1, 0);
        shop.pin(3, 0);
        shop.pin(5, 0);
        shop.start(1, 1);
        shop.start(3, 63);
        shop.bend(0, 1, true);
        shop.silent(0, 2, true);
        shop.silent(1, 0, true);
        shop.breaks(3, true);
        shop.rest(5);
        Bench.read(shop, 0, "c4 d");
        Bench.feed(shop, "c1 d1 e1");
    }

    /** A shop with TEETH of c4, d4 and e4; TUNES by their texts, PINNED; null: not read. */
    private static MusicBoxShop pinned(int rest, String... texts) {
        MusicBoxShop shop = Bench.shopWith(36, 38, 40);
        shop.rest(rest);
        for (int t = 0; t < texts.length; t++) {
            if (texts[t] != null) {
                Bench.read(shop, t, texts[t]);
                shop.pin(t, 0);
            }
        }
        return shop;
    }

    private static void tearRefused() {
        Bench.sentence("TUNE t is PINNED no more (out false) or read no more (true): true; false if"
                + " it isn't so.");
        Bench.unchanged("tear(2, false), not pinned", CylinderEdgeTest::busy,
                shop -> Bench.bit(shop.tear(2, false)), 0);
        for (int t : new int[] {4, -1, 6, 7, Bench.MIN, Bench.MAX}) {
            Bench.unchanged("tear(" + t + ", false)", CylinderEdgeTest::busy,
                    shop -> Bench.bit(shop.tear(t, false)), 0);
            Bench.unchanged("tear(" + t + ", true)", CylinderEdgeTest::busy,
                    shop -> Bench.bit(shop.tear(t, true)), 0);
        }
        MusicBoxShop shop = new MusicBoxShop();
        busy(shop);
        for (int t : new int[] {0, 1, 3, 5}) {
            Bench.due("tear(" + t + ", false)", shop.tear(t, false), true);
            Bench.due("tear(" + t + ", false), once more", shop.tear(t, false), false);
        }
        for (int t : new int[] {0, 1, 2, 3, 5}) {
            Bench.due("tear(" + t + ", true)", shop.tear(t, true), true);
            Bench.due("tear(" + t + ", true), once more", shop.tear(t, true), false);
            Bench.due("tear(" + t + ", false), torn out", shop.tear(t, false), false);
        }
    }

    private static void tear() {
        Bench.sentence("A TUNE that is .. PINNED no more has no SILENT NOTES, no BENT PINS, and"
                + " START 0.");
        Bench.changesOnly("tear(0, false)", CylinderEdgeTest::busy,
                shop -> Bench.bit(shop.tear(0, false)), 1, "tune 0", "note 0", "tooth", "plucks",
                "crowds", "faults", "arrange");
        Bench.changesOnly("tear(0, true)", CylinderEdgeTest::busy,
                shop -> Bench.bit(shop.tear(0, true)), 1, "tune 0", "note 0", "choice 0", "tooth",
                "plucks", "crowds", "faults", "arrange");
        Bench.changesOnly("tear(2, true), read alone", CylinderEdgeTest::busy,
                shop -> Bench.bit(shop.tear(2, true)), 1, "tune 2", "note 2", "choice 2",
                "arrange");
        for (int again = 0; again < 2; again++) {
            MusicBoxShop shop = Bench.shopWith(36);
            Bench.read(shop, 5, "c4 c4");
            shop.pin(5, 0);
            shop.start(5, 63);
            shop.bend(5, 0, true);
            shop.silent(5, 1, true);
            shop.tear(5, again == 1);
            Bench.due("faults()", shop.faults(), 0);
            Bench.due("listen()", shop.listen(), 0);
            Bench.due("plucks(0, 0)", shop.plucks(0, 0), -2);
            Bench.due("comb(0, 2)", shop.comb(0, 2), 0);
            Bench.due("arrange()", shop.arrange(), 0);
            if (again == 1) {
                Bench.read(shop, 5, "c4 c4");
            }
            Bench.due("tune(5, 4)", shop.tune(5, 4), 0);
            shop.pin(5, 0);
            Bench.due("tune(5, 4), pinned again", shop.tune(5, 4), 0);
            Bench.due("note(5, i, 5), pinned again", Bench.notes(shop, 5, 5), 0, 0);
            Bench.due("note(5, i, 6), pinned again", Bench.notes(shop, 5, 6), 0, 0);
        }
    }

    private static void startRange() {
        Bench.sentence("TUNE t, PINNED, has a START (0 to 63): true");
        MusicBoxShop shop = pinned(6, "c4 d4", "c4", "c4", "c4", "c4", "c4");
        for (int t = 0; t < 6; t++) {
            Bench.due("START, 0 at first", shop.tune(t, 4), 0);
        }
        for (int ticks = 0; ticks <= 63; ticks++) {
            Bench.due("start(0, " + ticks + ")", shop.start(0, ticks), true);
            Bench.due("tune(0, 4)", shop.tune(0, 4), ticks);
            Bench.due("plucks(1, 0)", shop.plucks(1, 0), 6 + ticks);
        }
        Bench.due("start(0, 63) once more", shop.start(0, 63), true);
        Bench.due("start(5, 63)", shop.start(5, 63), true);
        Bench.due("START of each", Bench.starts(shop), 63, 0, 0, 0, 0, 63);
        for (int ticks : new int[] {-1, 64, -2, 65, -63, 479, Bench.MIN, Bench.MAX}) {
            Bench.unchanged("start(1, " + ticks + ")", CylinderEdgeTest::busy,
                    made -> Bench.bit(made.start(1, ticks)), 0);
            Bench.unchanged("start(3, " + ticks + "), without a pin", CylinderEdgeTest::busy,
                    made -> Bench.bit(made.start(3, ticks)), 0);
        }
    }

    private static void startLength() {
        Bench.sentence("false .. if a PIN would be at a TICK above 479");
        for (int tick = 414; tick <= 479; tick++) {
            String text = "c4 (r/96)4 r/" + (tick - 390) + " c4 ";
            MusicBoxShop shop = pinned(6, text);
            Bench.due("the tick", Bench.note(shop, 0, 1, 0), tick);
            int most = Math.min(63, 479 - tick);
            Bench.due("start " + most + ", last pin at " + tick, shop.start(0, most), true);
            Bench.due("start " + (most + 1) + ", last pin at " + tick, shop.start(0, most + 1),
                    false);
            Bench.due("start 64", shop.start(0, 64), false);
            Bench.due("tune(0, 4) stays", shop.tune(0, 4), most);
            Bench.due("plucks(0, 1)", shop.plucks(0, 1), tick + most);
            Bench.due("start 0", shop.start(0, 0), true);
        }
        // Only PINS count, not NOTES that are not KEPT; and BENT ones and BROKEN TEETH do.
        MusicBoxShop shop = pinned(6, TO_416 + "c4/63 f4");
        Bench.due("a note at 479, not kept", shop.start(0, 63), true);
        MusicBoxShop bent = pinned(6, TO_416 + "c4/1 d4");
        bent.bend(0, 1, true);
        bent.breaks(1, true);
        Bench.due("bent and broken, to 480", bent.start(0, 63), false);
        Bench.due("bent and broken, to 479", bent.start(0, 62), true);
        MusicBoxShop none = pinned(6, TO_416 + "f4/63 f4", "");
        Bench.due("no pins at all", none.start(0, 63), true);
        Bench.due("no notes at all", none.start(1, 63), true);
        Bench.due("tune(1, 4)", none.tune(1, 4), 63);
    }

    private static void startRefused() {
        Bench.sentence("TUNE t, PINNED, has a START: true; false for others");
        for (int ticks : new int[] {0, 1, 63}) {
            Bench.unchanged("start(2, " + ticks + "), not pinned", CylinderEdgeTest::busy,
                    shop -> Bench.bit(shop.start(2, ticks)), 0);
            Bench.unchanged("start(4, " + ticks + "), not read", CylinderEdgeTest::busy,
                    shop -> Bench.bit(shop.start(4, ticks)), 0);
            for (int t : NO_TUNES) {
                Bench.unchanged("start(" + t + ", " + ticks + ")", CylinderEdgeTest::busy,
                        shop -> Bench.bit(shop.start(t, ticks)), 0);
            }
        }
        Bench.unchanged("start to 480", shop -> {
            busy(shop);
            shop.read(0, 2);
            Bench.read(shop, 2, "c4 (r/96)4 r/89 c4");
            shop.pin(2, 0);
        }, shop -> Bench.bit(shop.start(2, 1)), 0);
    }

    private static void startChanges() {
        Bench.sentence("A TUNE's START is a number of TICKS, by which all its PINS are later");
        Bench.changesOnly("start(1, 9)", CylinderEdgeTest::busy,
                shop -> Bench.bit(shop.start(1, 9)), 1, "tune 1", "plucks", "crowds");
        MusicBoxShop shop = new MusicBoxShop();
        busy(shop);
        shop.start(1, 9);
        Bench.due("note(1, i, 0), as read", Bench.notes(shop, 1, 0), 0, 6, 12, 18);
        Bench.due("tune(1, 4)", shop.tune(1, 4), 9);
        Bench.due("plucks(2, 1)", shop.plucks(2, 1), 15);
        Bench.unchanged("start(1, 1), as it is", CylinderEdgeTest::busy,
                made -> Bench.bit(made.start(1, 1)), 1);
    }

    private static void crowdLanes() {
        Bench.sentence("The LANE of a PIN is 6 times its TOOTH, and its TUNE. Two PINS CROWD, if"
                + " their LANES are 1 apart");
        String[] notes = {"c4", "d4", "e4"};
        for (int n = 0; n < 18 * 18; n++) {
            int lane = n / 18;
            int other = n % 18;
            int t = lane % 6;
            int u = other % 6;
            if (t >= u) {
                continue;
            }
            MusicBoxShop shop = Bench.shopWith(36, 38, 40);
            Bench.read(shop, t, notes[lane / 6]);
            Bench.read(shop, u, notes[other / 6]);
            shop.pin(t, 0);
            Bench.due("crowds(), one pin", shop.crowds(), 0);
            shop.pin(u, 0);
            boolean crowd = Math.abs(lane - other) == 1;
            String name = "lanes " + lane + " and " + other + ": ";
            Bench.due(name + "crowds()", shop.crowds(), crowd ? 1 : 0);
            Bench.due(name + "crowd(0)", shop.crowd(0), crowd ? t : -1);
            Bench.due(name + "crowd(2)", shop.crowd(2), crowd ? u : -1);
            Bench.due(name + "arrange()", shop.arrange(), crowd ? 4 : 2);
        }
    }

    private static void crowdTicks() {
        Bench.sentence("and their TICKS (with START) less than 2 apart");
        for (int apart = -5; apart <= 5; apart++) {
            MusicBoxShop shop = pinned(6, "r/20 c4", "r/" + (20 + apart) + " c4");
            int want = Math.abs(apart) < 2 ? 1 : 0;
            Bench.due(apart + " apart: crowds()", shop.crowds(), want);
            Bench.due(apart + " apart: crowd(0)", shop.crowd(0), want - 1);
            for (int start = 0; start <= 63; start++) {
                shop.start(1, start);
                Bench.due(apart + " apart, start " + start, shop.crowds(),
                        Math.abs(apart + start) < 2 ? 1 : 0);
                shop.start(0, start);
                Bench.due(apart + " apart, both with start " + start, shop.crowds(), want);
                shop.start(0, 0);
            }
        }
    }

    private static void crowdNoWrap() {
        Bench.sentence("LANES are 1 apart and their TICKS .. less than 2 apart, and none is round");
        MusicBoxShop shop = pinned(6, "c4", "(r/96)4 r/95 c4");
        Bench.due("ticks 0 and 479", shop.crowds(), 0);
        shop.start(0, 1);
        Bench.due("ticks 1 and 479", shop.crowds(), 0);
        Bench.due("arrange()", shop.arrange(), 2);
        // The first LANE of all and the last one.
        MusicBoxShop ends = new MusicBoxShop();
        for (int k = 0; k < 60; k++) {
            ends.tooth(20 + k);
        }
        Bench.read(ends, 0, "g#2");
        Bench.read(ends, 5, "g7");
        Bench.due("pin(0, 0)", ends.pin(0, 0), 1);
        Bench.due("pin(5, 0)", ends.pin(5, 0), 1);
        Bench.due("teeth 0 and 59", Bench.note(ends, 0, 0, 3) + Bench.note(ends, 5, 0, 3), 59);
        Bench.due("lanes 0 and 359", ends.crowds(), 0);
        Bench.due("arrange()", ends.arrange(), 2);
        // The last two LANES of all.
        Bench.read(ends, 4, "g7");
        ends.pin(4, 0);
        Bench.due("lanes 358 and 359", ends.crowds(), 1);
    }

    private static void crowdOneTune() {
        Bench.sentence("How many pairs of PINS CROWD.");
        // PINS of one TUNE are on LANES 6 apart, or on one LANE.
        MusicBoxShop shop = pinned(1, "(c4/1 d4/1 [c4 d4 e4]/1)9");
        Bench.due("one tune", shop.crowds(), 0);
        Bench.due("crowd", Bench.crowd(shop), -1, -1, -1, -1);
        Bench.read(shop, 2, "(c4/1 d4/1 [c4 d4 e4]/1)9");
        shop.pin(2, 0);
        Bench.due("two tunes, lanes 2 apart", shop.crowds(), 0);
        Bench.read(shop, 1, "c4");
        Bench.due("one between, not pinned", shop.crowds(), 0);
        shop.pin(1, 0);
        Bench.due("one between, with both", shop.crowds(), 2);
        shop.tear(1, false);
        Bench.due("no more", shop.crowds(), 0);
    }

    private static void crowdCounts() {
        Bench.sentence("How many pairs of PINS CROWD.");
        MusicBoxShop shop = Bench.shopWith(36);
        shop.rest(1);
        Bench.due("no tunes", shop.crowds(), 0);
        for (int t = 0; t < 6; t++) {
            Bench.read(shop, t, "((c4/1)10)15");
            shop.pin(t, 0);
            // Each PIN with that of its TICK, and with those one TICK ahead and behind.
            Bench.due("150 pins of " + (t + 1), shop.crowds(), t * (150 + 2 * 149));
        }
        Bench.due("crowd", Bench.crowd(shop), 0, 0, 1, 0);
        shop.bend(0, 0, true);
        shop.silent(0, 1, true);
        shop.breaks(0, true);
        Bench.due("bent, silent, broken", shop.crowds(), 5 * (150 + 2 * 149));
        // Those at TICK 0 of the one and TICK 149 of the other, and one apart.
        for (int t = 0; t < 6; t += 2) {
            shop.start(t, 63);
        }
        Bench.due("63 apart", shop.crowds(), 5 * (87 + 88 + 86));
        Bench.unchanged("crowds()", CylinderEdgeTest::busy, made -> made.crowds(), 2);
    }

    private static void crowdFirst() {
        Bench.sentence("Of the first PIN, by TUNES, then by NOTES, that CROWDS with one, what 0: its"
                + " TUNE, 1: its NOTE; of the first that it CROWDS with 2, 3.");
        // By TUNES: the PIN of the lesser TUNE, though its TICK is later.
        MusicBoxShop shop = pinned(1, "r/40 c4", "r/40 c4", null, "c4", "c4");
        Bench.due("by tunes", Bench.crowd(shop), 0, 0, 1, 0);
        // By NOTES: the first of the TUNE that CROWDS, not the first of the TUNE.
        shop = pinned(1, "c4/9 e4/9 c4", "d4/8 [c4 e4]/9 c4");
        Bench.due("by notes", Bench.crowd(shop), 0, 1, 1, 2);
        // Its first partner is the one a TICK ahead of it.
        shop = pinned(1, "r/5 c4", "r/3 (c4/1)5");
        Bench.due("the first partner", Bench.crowd(shop), 0, 0, 1, 1);
        // Of partners in two TUNES that of the lesser one: LANES 7 and 5 beside LANE 6.
        shop = pinned(1, "r/5 d4", "r/6 d4", null, null, null, "r/4 c4");
        Bench.due("crowds()", shop.crowds(), 2);
        Bench.due("the lesser tune", Bench.crowd(shop), 0, 0, 1, 0);
        shop.tear(1, false);
        Bench.due("the other tune", Bench.crowd(shop), 0, 0, 5, 0);
        // A TUNE's later NOTE goes ahead of an earlier one of a later TUNE.
        shop = pinned(1, "c4/9 c4", "r/9 c4/9 c4", "r/18 c4");
        Bench.due("crowds()", shop.crowds(), 2);
        Bench.due("the lesser tune's later note", Bench.crowd(shop), 0, 1, 1, 0);
        shop.tear(0, true);
        Bench.due("the next tune's", Bench.crowd(shop), 1, 1, 2, 0);
        // Not KEPT NOTES are no PINS, but are numbered.
        shop = pinned(6, "f4/2 c4", "f4/1 f4/1 c4/1 f4");
        Bench.due("numbers as read", Bench.crowd(shop), 0, 1, 1, 2);
    }

    private static void crowdWhats() {
        Bench.sentence("NONE for others, or if there is none such.");
        MusicBoxShop none = new MusicBoxShop();
        MusicBoxShop apart = pinned(6, "c4", "r/2 c4");
        MusicBoxShop busy = new MusicBoxShop();
        busy(busy);
        int[] first = {0, 0, 1, 0};
        for (int what : new int[] {-1, 4, 5, Bench.MIN, Bench.MAX, 0, 1, 2, 3}) {
            int want = what >= 0 && what < 4 ? first[what] : -1;
            Bench.due("crowd(" + what + "), no tunes", none.crowd(what), -1);
            Bench.due("crowd(" + what + "), none crowds", apart.crowd(what), -1);
            Bench.due("crowd(" + what + ")", busy.crowd(what), want);
            Bench.unchanged("crowd(" + what + ")", CylinderEdgeTest::busy,
                    made -> made.crowd(what), want);
        }
    }

    private static void arrangeNone() {
        Bench.sentence("ARRANGE: STARTS for all PINNED TUNES");
        MusicBoxShop shop = new MusicBoxShop();
        Bench.due("no tunes", shop.arrange(), 0);
        Bench.read(shop, 0, "c4");
        shop.read(0, 5);
        Bench.due("none pinned", shop.arrange(), 0);
        Bench.due("starts", Bench.starts(shop), 0, -1, -1, -1, -1, 0);
        Bench.unchanged("arrange(), none pinned", made -> {
            busy(made);
            for (int t = 0; t < 6; t++) {
                made.tear(t, false);
            }
        }, made -> made.arrange(), 0);
    }

    private static void arrangeFew() {
        Bench.sentence("the PINNED TUNES have these STARTS: how many TRIES");
        for (int t = 0; t < 6; t++) {
            MusicBoxShop one = Bench.shopWith(36);
            Bench.read(one, t, "c4");
            one.pin(t, 0);
            one.start(t, 63);
            Bench.due("one pinned: arrange()", one.arrange(), 1);
            Bench.due("one pinned: its start", one.tune(t, 4), 0);
        }
        // A TUNE without PINS, or without NOTES, is tried as well.
        MusicBoxShop empty = pinned(6, "f4", "", "f4", "", "f4", "");
        empty.start(0, 5);
        empty.start(5, 63);
        Bench.due("six without pins: arrange()", empty.arrange(), 6);
        Bench.due("six without pins: starts", Bench.starts(empty), 0, 0, 0, 0, 0, 0);
        MusicBoxShop six = pinned(6, "c4", "c4", "c4", "c4", "c4", "c4");
        Bench.due("six alike: arrange()", six.arrange(), 1 + 3 + 1 + 3 + 1 + 3);
        Bench.due("six alike: starts", Bench.starts(six), 0, 2, 0, 2, 0, 2);
        Bench.due("six alike: crowds()", six.crowds(), 0);
        Bench.due("once more", six.arrange(), 12);
        // Such STARTS that are there already are not what it begins with.
        MusicBoxShop there = pinned(6, "c4", "c4");
        there.start(0, 9);
        there.start(1, 20);
        Bench.due("apart before", there.crowds(), 0);
        Bench.due("arrange()", there.arrange(), 4);
        Bench.due("starts", Bench.starts(there), 0, 2, -1, -1, -1, -1);
        Bench.changesOnly("arrange()", CylinderEdgeTest::busy, made -> made.arrange(), 6, "tune",
                "plucks", "crowds");
    }

    private static void arrangeNeighbours() {
        Bench.sentence("none CROWDS with one of a TUNE ahead (with the START tried for that)");
        MusicBoxShop gap = pinned(6, "c4", null, "c4", null, "c4");
        Bench.due("lanes two apart", gap.arrange(), 3);
        Bench.read(gap, 1, "c4");
        Bench.read(gap, 3, "c4");
        Bench.due("between them read alone", gap.arrange(), 3);
        gap.pin(1, 0);
        Bench.due("one between", gap.arrange(), 1 + 3 + 1 + 1);
        Bench.due("starts", Bench.starts(gap), 0, 2, 0, 0, 0, -1);
        // TUNE 5 beside TUNE 4 on one TOOTH and beside TUNE 0 on the next one.
        MusicBoxShop five = pinned(6, "d4", null, null, null, "r/2 c4", "c4");
        Bench.due("tune 5 beside both", five.arrange(), 1 + 1 + 5);
        Bench.due("starts", Bench.starts(five), 0, -1, -1, -1, 0, 4);
        five.breaks(0, true);
        five.bend(5, 0, true);
        five.silent(4, 0, true);
        Bench.due("bent, silent and broken ones too", five.arrange(), 7);
        Bench.due("bent still", Bench.note(five, 5, 0, 6), 1);
        Bench.due("silent still", Bench.note(five, 4, 0, 5), 1);
        // What CROWDED before, but does no more, has no part.
        five.breaks(0, false);
        Bench.read(five, 5, "d4");
        five.pin(5, 0);
        Bench.due("tune 5 on another tooth", five.arrange(), 3);
        Bench.read(five, 5, "c4");
        five.pin(5, 0);
        Bench.due("tune 5 on its tooth again", five.arrange(), 7);
        five.tear(4, false);
        Bench.due("tune 4 pinned no more", five.arrange(), 1 + 3);
    }

    private static void arrangeLastStart() {
        Bench.sentence("from 0 on, at most 63");
        // PINS at 1, 4, .. 61 CROWD with one at 0 for the STARTS 0 to 62.
        MusicBoxShop shop = pinned(3, "r/1 (c4/3)20 c4", "c4");
        Bench.due("63 is left", shop.arrange(), 1 + 64);
        Bench.due("starts", Bench.starts(shop), 0, 63, -1, -1, -1, -1);
        // With one at 64 more, 63 is taken too: the one ahead goes on to 1.
        shop = pinned(3, "r/1 (c4/3)20 (c4/3)2", "c4");
        Bench.due("none is left", shop.arrange(), 1 + 64 + 1 + 1);
        Bench.due("starts", Bench.starts(shop), 1, 0, -1, -1, -1, -1);
        // The other way round: the one behind has no START but 0, the one ahead goes on to 63.
        String last = " (r/96)4 r/28 c4";
        shop = pinned(3, "c4", "r/1 (c4/3)20 c4" + last);
        Bench.due("the last tick", Bench.note(shop, 1, 21, 0), 479);
        Bench.due("63 of the one ahead", shop.arrange(), 64 + 63 * 64 + 1);
        Bench.due("starts", Bench.starts(shop), 63, 0, -1, -1, -1, -1);
    }

    private static void arrangeLength() {
        Bench.sentence("each such that no PIN is at a TICK above 479");
        String to477 = "(r/96)4 r/93 c4";
        MusicBoxShop shop = pinned(6, to477, to477);
        Bench.due("479 is free", shop.arrange(), 4);
        Bench.due("starts", Bench.starts(shop), 0, 2, -1, -1, -1, -1);
        Bench.due("plucks(0, 1)", shop.plucks(0, 1), 479);
        String to478 = "(r/96)4 r/94 c4";
        Bench.unchanged("arrange(), 480 would be free", made -> {
            made.tooth(36);
            Bench.read(made, 0, to478);
            Bench.read(made, 1, to478);
            made.pin(0, 0);
            made.pin(1, 0);
            made.start(1, 1);
        }, made -> made.arrange(), -2);
        String to479 = "(r/96)4 r/95 c4";
        shop = pinned(6, to479, to477);
        Bench.due("477 and 479", shop.arrange(), 2);
        shop = pinned(6, to477, to479);
        Bench.due("477 and 479, the other way", shop.arrange(), 2);
        shop = pinned(6, to479, to478);
        Bench.due("478 and 479", shop.arrange(), -2);
        shop = pinned(6, to479);
        Bench.due("479 alone", shop.arrange(), 1);
        // NOTES that are not KEPT have no TICK to be above.
        shop = pinned(6, "r/1 c4", "c4 (r/96)4 r/89 f4");
        Bench.due("a note at 479, not kept", shop.arrange(), 1 + 4);
        Bench.due("starts", Bench.starts(shop), 0, 3, -1, -1, -1, -1);
    }

    private static void arrangeAhead() {
        Bench.sentence("if a TUNE has none (any more), the next one is tried of the one ahead of"
                + " it");
        // TUNE 1 stays at 0, as its last PIN is at 479; TUNE 0 must go on to 2. The STARTS of TUNE 1
        // that are above 479 are looked at as well.
        MusicBoxShop shop = pinned(6, "c4", "c4 (r/96)4 r/89 c4");
        Bench.due("arrange()", shop.arrange(), 1 + 64 + 1 + 64 + 1 + 1);
        Bench.due("starts", Bench.starts(shop), 2, 0, -1, -1, -1, -1);
        // The one ahead is the PINNED one ahead, not the one that it CROWDS with: TUNE 3, whose last
        // PIN is at 478, has all its STARTS tried for nothing before TUNE 0 goes on.
        shop = pinned(6, "d4", null, null, "c4 (r/96)4 r/88 c4", null, "c4 (r/96)4 r/89 c4");
        Bench.due("two starts of tune 3, none of use: arrange()", shop.arrange(),
                2 * (1 + 1 + 64 + 1 + 64 + 62) + 1 + 1 + 1);
        Bench.due("starts", Bench.starts(shop), 2, -1, -1, 0, -1, 0);
        // Where the one ahead has none any more, the one ahead of that is next: TUNE 2 has START 0
        // alone, so TUNE 1, which has 0 to 2, must have 2, and so TUNE 0 must have 2.
        shop = pinned(6, "r/2 c4", "c4 (r/96)4 r/87 d4", "c4 (r/96)4 r/89 e4");
        Bench.due("each one's start hangs on the next", shop.arrange(),
                (1 + 1 + 64 + 1 + 1 + 61) + (1 + 1 + 64 + 1 + 64 + 1 + 61)
                + (1 + 1 + 64 + 1 + 64 + 1 + 1));
        Bench.due("starts", Bench.starts(shop), 2, 2, 0, -1, -1, -1);
        shop = pinned(6, "c4", "c4 (r/96)4 r/89 c4", "(r/96)4 r/95 c4");
        Bench.due("tunes 1 and 2 both end at 479", shop.arrange(), -2);
    }

    private static void arrangeImpossible() {
        Bench.sentence("-2 if there are none such .. (STARTS stay with both)");
        Bench.unchanged("arrange(), dense", shop -> {
            shop.tooth(36);
            shop.rest(3);
            Bench.read(shop, 2, DENSE);
            Bench.read(shop, 3, DENSE);
            shop.pin(2, 0);
            shop.pin(3, 0);
            shop.start(2, 5);
            shop.start(3, 63);
            shop.bend(2, 0, true);
            shop.silent(3, 60, true);
        }, shop -> shop.arrange(), -2);
        // Those that could be arranged by themselves stay as well.
        Bench.unchanged("arrange(), dense and others", shop -> {
            shop.tooth(36);
            shop.rest(3);
            Bench.read(shop, 0, "(r/96)4 r/94 c4");
            Bench.read(shop, 4, DENSE);
            Bench.read(shop, 5, DENSE);
            shop.pin(0, 0);
            shop.pin(4, 0);
            shop.pin(5, 0);
            shop.start(0, 1);
            shop.start(4, 7);
        }, shop -> shop.arrange(), -2);
    }

    /** A PIN at such a TICK that just so many STARTS are below 480. */
    private static String freeStarts(String note, int count) {
        int tick = 480 - count;
        return "(r/96)4 r/" + (tick - 384) + " " + note;
    }

    private static void arrangeSpent() {
        Bench.sentence("Where a 20,001st TRY would be made: SPENT. .. -3 SPENT (STARTS stay with"
                + " both)");
        // With a STARTS of TUNE 0, m of TUNE 1 for each, p of TUNE 2 for each of these, and none of
        // TUNE 3: 64 (1 + a + a m + a m p) TRIES.
        MusicBoxShop shop = pinned(3, freeStarts("d4", 1), freeStarts("e4", 5),
                DENSE + " (r/96)2 r/41 d4", DENSE);
        Bench.due("the last tick of tune 2", Bench.note(shop, 2, 61, 0), 419);
        Bench.due("64 * 312 = 19,968 tries", shop.arrange(), -2);
        Bench.unchanged("64 * 313 = 20,032 tries", made -> spent(made, 38), made -> made.arrange(),
                -3);
        Bench.unchanged("64 * 305 = 19,520 tries", made -> spent(made, 37), made -> made.arrange(),
                -2);
        // Found with the last TRY that there is, and with the first that there is not.
        shop = pinned(1, "(c4/4)10", "(c4/2)8", "r/3 (c4/6)11 r/96 r/96 r/96 r/77 c4");
        Bench.due("the 20,000th try", shop.arrange(), 20000);
        shop = pinned(1, "r/6 (c4/2)6 r/96 r/96 r/96 r/96 r/34 c4",
                "(c4/2)11 r/96 r/96 r/96 r/96 r/30 c4", "r/8 (c4/5)11 r/96 r/96 r/96 r/96 r/10 c4");
        Bench.due("the 20,001st try", shop.arrange(), -3);
    }

    /** 64 (1 + 8 + 8 count) TRIES, none of use: TUNES 4 and 5 CROWD whatever their STARTS are. */
    private static void spent(MusicBoxShop shop, int count) {
        shop.tooth(36);
        shop.tooth(38);
        shop.rest(3);
        Bench.read(shop, 2, freeStarts("d4", 8));
        Bench.read(shop, 4, DENSE + " (r/96)2 r/" + (480 - count - 378) + " d4");
        Bench.read(shop, 5, DENSE);
        shop.pin(2, 0);
        shop.pin(4, 0);
        shop.pin(5, 0);
        shop.start(2, 7);
        shop.start(4, 9);
        shop.start(5, 63);
    }

    private static void bendRefused() {
        Bench.sentence("The PIN of NOTE i of TUNE t is BENT (true) or straight: true; false if it"
                + " has none, or is so.");
        Bench.unchanged("bend(0, 1, true), bent", CylinderEdgeTest::busy,
                shop -> Bench.bit(shop.bend(0, 1, true)), 0);
        for (int i : new int[] {0, 2, 3}) {
            Bench.unchanged("bend(0, " + i + ", false), straight", CylinderEdgeTest::busy,
                    shop -> Bench.bit(shop.bend(0, i, false)), 0);
        }
        for (boolean is : new boolean[] {true, false}) {
            for (int i : new int[] {4, -1, 5, 6, 149, 150, 151, Bench.MIN, Bench.MAX}) {
                Bench.unchanged("bend(0, " + i + ", " + is + ")", CylinderEdgeTest::busy,
                        shop -> Bench.bit(shop.bend(0, i, is)), 0);
            }
            for (int t : new int[] {2, 3, 4, -1, 6, 7, Bench.MIN, Bench.MAX}) {
                Bench.unchanged("bend(" + t + ", 0, " + is + ")", CylinderEdgeTest::busy,
                        shop -> Bench.bit(shop.bend(t, 0, is)), 0);
            }
        }
    }

    private static void bend() {
        Bench.sentence("A NOTE of a PINNED TUNE is HEARD, if it is KEPT, its PIN straight, its TOOTH"
                + " whole now.");
        Bench.changesOnly("bend(0, 0, true)", CylinderEdgeTest::busy,
                shop -> Bench.bit(shop.bend(0, 0, true)), 1, "tune 0", "note 0 0");
        Bench.changesOnly("bend(0, 1, false)", CylinderEdgeTest::busy,
                shop -> Bench.bit(shop.bend(0, 1, false)), 1, "tune 0", "note 0 1");
        for (int n = 0; n < 4; n++) {
            MusicBoxShop shop = pinned(6, "c4 f4");
            if (n % 2 == 1) {
                shop.bend(0, 0, true);
            }
            if (n / 2 == 1) {
                shop.breaks(0, true);
            }
            int heard = n == 0 ? 1 : 0;
            Bench.due("bent " + n % 2 + ", broken " + n / 2, Bench.notes(shop, 0, 4), heard, 0);
            Bench.due("tune(0, 7)", shop.tune(0, 7), heard);
            shop.bend(0, 0, false);
            shop.breaks(0, false);
            Bench.due("straight and mended", Bench.notes(shop, 0, 4), 1, 0);
            shop.silent(0, 0, true);
            Bench.due("silent, heard all the same", Bench.notes(shop, 0, 4), 1, 0);
        }
        MusicBoxShop full = pinned(1, "((c4/1)10)15");
        Bench.due("bend(0, 149, true)", full.bend(0, 149, true), true);
        Bench.due("tune(0, 7)", full.tune(0, 7), 149);
        Bench.due("note(0, 149, 6)", Bench.note(full, 0, 149, 6), 1);
    }

    private static void silentRefused() {
        Bench.sentence("A hand tells NOTE i of TUNE t, KEPT, as SILENT, or no more: true; false if"
                + " it isn't KEPT, or is so.");
        Bench.unchanged("silent(0, 2, true), silent", CylinderEdgeTest::busy,
                shop -> Bench.bit(shop.silent(0, 2, true)), 0);
        for (int i : new int[] {0, 1, 3}) {
            Bench.unchanged("silent(0, " + i + ", false), not silent", CylinderEdgeTest::busy,
                    shop -> Bench.bit(shop.silent(0, i, false)), 0);
        }
        for (boolean is : new boolean[] {true, false}) {
            for (int i : new int[] {4, -1, 5, 6, 149, 150, 151, Bench.MIN, Bench.MAX}) {
                Bench.unchanged("silent(0, " + i + ", " + is + ")", CylinderEdgeTest::busy,
                        shop -> Bench.bit(shop.silent(0, i, is)), 0);
            }
            for (int t : new int[] {2, 3, 4, -1, 6, 7, Bench.MIN, Bench.MAX}) {
                Bench.unchanged("silent(" + t + ", 0, " + is + ")", CylinderEdgeTest::busy,
                        shop -> Bench.bit(shop.silent(t, 0, is)), 0);
            }
        }
    }

    private static void silent() {
        Bench.sentence("SILENT are KEPT NOTES of PINNED TUNES that a hand tells as not heard.");
        Bench.changesOnly("silent(0, 0, true)", CylinderEdgeTest::busy,
                shop -> Bench.bit(shop.silent(0, 0, true)), 1, "note 0 0", "faults");
        Bench.changesOnly("silent(0, 2, false)", CylinderEdgeTest::busy,
                shop -> Bench.bit(shop.silent(0, 2, false)), 1, "note 0 2", "faults");
        MusicBoxShop full = pinned(1, "((c4/1)10)15");
        Bench.due("silent(0, 149, true)", full.silent(0, 149, true), true);
        Bench.due("note(0, 149, 5)", Bench.note(full, 0, 149, 5), 1);
        Bench.due("faults()", full.faults(), 1);
        Bench.due("suspect(0)", Bench.suspect(full, 0), -1, 0, 149);
        Bench.due("silent(0, 149, false)", full.silent(0, 149, false), true);
        Bench.due("faults()", full.faults(), 0);
    }

    private static void listen() {
        Bench.sentence("All KEPT NOTES of PINNED TUNES that are not HEARD are SILENT, no others: how"
                + " many.");
        MusicBoxShop none = new MusicBoxShop();
        Bench.due("no tunes", none.listen(), 0);
        Bench.changesOnly("listen()", CylinderEdgeTest::busy, shop -> shop.listen(), 2, "note",
                "faults");
        MusicBoxShop shop = new MusicBoxShop();
        busy(shop);
        shop.listen();
        Bench.due("note(0, i, 5)", Bench.notes(shop, 0, 5), 0, 1, 0, 0, 0);
        Bench.due("note(1, i, 5), no others", Bench.notes(shop, 1, 5), 0, 0, 0, 0);
        Bench.due("note(5, i, 5), a broken tooth", Bench.notes(shop, 5, 5), 0, 0, 1);
        Bench.due("once more", shop.listen(), 2);
        // What is heard now is not SILENT from now on, but from the next one on.
        shop.bend(0, 1, false);
        shop.breaks(3, false);
        Bench.due("faults(), as yet", shop.faults(), 2);
        Bench.due("listen()", shop.listen(), 0);
        Bench.due("faults()", shop.faults(), 0);
        MusicBoxShop full = Bench.shopWith(36);
        full.rest(1);
        for (int t = 0; t < 6; t++) {
            Bench.read(full, t, "((c4/1)10)15");
            full.pin(t, 0);
        }
        Bench.due("all heard", full.listen(), 0);
        full.breaks(0, true);
        Bench.due("none heard", full.listen(), 900);
        Bench.due("faults()", full.faults(), 1);
        full.tear(5, false);
        Bench.due("one no more pinned", full.listen(), 750);
        full.breaks(0, false);
        Bench.due("all heard", full.listen(), 0);
        // NOTES that are not KEPT are never SILENT.
        MusicBoxShop few = pinned(6, "c4/1 c4 f4");
        few.breaks(0, true);
        Bench.due("one kept of three", few.listen(), 1);
        Bench.due("note(0, i, 5)", Bench.notes(few, 0, 5), 1, 0, 0);
    }

    private static void faultsOfTeeth() {
        Bench.sentence("of a TOOTH whose KEPT NOTES are all SILENT the TOOTH, if they are two or"
                + " more; a PIN else");
        MusicBoxShop shop = pinned(6, "c4", "d4 d4", "e4 e4 e4");
        Bench.due("none silent", shop.faults(), 0);
        shop.silent(0, 0, true);
        Bench.due("one of one: a pin", Bench.suspect(shop, 0), -1, 0, 0);
        shop.silent(1, 0, true);
        Bench.due("one of two: a pin", Bench.suspect(shop, 1), -1, 1, 0);
        shop.silent(1, 1, true);
        Bench.due("two of two: faults()", shop.faults(), 2);
        Bench.due("two of two: the tooth", Bench.suspect(shop, 0), 1, -1, -1);
        Bench.due("and the pin", Bench.suspect(shop, 1), -1, 0, 0);
        shop.silent(2, 0, true);
        shop.silent(2, 2, true);
        Bench.due("two of three: faults()", shop.faults(), 4);
        Bench.due("two of three: pins", Bench.suspect(shop, 3), -1, 2, 2);
        shop.silent(2, 1, true);
        Bench.due("three of three: faults()", shop.faults(), 3);
        Bench.due("three of three: the tooth", Bench.suspect(shop, 1), 2, -1, -1);
        shop.silent(2, 0, false);
        Bench.due("two of three again: faults()", shop.faults(), 4);
        // One of each of two TUNES makes two of a TOOTH.
        MusicBoxShop both = pinned(6, "c4", null, null, null, null, "c4");
        both.silent(0, 0, true);
        Bench.due("one of two, two tunes", both.faults(), 1);
        Bench.due("a pin", Bench.suspect(both, 0), -1, 0, 0);
        both.silent(5, 0, true);
        Bench.due("two of two, two tunes", both.faults(), 1);
        Bench.due("the tooth", Bench.suspect(both, 0), 0, -1, -1);
        both.tear(5, false);
        Bench.due("one of one", both.faults(), 1);
        Bench.due("a pin", Bench.suspect(both, 0), -1, 0, 0);
        both.pin(5, 0);
        Bench.due("one of two, pinned anew", Bench.suspect(both, 0), -1, 0, 0);
        // A TOOTH without KEPT NOTES is none; what is broken or bent in truth has no part.
        both.breaks(1, true);
        both.breaks(0, true);
        both.bend(5, 0, true);
        Bench.due("faults() by the silent alone", both.faults(), 1);
        Bench.unchanged("faults()", CylinderEdgeTest::busy, made -> made.faults(), 2);
    }

    private static void faultsFull() {
        Bench.sentence("How many FAULTS.");
        MusicBoxShop shop = new MusicBoxShop();
        for (int k = 0; k < 60; k++) {
            shop.tooth(k);
        }
        for (int t = 0; t < 5; t++) {
            StringBuilder text = new StringBuilder();
            for (String note : "c c# d d# e f f# g g# a a# b".split(" ")) {
                text.append(note).append(t + 1).append(' ');
            }
            Bench.due("read", Bench.read(shop, t, "(" + text + ")2"), 24);
            Bench.due("pin", shop.pin(t, 0), 24);
        }
        for (int k = 0; k < 60; k++) {
            shop.breaks(k, true);
        }
        Bench.due("listen()", shop.listen(), 120);
        Bench.due("sixty teeth", shop.faults(), 60);
        Bench.due("suspect(0)", Bench.suspect(shop, 0), 0, -1, -1);
        Bench.due("suspect(59)", Bench.suspect(shop, 59), 59, -1, -1);
        Bench.due("suspect(60)", Bench.suspect(shop, 60), -2, -2, -2);
        for (int k = 0; k < 60; k++) {
            shop.breaks(k, false);
        }
        Bench.due("silent(4, 23, false)", shop.silent(4, 23, false), true);
        Bench.due("59 teeth and a pin", shop.faults(), 60);
        Bench.due("suspect(58)", Bench.suspect(shop, 58), 58, -1, -1);
        Bench.due("suspect(59)", Bench.suspect(shop, 59), -1, 4, 11);
        // 900 KEPT NOTES of one TOOTH, and all but one are SILENT.
        MusicBoxShop one = Bench.shopWith(36);
        one.rest(1);
        for (int t = 0; t < 6; t++) {
            Bench.read(one, t, "((c4/1)10)15");
            one.pin(t, 0);
        }
        one.breaks(0, true);
        one.listen();
        Bench.due("one tooth", one.faults(), 1);
        one.silent(0, 0, false);
        Bench.due("899 pins", one.faults(), 899);
        Bench.due("suspect(0)", Bench.suspect(one, 0), -1, 0, 1);
        Bench.due("suspect(898)", Bench.suspect(one, 898), -1, 5, 149);
        Bench.due("suspect(899)", Bench.suspect(one, 899), -2, -2, -2);
    }

    private static void suspectOrder() {
        Bench.sentence("Of the k-th FAULT, TEETH first, by number, then PINS, by TUNES, then by"
                + " NOTES");
        MusicBoxShop shop = Bench.shopWith(40, 38, 36);
        Bench.read(shop, 0, "e4 e4 d4 f4 e4");
        Bench.read(shop, 1, "d4 c4 c4 e4");
        shop.pin(0, 0);
        shop.pin(1, 0);
        int[][] told = {{1, 3}, {1, 2}, {1, 1}, {1, 0}, {0, 2}, {0, 1}};
        for (int[] note : told) {
            Bench.due("silent", shop.silent(note[0], note[1], true), true);
        }
        int[][] all = {{1, -1, -1}, {2, -1, -1}, {-1, 0, 1}, {-1, 1, 3}};
        for (int k = 0; k < 4; k++) {
            Bench.due("suspect(" + k + ")", Bench.suspect(shop, k), all[k]);
        }
        Bench.due("suspect(4)", Bench.suspect(shop, 4), -2, -2, -2);
        Bench.due("faults()", shop.faults(), 4);
        // Each answer is of now, whatever was asked before.
        shop.silent(1, 2, false);
        Bench.due("suspect(1), one less", Bench.suspect(shop, 1), -1, 0, 1);
        shop.tear(0, false);
        Bench.due("suspect(0), one torn", Bench.suspect(shop, 0), -1, 1, 0);
    }

    private static void suspectRefused() {
        Bench.sentence("-2 for others, or if there is none such.");
        MusicBoxShop shop = new MusicBoxShop();
        busy(shop);
        Bench.due("faults()", shop.faults(), 2);
        for (int what = 0; what < 3; what++) {
            Bench.due("no faults", new MusicBoxShop().suspect(0, what), -2);
            for (int k : new int[] {-1, 2, 3, 60, 900, Bench.MIN, Bench.MAX}) {
                Bench.due("suspect(" + k + ", " + what + ")", shop.suspect(k, what), -2);
            }
        }
        for (int what : new int[] {-1, 3, 4, Bench.MIN, Bench.MAX}) {
            for (int k = -1; k <= 2; k++) {
                Bench.due("suspect(" + k + ", " + what + ")", shop.suspect(k, what), -2);
            }
        }
        Bench.unchanged("suspect(1, 2)", CylinderEdgeTest::busy, made -> made.suspect(1, 2), 0);
        Bench.unchanged("suspect(2, 0)", CylinderEdgeTest::busy, made -> made.suspect(2, 0), -2);
    }

    private static void plucksOrder() {
        Bench.sentence("The TICK (with START) of the k-th PIN, by TUNES, then by NOTES, that plucks"
                + " TOOTH j");
        MusicBoxShop shop = new MusicBoxShop();
        busy(shop);
        int[][] ticks = {{0, 12, 1, 19, 0}, {3, 1}, {6, 7}, {2}};
        for (int j = 0; j < ticks.length; j++) {
            for (int k = 0; k < ticks[j].length; k++) {
                Bench.due("plucks(" + j + ", " + k + ")", shop.plucks(j, k), ticks[j][k]);
            }
            Bench.due("plucks(" + j + "), one more", shop.plucks(j, ticks[j].length), -2);
        }
        MusicBoxShop full = Bench.shopWith(36);
        full.rest(1);
        for (int t = 0; t < 6; t++) {
            Bench.read(full, t, "(c4/24)19 r/" + (t + 1) + " c4");
            full.pin(t, 0);
        }
        full.start(5, 17);
        Bench.due("plucks(0, 0)", full.plucks(0, 0), 0);
        Bench.due("plucks(0, 19)", full.plucks(0, 19), 457);
        Bench.due("plucks(0, 20)", full.plucks(0, 20), 0);
        Bench.due("plucks(0, 100)", full.plucks(0, 100), 17);
        Bench.due("plucks(0, 119)", full.plucks(0, 119), 479);
        Bench.due("plucks(0, 120)", full.plucks(0, 120), -2);
    }

    private static void plucksRefused() {
        Bench.sentence("-2 if there is none such");
        MusicBoxShop shop = new MusicBoxShop();
        Bench.due("no teeth", shop.plucks(0, 0), -2);
        shop.tooth(36);
        Bench.due("no tunes", shop.plucks(0, 0), -2);
        Bench.read(shop, 0, "c4");
        Bench.due("none pinned", shop.plucks(0, 0), -2);
        shop.pin(0, 0);
        Bench.due("one pin", shop.plucks(0, 0), 0);
        shop.bend(0, 0, true);
        shop.breaks(0, true);
        Bench.due("bent and broken", shop.plucks(0, 0), 0);
        for (int far : new int[] {-1, 1, 2, 59, 60, Bench.MIN, Bench.MAX}) {
            Bench.due("plucks(0, " + far + ")", shop.plucks(0, far), -2);
            Bench.due("plucks(" + far + ", 0)", shop.plucks(far, 0), -2);
        }
        shop.tear(0, false);
        Bench.due("no more pinned", shop.plucks(0, 0), -2);
        Bench.unchanged("plucks(0, 1)", CylinderEdgeTest::busy, made -> made.plucks(0, 1), 12);
        Bench.unchanged("plucks(0, 5)", CylinderEdgeTest::busy, made -> made.plucks(0, 5), -2);
        Bench.unchanged("plucks(4, 0)", CylinderEdgeTest::busy, made -> made.plucks(4, 0), -2);
    }
}

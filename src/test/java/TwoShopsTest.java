import java.util.ArrayList;
import java.util.List;
import java.util.Random;

/**
 * Promise 1 beside other objects: a new one has no TEETH, no TUNES and an empty tape whatever
 * others hold, and what one is told is never seen in another; the same calls always give the same
 * answers (LANGUAGE.md, rule 13).
 */
public final class TwoShopsTest {
    private static final String[] TEXTS = {
        "c4/3 d4/3 [c4 e4*20]/2 c4", "(c4*7/2 d4*3/1)6", "e4 c4 (d4/4 r/2)3", "c4 h", "e8", "",
        "((c4/1)2 r/5)4 d4*99", "[c4 d4 e4]/1 [c4 d4]/1 c4"};

    public static void main(String[] args) {
        newBesideFull();
        tapesApart();
        combsApart();
        inTurns();
        Bench.end();
    }

    /** All that an object can hold. */
    private static void fill(MusicBoxShop shop) {
        for (int k = 0; k < 60; k++) {
            shop.tooth(30 + k / 3);
        }
        for (int t = 0; t < 6; t++) {
            Bench.read(shop, t, "(c4/4)20 e4");
            shop.pin(t, 0);
            shop.start(t, 40 + t);
            shop.bend(t, 0, true);
            shop.silent(t, 1, true);
        }
        shop.breaks(0, true);
        shop.rest(48);
        Bench.read(shop, 0, "c4 h");
        Bench.feed(shop, Bench.times("c4 ", 20));
    }

    private static void newBesideFull() {
        Bench.sentence("No TEETH, no TUNES, an empty tape.");
        List<String> alone = Bench.look(shop -> { });
        MusicBoxShop full = new MusicBoxShop();
        List<String> beside = Bench.look(shop -> fill(full));
        Bench.due("what is seen of a new object beside a full one", alone.equals(beside), true);
        Bench.due("of a full one that is something else",
                alone.equals(Bench.look(TwoShopsTest::fill)), false);
    }

    private static void tapesApart() {
        Bench.sentence("Twenty bytes come behind those on the tape");
        MusicBoxShop one = new MusicBoxShop();
        MusicBoxShop other = new MusicBoxShop();
        for (int n = 1; n <= 40; n++) {
            Bench.due("feed of one", one.feed(0x63342020, 0, 0, 0, 0), 20 * n);
            Bench.due("feed of the other", other.feed(0x64342F39, 0, 0, 0, 0), 20 * n);
        }
        Bench.due("the tape of one", one.read(2, 0), 1);
        Bench.due("one's note", Bench.note(one, 0, 0, 1), 36);
        Bench.due("that of the other is full still", other.feed(0, 0, 0, 0, 0), -1);
        Bench.due("the tape of the other", other.read(5, 0), -2);
        Bench.due("the other's fault", other.fault(0), 1);
        Bench.due("its place", other.fault(1), 4);
        Bench.due("one has none", one.fault(0), 0);
    }

    private static void combsApart() {
        Bench.sentence("THE COMB has TEETH, at most 60, numbered as they are told, each of a PITCH"
                + " (at most 3 of one)");
        MusicBoxShop one = new MusicBoxShop();
        MusicBoxShop other = new MusicBoxShop();
        for (int k = 0; k < 60; k++) {
            Bench.due("a tooth of one", one.tooth(k / 3), k);
            Bench.due("a tooth of the other", other.tooth(k / 3 + 10), k);
        }
        Bench.due("one has 60", one.tooth(87), -1);
        Bench.due("the other has 60", other.tooth(87), -1);
        for (int k = 0; k < 60; k++) {
            Bench.due("its pitch, of one", one.comb(k, 0), k / 3);
            Bench.due("its pitch, of the other", other.comb(k, 0), k / 3 + 10);
        }
        Bench.due("one's is broken", one.breaks(59, true), true);
        Bench.due("the other's is whole", other.comb(59, 1), 1);
        Bench.due("a tune of the other", Bench.read(other, 0, "c1 a#1"), 2);
        Bench.due("teeth of one pluck nothing of the other", other.fit(0, 0), 10);
        Bench.due("nor would they with a shift", other.fit(0, -10), 0);
    }

    /** Three runs of calls one by one, then the same calls on three objects in turns. */
    private static void inTurns() {
        Bench.sentence("the same calls always give the same answers");
        for (int seed = 1; seed <= 20; seed++) {
            List<List<Integer>> alone = new ArrayList<>();
            for (int n = 0; n < 3; n++) {
                Play play = new Play(10 * seed + n);
                for (int call = 0; call < 200; call++) {
                    play.step();
                }
                alone.add(play.answers);
            }
            Play[] plays = {new Play(10 * seed), new Play(10 * seed + 1), new Play(10 * seed + 2)};
            for (int call = 0; call < 600; call++) {
                plays[call % 3].step();
            }
            for (int n = 0; n < 3; n++) {
                Bench.due("seed " + seed + ": answers of object " + n + " are the same in turns",
                        plays[n].answers.equals(alone.get(n)), true);
            }
        }
    }

    /** A run of calls by a seed, on an object of its own, and what it answered. */
    private static final class Play {
        final MusicBoxShop shop = Bench.shopWith(36, 36, 38, 40);
        final List<Integer> answers = new ArrayList<>();
        final Random random;

        Play(int seed) {
            random = new Random(seed);
            for (int t = 0; t < 6; t++) {
                Bench.read(shop, t, TEXTS[random.nextInt(TEXTS.length)]);
                shop.pin(t, 0);
            }
        }

        void step() {
            int t = random.nextInt(6);
            int i = random.nextInt(8);
            int k = random.nextInt(4);
            boolean is = random.nextInt(3) > 0;
            answers.add(random.nextBoolean() ? change(random.nextInt(10), t, i, k, is)
                    : ask(random.nextInt(13), t, i, k));
        }

        private int change(int which, int t, int i, int k, boolean is) {
            switch (which) {
                case 0:
                    return Bench.bit(shop.breaks(k, is));
                case 1:
                    return Bench.bit(shop.rest(1 + i));
                case 2:
                    return shop.pin(t, i - 3);
                case 3:
                    return Bench.bit(shop.start(t, 3 * i));
                case 4:
                    return shop.arrange();
                case 5:
                    return Bench.bit(shop.bend(t, i, is));
                case 6:
                    return Bench.bit(shop.silent(t, i, is));
                case 7:
                    return shop.listen();
                case 8:
                    return shop.feed(0x63342F33, 0x20643420, 0x65342063, 0x342A3920, 0x20200A20);
                default:
                    return shop.read(16 + k, t);
            }
        }

        private int ask(int which, int t, int i, int k) {
            switch (which) {
                case 0:
                    return shop.fault(k);
                case 1:
                    return shop.tune(t, i);
                case 2:
                    return Bench.note(shop, t, i, k + 3);
                case 3:
                    return shop.comb(k, i % 3);
                case 4:
                    return shop.fit(t, i - 3);
                case 5:
                    return shop.keeps(t, 0, i);
                case 6:
                    return shop.best(t);
                case 7:
                    return shop.fewest(t);
                case 8:
                    return shop.crowds();
                case 9:
                    return shop.crowd(k);
                case 10:
                    return shop.faults();
                case 11:
                    return shop.suspect(i, k);
                default:
                    return shop.plucks(k, i);
            }
        }
    }
}

import java.lang.management.ManagementFactory;

/** The dearest tunes and calls: they end soon, and make no objects. */
public final class LoadTest {
    private static int wrong = 0;

    public static void main(String[] args) {
        keepsOfOnePitch();
        arrangeOfFullTunes();
        noObjects();
        System.out.println(wrong == 0 ? "the load is borne" : wrong + " answers are not as due");
        if (wrong != 0) {
            System.exit(1);
        }
    }

    private static void due(String call, long got, long want) {
        if (got != want) {
            wrong++;
            System.out.println(call + " answered " + got + ", due is " + want);
        }
    }

    private static int readText(MusicBoxShop shop, int t, String text) {
        for (int at = 0; at < text.length(); at += 20) {
            int[] words = new int[5];
            for (int n = 0; n < 20; n++) {
                int sign = at + n < text.length() ? text.charAt(at + n) : ' ';
                words[n / 4] = words[n / 4] << 8 | sign;
            }
            shop.feed(words[0], words[1], words[2], words[3], words[4]);
        }
        return shop.read(text.length(), t);
    }

    private static MusicBoxShop onePitch() {
        MusicBoxShop shop = new MusicBoxShop();
        for (int k = 0; k < 3; k++) {
            shop.tooth(36);
        }
        shop.rest(48);
        due("read", readText(shop, 0, "((c4/1)10)15"), 150);
        return shop;
    }

    /** 150 ticks, each with a note: the first three of each 48. */
    private static void keepsOfOnePitch() {
        MusicBoxShop shop = onePitch();
        for (int i = 0; i < 150; i++) {
            due("keeps(0, 0, " + i + ")", shop.keeps(0, 0, i), i % 48 < 3 ? 1 : 0);
        }
        for (int n = 0; n < 100; n++) {
            due("fit(0, 0)", shop.fit(0, 0), 120);
            due("best(0)", shop.best(0), 0);
            due("pin(0, 0)", shop.pin(0, 0), 12);
        }
    }

    private static MusicBoxShop fullTunes() {
        MusicBoxShop shop = new MusicBoxShop();
        shop.rest(1);
        for (int k = 0; k < 60; k++) {
            shop.tooth(k % 30);
        }
        for (int t = 0; t < 6; t++) {
            due("read", readText(shop, t, "(c1/3)20(c1/3)20(c1/3)20(c1/3)20(c1/3)20(c1/3)20"
                    + "(c1/3)20(c1/3)10"), 150);
            due("pin", shop.pin(t, t == 0 ? 12 : t == 1 ? 5 : 0), 150);
        }
        return shop;
    }

    private static void arrangeOfFullTunes() {
        MusicBoxShop shop = fullTunes();
        due("crowds()", shop.crowds(), 3 * 150);
        for (int n = 0; n < 100; n++) {
            due("arrange()", shop.arrange(), -3);
        }
    }

    /** All calls of one run live in one room: only what throws may make an object. */
    private static void noObjects() {
        MusicBoxShop one = onePitch();
        MusicBoxShop full = fullTunes();
        useAll(one, full);
        long before = allocated();
        useAll(one, full);
        long spent = allocated() - before;
        // The reading of the counter itself takes a little.
        due("bytes, some thousands at most: " + spent, spent > 4000 ? 1 : 0, 0);
    }

    private static long allocated() {
        return ((com.sun.management.ThreadMXBean) ManagementFactory.getThreadMXBean())
                .getCurrentThreadAllocatedBytes();
    }

    private static void useAll(MusicBoxShop one, MusicBoxShop full) {
        one.feed(0x63342064, 0x34206534, 0x20663420, 0x67342061, 0x34206234);
        one.read(20, 1);
        one.feed(0x63342064, 0x34206534, 0x20663420, 0x67342061, 0x34206234);
        one.read(19, 1);
        one.fit(0, 0);
        one.keeps(0, 0, 77);
        one.best(0);
        one.fewest(0);
        one.pin(0, 0);
        one.start(0, 5);
        one.note(0, 3, 4);
        full.tune(0, 7);
        full.comb(0, 2);
        full.crowds();
        full.crowd(3);
        full.arrange();
        full.bend(0, 0, true);
        full.breaks(1, true);
        full.listen();
        full.faults();
        full.suspect(100, 1);
        full.plucks(0, 100);
        full.silent(0, 0, false);
        full.breaks(1, false);
        full.tear(5, false);
        full.pin(5, 0);
    }
}

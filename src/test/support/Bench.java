import java.util.ArrayList;
import java.util.Arrays;
import java.util.List;
import java.util.NoSuchElementException;

/**
 * What tests share: answers that are due, texts on the tape, and a look at all that can be
 * seen of a shop, by which a refused call is known to have changed nothing.
 *
 * <p>A look asks far more than 512 questions, so it makes the shop anew by the same steps for every
 * few of them: no object is used for more calls than the document allows.
 */
final class Bench {
    static final int THROWS = -77;
    static final int MIN = Integer.MIN_VALUE;
    static final int MAX = Integer.MAX_VALUE;
    private static final int MOST_SHOWN = 40;
    private static int wrong = 0;
    private static String sentence = "";

    /** Calls that make a shop what it is to be. */
    interface Steps {
        void on(MusicBoxShop shop);
    }

    /** One call; a boolean answer counts 1 or 0. */
    interface Call {
        int on(MusicBoxShop shop);
    }

    private Bench() {
    }

    /** The document's words that the next answers are due by. */
    static void sentence(String words) {
        sentence = words;
    }

    static void due(String call, long got, long want) {
        if (got != want) {
            fail(call + " answered " + got + ", due is " + want);
        }
    }

    static void due(String call, boolean got, boolean want) {
        due(call, got ? 1 : 0, want ? 1 : 0);
    }

    static void due(String call, int[] got, int... want) {
        boolean same = got.length == want.length;
        for (int i = 0; same && i < got.length; i++) {
            same = got[i] == want[i];
        }
        if (!same) {
            fail(call + " answered " + Arrays.toString(got) + ", due is "
                    + Arrays.toString(want));
        }
    }

    private static void fail(String what) {
        wrong++;
        if (wrong <= MOST_SHOWN) {
            System.out.println("\"" + sentence + "\": " + what);
        }
    }

    static void end() {
        System.out.println(wrong == 0 ? "all answers are as due" : wrong + " answers are not as due");
        if (wrong != 0) {
            System.exit(1);
        }
    }

    static int bit(boolean is) {
        return is ? 1 : 0;
    }

    /** Puts a text on the tape; what fills the last twenty bytes up is no TOKEN. */
    static void feed(MusicBoxShop shop, String text) {
        for (int at = 0; at < text.length(); at += 20) {
            int[] words = new int[5];
            for (int n = 0; n < 20; n++) {
                int sign = at + n < text.length() ? text.charAt(at + n) & 255 : '?';
                words[n / 4] = words[n / 4] << 8 | sign;
            }
            shop.feed(words[0], words[1], words[2], words[3], words[4]);
        }
    }

    static int read(MusicBoxShop shop, int t, String text) {
        feed(shop, text);
        return shop.read(text.length(), t);
    }

    static int note(MusicBoxShop shop, int t, int i, int what) {
        try {
            return shop.note(t, i, what);
        } catch (NoSuchElementException e) {
            return THROWS;
        }
    }

    /** The same of each NOTE of a TUNE. */
    static int[] notes(MusicBoxShop shop, int t, int what) {
        int[] all = new int[Math.max(0, shop.tune(t, 0))];
        for (int i = 0; i < all.length; i++) {
            all[i] = note(shop, t, i, what);
        }
        return all;
    }

    static int[] keeps(MusicBoxShop shop, int t, int shift) {
        int[] all = new int[Math.max(0, shop.tune(t, 0))];
        for (int i = 0; i < all.length; i++) {
            all[i] = shop.keeps(t, shift, i);
        }
        return all;
    }

    static int[] starts(MusicBoxShop shop) {
        int[] all = new int[6];
        for (int t = 0; t < 6; t++) {
            all[t] = shop.tune(t, 4);
        }
        return all;
    }

    static int[] crowd(MusicBoxShop shop) {
        return new int[] {shop.crowd(0), shop.crowd(1), shop.crowd(2), shop.crowd(3)};
    }

    static int[] suspect(MusicBoxShop shop, int k) {
        return new int[] {shop.suspect(k, 0), shop.suspect(k, 1), shop.suspect(k, 2)};
    }

    static MusicBoxShop shopWith(int... pitches) {
        MusicBoxShop shop = new MusicBoxShop();
        for (int pitch : pitches) {
            shop.tooth(pitch);
        }
        return shop;
    }

    static String times(String text, int count) {
        return text.repeat(count);
    }

    /** The call answers as is due, and all that can be seen stays. */
    static void unchanged(String name, Steps before, Call call, int want) {
        changesOnly(name, before, call, want);
    }

    /** The call answers as is due, and all that can be seen stays but lines that begin so. */
    static void changesOnly(String name, Steps before, Call call, int want, String... changing) {
        MusicBoxShop shop = new MusicBoxShop();
        before.on(shop);
        due(name, call.on(shop), want);
        List<String> was = look(before, changing);
        List<String> is = look(made -> {
            before.on(made);
            call.on(made);
        }, changing);
        if (was.size() != is.size()) {
            fail(name + " changed how much there is to see");
        }
        for (int n = 0; n < was.size() && n < is.size(); n++) {
            if (!was.get(n).equals(is.get(n))) {
                fail(name + " changed " + was.get(n) + " to " + is.get(n));
            }
        }
    }

    /** All that can be seen of a shop, a line for each thing, without lines that begin so. */
    static List<String> look(Steps steps, String... without) {
        List<String> all = new ArrayList<>();
        lookAtTape(steps, all);
        lookAtRest(steps, all);
        lookAtTeeth(steps, all);
        for (int t = 0; t < 6; t++) {
            lookAtTune(steps, t, all);
            lookAtNotes(steps, t, all);
            lookAtChoice(steps, t, all);
        }
        lookAtCrowds(steps, all);
        lookAtFaults(steps, all);
        lookAtStarts(steps, all);
        List<String> left = new ArrayList<>();
        for (String line : all) {
            boolean kept = true;
            for (String beginning : without) {
                kept = kept && !line.startsWith(beginning);
            }
            if (kept) {
                left.add(line);
            }
        }
        return left;
    }

    private static MusicBoxShop made(Steps steps) {
        MusicBoxShop shop = new MusicBoxShop();
        steps.on(shop);
        return shop;
    }

    private static void lookAtTape(Steps steps, List<String> all) {
        MusicBoxShop shop = made(steps);
        all.add("fault " + shop.fault(0) + " " + shop.fault(1));
        int fed = shop.feed(0, 0, 0, 0, 0);
        int bytes = fed < 0 ? 800 : fed - 20;
        all.add("tape bytes " + bytes);
        for (int n = bytes - 20; n <= bytes + 1; n++) {
            MusicBoxShop reader = made(steps);
            all.add("tape " + n + ": " + reader.read(n, 5) + " " + reader.fault(0) + " "
                    + reader.fault(1));
        }
        MusicBoxShop reader = made(steps);
        reader.read(bytes, 5);
        all.add("tape ticks " + Arrays.toString(notes(reader, 5, 0)));
        reader = made(steps);
        reader.read(bytes, 5);
        all.add("tape pitches " + Arrays.toString(notes(reader, 5, 1)));
    }

    /** REST is the least number of TICKS apart at which one TOOTH is enough for two NOTES. */
    private static void lookAtRest(Steps steps, List<String> all) {
        MusicBoxShop shop = made(steps);
        shop.read(0, 5);
        int rest = 0;
        for (int apart = 96; apart >= 1; apart--) {
            read(shop, 5, "c4/" + apart + "c4");
            rest = shop.fewest(5) == 1 ? apart : rest;
        }
        all.add("rest " + rest);
    }

    private static void lookAtTeeth(Steps steps, List<String> all) {
        MusicBoxShop shop = made(steps);
        for (int k = 0; k < 61; k++) {
            if (shop.comb(k, 0) >= 0) {
                all.add("tooth " + k + ": " + shop.comb(k, 0) + " " + shop.comb(k, 1) + " "
                        + shop.comb(k, 2));
                lookAtPlucks(steps, k, all);
            }
        }
    }

    private static void lookAtPlucks(Steps steps, int k, List<String> all) {
        MusicBoxShop shop = made(steps);
        StringBuilder ticks = new StringBuilder();
        for (int n = 0; n < 300 && shop.plucks(k, n) >= 0; n++) {
            ticks.append(' ').append(shop.plucks(k, n));
        }
        all.add("plucks " + k + ":" + ticks);
    }

    private static void lookAtTune(Steps steps, int t, List<String> all) {
        MusicBoxShop shop = made(steps);
        StringBuilder line = new StringBuilder();
        for (int what = 0; what < 8; what++) {
            line.append(' ').append(shop.tune(t, what));
        }
        all.add("tune " + t + ":" + line);
    }

    private static void lookAtNotes(Steps steps, int t, List<String> all) {
        MusicBoxShop shop = made(steps);
        int count = shop.tune(t, 0);
        for (int i = 0; i < count; i++) {
            // Forty NOTES are 280 calls.
            shop = i % 40 == 0 ? made(steps) : shop;
            StringBuilder line = new StringBuilder();
            for (int what = 0; what < 7; what++) {
                line.append(' ').append(note(shop, t, i, what));
            }
            all.add("note " + t + " " + i + ":" + line);
        }
    }

    private static void lookAtChoice(Steps steps, int t, List<String> all) {
        MusicBoxShop shop = made(steps);
        StringBuilder fits = new StringBuilder();
        for (int shift = -25; shift <= 25; shift++) {
            fits.append(' ').append(shop.fit(t, shift));
        }
        all.add("choice " + t + ": best " + shop.best(t) + ", fewest " + shop.fewest(t)
                + ", fits" + fits);
        shop = made(steps);
        all.add("choice " + t + ": keeps " + Arrays.toString(keeps(shop, t, 0)));
    }

    private static void lookAtCrowds(Steps steps, List<String> all) {
        MusicBoxShop shop = made(steps);
        all.add("crowds " + shop.crowds() + " " + Arrays.toString(crowd(shop)));
    }

    private static void lookAtFaults(Steps steps, List<String> all) {
        MusicBoxShop shop = made(steps);
        int count = shop.faults();
        all.add("faults " + count);
        for (int k = 0; k < count && k < 100; k++) {
            all.add("faults " + k + ": " + Arrays.toString(suspect(shop, k)));
        }
    }

    private static void lookAtStarts(Steps steps, List<String> all) {
        MusicBoxShop shop = made(steps);
        all.add("arrange " + shop.arrange() + " " + Arrays.toString(starts(shop)));
    }
}

import java.util.ArrayList;
import java.util.Arrays;
import java.util.HashMap;
import java.util.List;
import java.util.Map;
import java.util.NoSuchElementException;
import java.util.Random;

/**
 * Random runs of calls, each answered by MusicBoxShop and by a model of the document that is
 * written as plainly as can be: it looks at all pairs of pins, tries all starts by recursion, and
 * chooses notes by the teeth's own last plucks. The seeds are fixed: each run is the same.
 */
public final class OracleTest {
    private static int wrong = 0;

    public static void main(String[] args) {
        int runs = args.length > 0 ? Integer.parseInt(args[0]) : 700;
        int first = args.length > 1 ? Integer.parseInt(args[1]) : 1;
        for (int seed = first; seed < first + runs && wrong < 20; seed++) {
            new Run(seed).play();
        }
        for (int seed = first; seed < first + runs / 20 && wrong < 20; seed++) {
            new Run(seed).playDense();
            new Run(seed).playFull();
        }
        System.out.println(wrong == 0 ? "all random runs agree" : wrong + " answers disagree");
        if (wrong != 0) {
            System.exit(1);
        }
    }

    /** One object and its model through 512 calls. */
    private static final class Run {
        final int seed;
        final Random random;
        final MusicBoxShop shop = new MusicBoxShop();
        final Model model = new Model();
        final int[] scale;
        final int style;
        int calls = 0;
        String latest = "";

        Run(int seed) {
            this.seed = seed;
            random = new Random(seed);
            style = random.nextInt(6);
            scale = new int[1 + random.nextInt(style == 0 || style > 3 ? 2 : 6)];
            for (int i = 0; i < scale.length; i++) {
                scale[i] = 24 + random.nextInt(10);
            }
        }

        void due(String call, long got, long want) {
            if (got != want) {
                wrong++;
                System.out.println("seed " + seed + ", call " + calls + ": " + call + " answered "
                        + got + ", due is " + want + "; latest text: " + latest);
            }
        }

        int upTo(int bound) {
            return random.nextInt(bound);
        }

        /** Mostly within 0 to bound - 1, now and then outside, now and then far outside. */
        int about(int bound) {
            int dice = upTo(150);
            if (dice == 0) {
                return -1;
            }
            if (dice == 1) {
                return bound;
            }
            if (dice == 2) {
                return upTo(2) == 0 ? Integer.MIN_VALUE : Integer.MAX_VALUE;
            }
            return upTo(Math.max(bound, 1));
        }

        int shift() {
            int dice = upTo(30);
            if (dice == 0) {
                return upTo(2) == 0 ? 25 : -25;
            }
            return dice < 20 ? 0 : dice < 28 ? upTo(5) - 2 : upTo(49) - 24;
        }

        void play() {
            // Most teeth and tunes at first, so that there is much to choose from.
            int teeth = upTo(12);
            for (int k = 0; k < teeth; k++) {
                tooth();
            }
            for (int t = 0; t < 6; t++) {
                text(t);
                pin(t, shift());
            }
            while (calls < 470 && wrong < 20) {
                step();
            }
            look();
        }

        /** One long tune of one pitch, as near as can be, with few weights: many choices alike. */
        void playDense() {
            StringBuilder text = new StringBuilder();
            int most = 1 + upTo(3);
            int weights = 1 + upTo(4);
            while (text.length() < 790) {
                text.append("c4*").append(1 + upTo(weights)).append('/').append(1 + upTo(most));
            }
            text.setLength(text.lastIndexOf("c"));
            choose(text.toString());
        }

        /** As many NOTES of one pitch as a TUNE can have. */
        void playFull() {
            StringBuilder text = new StringBuilder();
            int most = 1 + upTo(3);
            int weights = 1 + upTo(3);
            for (int i = 0; i < 150; i++) {
                // The text has bytes enough for a WEIGHT of two of five NOTES.
                text.append("c4").append(upTo(5) < 2 ? "*" + (8 + upTo(weights)) : "");
                text.append('/').append(1 + upTo(most));
            }
            if (text.length() <= 800) {
                choose(text.toString());
                due("tune(0, 0)", shop.tune(0, 0), 150);
            }
        }

        void choose(String text) {
            int teeth = 1 + upTo(3);
            for (int k = 0; k < teeth; k++) {
                due("tooth", shop.tooth(36), model.tooth(36));
            }
            feedAndRead(text, 0);
            for (int n = 0; n < 3; n++) {
                int ticks = 1 + upTo(teeth == 3 ? 16 : 48);
                due("rest", shop.rest(ticks) ? 1 : 0, model.rest(ticks) ? 1 : 0);
                due("fit", shop.fit(0, 0), model.fit(0, 0));
                due("pin", shop.pin(0, 0), model.pin(0, 0));
                for (int i = 0; i < model.tune(0, 0); i++) {
                    due("note(0, " + i + ", 3)", shop.note(0, i, 3), model.note(0, i, 3));
                }
            }
        }

        void step() {
            switch (upTo(20)) {
                case 0: text(about(6)); break;
                case 1: look(); break;
                case 2: tooth(); break;
                case 3: breaks(); break;
                case 4: rest(); break;
                case 5: fit(); break;
                case 6: keeps(); break;
                case 7: best(); break;
                case 8: pin(about(6), shift()); break;
                case 9: pin(about(6), model.best(0) % 25); break;
                case 10: start(); break;
                case 11: tear(); break;
                case 12: start(); break;
                case 13: arrange(); break;
                case 14: case 15: bendOrSilence(); break;
                case 16: listen(); break;
                case 17: suspects(); break;
                case 18: crowds(); break;
                default: ask(); break;
            }
        }

        void look() {
            for (int t = 0; t < 6 && calls < 512; t++) {
                calls++;
                due("tune", shop.tune(t, 6), model.tune(t, 6));
            }
        }

        void tooth() {
            calls++;
            int pitch = upTo(25) == 0 ? about(88) : scale[upTo(scale.length)] + upTo(3) - 1;
            due("tooth(" + pitch + ")", shop.tooth(pitch), model.tooth(pitch));
        }

        void breaks() {
            calls++;
            int k = about(model.teeth.size());
            boolean is = upTo(3) == 0;
            due("breaks(" + k + ", " + is + ")", shop.breaks(k, is) ? 1 : 0,
                    model.breaks(k, is) ? 1 : 0);
        }

        void rest() {
            calls++;
            int ticks = style == 0 ? about(50) : about(14);
            due("rest(" + ticks + ")", shop.rest(ticks) ? 1 : 0, model.rest(ticks) ? 1 : 0);
        }

        void fit() {
            calls++;
            int t = about(6);
            int shift = shift();
            due("fit(" + t + ", " + shift + ")", shop.fit(t, shift), model.fit(t, shift));
        }

        void keeps() {
            int t = about(6);
            int shift = shift();
            for (int n = 0; n < 6; n++) {
                calls++;
                int i = about(Math.max(0, model.tune(t, 0)));
                due("keeps(" + t + ", " + shift + ", " + i + ")", shop.keeps(t, shift, i),
                        model.keeps(t, shift, i));
            }
        }

        void best() {
            calls += 2;
            int t = about(6);
            due("best(" + t + ")", shop.best(t), model.best(t));
            due("fewest(" + t + ")", shop.fewest(t), model.fewest(t));
        }

        void pin(int t, int shift) {
            calls++;
            due("pin(" + t + ", " + shift + ")", shop.pin(t, shift), model.pin(t, shift));
        }

        void tear() {
            calls++;
            int t = about(6);
            boolean out = upTo(2) == 0;
            if (upTo(3) == 0) {
                due("tear(" + t + ", " + out + ")", shop.tear(t, out) ? 1 : 0,
                        model.tear(t, out) ? 1 : 0);
            }
        }

        void start() {
            calls++;
            int t = about(6);
            int ticks = about(64);
            due("start(" + t + ", " + ticks + ")", shop.start(t, ticks) ? 1 : 0,
                    model.start(t, ticks) ? 1 : 0);
        }

        void arrange() {
            calls++;
            due("arrange()", shop.arrange(), model.arrange());
            for (int t = 0; t < 6; t++) {
                calls++;
                due("tune(" + t + ", 4)", shop.tune(t, 4), model.tune(t, 4));
            }
        }

        void bendOrSilence() {
            for (int n = 0; n < 4; n++) {
                calls++;
                int t = about(6);
                int i = about(Math.max(0, model.tune(t, 0)));
                boolean is = upTo(4) != 0;
                if (upTo(2) == 0) {
                    due("bend(" + t + ", " + i + ", " + is + ")", shop.bend(t, i, is) ? 1 : 0,
                            model.bend(t, i, is) ? 1 : 0);
                } else {
                    due("silent(" + t + ", " + i + ", " + is + ")", shop.silent(t, i, is) ? 1 : 0,
                            model.silent(t, i, is) ? 1 : 0);
                }
            }
        }

        void listen() {
            calls++;
            due("listen()", shop.listen(), model.listen());
        }

        void suspects() {
            calls++;
            int count = model.faults();
            due("faults()", shop.faults(), count);
            for (int n = 0; n < 4; n++) {
                calls++;
                int k = about(count);
                int what = about(3);
                due("suspect(" + k + ", " + what + ")", shop.suspect(k, what),
                        model.suspect(k, what));
            }
        }

        void crowds() {
            calls += 6;
            due("crowds()", shop.crowds(), model.crowds());
            for (int what = 0; what < 4; what++) {
                due("crowd(" + what + ")", shop.crowd(what), model.crowd(what));
            }
            int what = about(4);
            due("crowd(" + what + ")", shop.crowd(what), model.crowd(what));
        }

        void ask() {
            for (int n = 0; n < 5; n++) {
                calls++;
                switch (upTo(4)) {
                    case 0: askTune(); break;
                    case 1: askNote(); break;
                    case 2: askComb(); break;
                    default: askPlucks(); break;
                }
            }
        }

        void askTune() {
            int t = about(6);
            int what = about(8);
            due("tune(" + t + ", " + what + ")", shop.tune(t, what), model.tune(t, what));
        }

        void askNote() {
            int t = about(6);
            int i = about(Math.max(0, model.tune(t, 0)));
            int what = about(7);
            long got;
            try {
                got = shop.note(t, i, what);
            } catch (NoSuchElementException e) {
                got = -77;
            }
            due("note(" + t + ", " + i + ", " + what + ")", got, model.note(t, i, what));
        }

        void askComb() {
            int k = about(model.teeth.size());
            int what = about(3);
            due("comb(" + k + ", " + what + ")", shop.comb(k, what), model.comb(k, what));
        }

        void askPlucks() {
            int j = about(model.teeth.size());
            int k = about(6);
            due("plucks(" + j + ", " + k + ")", shop.plucks(j, k), model.plucks(j, k));
        }

        void text(int t) {
            feedAndRead(new Texts(random, scale, style).make(), t);
        }

        void feedAndRead(String text, int t) {
            latest = text;
            byte[] bytes = new byte[(text.length() + 19) / 20 * 20];
            Arrays.fill(bytes, (byte) 'x');
            for (int i = 0; i < text.length(); i++) {
                bytes[i] = (byte) text.charAt(i);
            }
            for (int at = 0; at < bytes.length; at += 20) {
                calls++;
                int a = word(bytes, at);
                int b = word(bytes, at + 4);
                int c = word(bytes, at + 8);
                int d = word(bytes, at + 12);
                int e = word(bytes, at + 16);
                due("feed", shop.feed(a, b, c, d, e), model.feed(a, b, c, d, e));
            }
            calls += 4;
            if (upTo(30) == 0) {
                int n = upTo(2) == 0 ? -1 : bytes.length + 1;
                due("read(" + n + ", 0)", shop.read(n, 0), model.read(n, 0));
            }
            due("read(" + text.length() + ", " + t + ")", shop.read(text.length(), t),
                    model.read(text.length(), t));
            due("fault(0)", shop.fault(0), model.fault(0));
            due("fault(1)", shop.fault(1), model.fault(1));
        }

        static int word(byte[] bytes, int at) {
            return (bytes[at] & 255) << 24 | (bytes[at + 1] & 255) << 16
                    | (bytes[at + 2] & 255) << 8 | (bytes[at + 3] & 255);
        }
    }

    /** Texts that mostly keep to the grammar, with a byte changed now and then. */
    private static final class Texts {
        static final String[] NAMES = {"c", "c#", "d", "d#", "e", "f", "f#", "g", "g#", "a", "a#",
            "b"};
        final Random random;
        final int[] scale;
        final int style;
        final StringBuilder out = new StringBuilder();
        int chordStep = 0;

        Texts(Random random, int[] scale, int style) {
            this.random = random;
            this.scale = scale;
            this.style = style;
        }

        String make() {
            if (style > 3 && random.nextInt(6) != 0) {
                rhythm();
                return out.toString();
            }
            int items = style == 0 ? 5 + random.nextInt(60) : random.nextInt(25);
            items(items, 0);
            if (random.nextInt(5) == 0) {
                spoil();
            }
            out.setLength(Math.min(out.length(), 300));
            return out.toString();
        }

        /** The same few notes again and again: tunes that crowd with most starts. */
        void rhythm() {
            out.append("(");
            for (int n = random.nextInt(2); n >= 0; n--) {
                note(false);
                out.append('/').append(1 + random.nextInt(7));
                out.append(random.nextInt(3) == 0 ? "r" : "");
            }
            out.append(")").append(1 + random.nextInt(20));
            if (random.nextInt(3) == 0) {
                out.append("(r/").append(70 + random.nextInt(27)).append(")4");
                note(false);
            }
        }

        void spoil() {
            String signs = "abcdefghr#0123456789/*[]() \n.x\u00e9";
            for (int n = random.nextInt(3); n >= 0; n--) {
                char sign = signs.charAt(random.nextInt(signs.length()));
                int at = random.nextInt(out.length() + 1);
                switch (random.nextInt(3)) {
                    case 0:
                        out.insert(at, sign);
                        break;
                    case 1:
                        if (at < out.length()) {
                            out.setCharAt(at, sign);
                        }
                        break;
                    default:
                        if (at < out.length()) {
                            out.deleteCharAt(at);
                        }
                        break;
                }
            }
        }

        void blank() {
            if (random.nextInt(4) == 0) {
                out.append(random.nextInt(3) == 0 ? '\n' : ' ');
            }
        }

        void items(int count, int depth) {
            for (int n = 0; n < count && out.length() < 280; n++) {
                blank();
                int dice = random.nextInt(20);
                if (dice < 11) {
                    note(false);
                    time();
                } else if (dice < 13) {
                    out.append('r');
                    time();
                } else if (dice < 17) {
                    chord();
                } else if (depth < 4 || random.nextInt(100) == 0) {
                    group(depth);
                }
            }
        }

        void group(int depth) {
            out.append('(');
            items(random.nextInt(4), depth + 1);
            blank();
            out.append(')');
            blank();
            out.append(random.nextInt(100) == 0 ? random.nextInt(25) : 1 + random.nextInt(3));
        }

        void chord() {
            out.append('[');
            int count = random.nextInt(60) == 0 ? 13 : 1 + random.nextInt(3);
            for (int n = 0; n < count; n++) {
                chordStep = n * 12;
                blank();
                note(true);
            }
            blank();
            out.append(']');
            time();
        }

        void note(boolean wide) {
            int pitch = scale[random.nextInt(scale.length)];
            if (wide && random.nextInt(60) != 0) {
                // Each next note of a chord lies higher, so that few are there twice.
                pitch = Math.min(80, pitch + random.nextInt(3) + chordStep);
            }
            if (random.nextInt(400) == 0) {
                pitch = 80 + random.nextInt(16);
            }
            String name = NAMES[pitch % 12];
            if (random.nextInt(30) == 0 && pitch % 12 == 5) {
                name = "e#";
            }
            out.append(name.charAt(0));
            blank();
            if (name.length() > 1) {
                out.append('#');
                blank();
            }
            out.append(pitch / 12 + 1);
            if (random.nextInt(2) == 0) {
                blank();
                out.append('*');
                blank();
                out.append(1 + random.nextInt(random.nextInt(3) == 0 ? 99 : 4));
            }
        }

        void time() {
            blank();
            if (random.nextInt(5) != 0) {
                out.append('/');
                blank();
                int most = style == 0 ? 2 : style == 1 ? 30 : 6;
                out.append(1 + random.nextInt(random.nextInt(60) == 0 ? 97 : most));
            }
        }
    }

    private static final class Fault extends Exception {
        private static final long serialVersionUID = 1L;
        final int kind;
        final int place;

        Fault(int kind, int place) {
            this.kind = kind;
            this.place = place;
        }
    }

    private static final class Note {
        long tick;
        int pitch;
        int weight;
        int tooth = -1;
        boolean bent;
        boolean silent;

        Note(long tick, int pitch, int weight) {
            this.tick = tick;
            this.pitch = pitch;
            this.weight = weight;
        }
    }

    /** Reads a text by recursive descent, each rule of the grammar a method. */
    private static final class Parser {
        final int[] text;
        int at = 0;
        int badPitch = -1;

        Parser(int[] text) {
            this.text = text;
        }

        char look() throws Fault {
            while (at < text.length && (text[at] == 10 || text[at] == 32)) {
                at++;
            }
            if (at == text.length) {
                return '$';
            }
            char c = (char) text[at];
            if (c >= '0' && c <= '9') {
                if (digits() > 3) {
                    throw new Fault(1, at);
                }
                return '0';
            }
            if ("abcdefgr#/*[]()".indexOf(c) < 0) {
                throw new Fault(1, at);
            }
            return c >= 'a' && c <= 'g' ? 'a' : c;
        }

        int digits() {
            int end = at;
            while (end < text.length && text[end] >= '0' && text[end] <= '9') {
                end++;
            }
            return end - at;
        }

        int number(int least, int most, int width) throws Fault {
            if (look() != '0' || digits() > width) {
                throw new Fault(2, at);
            }
            int value = 0;
            int count = digits();
            for (int i = 0; i < count; i++) {
                value = value * 10 + text[at + i] - '0';
            }
            if (value < least || value > most) {
                throw new Fault(2, at);
            }
            at += count;
            return value;
        }

        List<Note> whole() throws Fault {
            List<Note> notes = new ArrayList<>();
            long[] now = {0};
            items(notes, now, 0);
            if (look() != '$') {
                throw new Fault(2, at);
            }
            if (badPitch >= 0) {
                throw new Fault(4, badPitch);
            }
            if (notes.size() > 150) {
                throw new Fault(5, text.length);
            }
            for (Note note : notes) {
                if (note.tick > 479) {
                    throw new Fault(5, text.length);
                }
            }
            notes.sort((x, y) -> x.tick != y.tick ? Long.compare(x.tick, y.tick)
                    : Integer.compare(x.pitch, y.pitch));
            return notes;
        }

        void items(List<Note> notes, long[] now, int depth) throws Fault {
            for (char c = look(); c == 'a' || c == 'r' || c == '[' || c == '('; c = look()) {
                if (c == '(') {
                    group(notes, now, depth);
                    continue;
                }
                List<Note> sound = new ArrayList<>();
                if (c == 'a') {
                    note(sound, now[0]);
                } else {
                    at++;
                }
                if (c == '[') {
                    note(sound, now[0]);
                    while (look() != ']') {
                        note(sound, now[0]);
                    }
                    at++;
                }
                notes.addAll(sound);
                if (look() == '/') {
                    at++;
                    now[0] += number(1, 96, 3);
                } else {
                    now[0] += 6;
                }
            }
        }

        void group(List<Note> notes, long[] now, int depth) throws Fault {
            if (depth == 4) {
                throw new Fault(3, at);
            }
            at++;
            List<Note> inside = new ArrayList<>();
            long[] span = {0};
            items(inside, span, depth + 1);
            if (look() != ')') {
                throw new Fault(2, at);
            }
            at++;
            int times = number(1, 20, 3);
            for (int n = 0; n < times; n++) {
                // A few more than 150 are as good as all.
                for (int i = 0; i < inside.size() && notes.size() < 200; i++) {
                    Note note = inside.get(i);
                    notes.add(new Note(now[0] + note.tick, note.pitch, note.weight));
                }
                now[0] += span[0];
            }
        }

        void note(List<Note> sound, long now) throws Fault {
            if (look() != 'a') {
                throw new Fault(2, at);
            }
            if (sound.size() == 12) {
                throw new Fault(3, at);
            }
            int place = at;
            int pitch = "c d ef g a b".indexOf((char) text[at]);
            at++;
            if (look() == '#') {
                pitch++;
                at++;
            }
            pitch += 12 * (number(1, 8, 1) - 1);
            int weight = 10;
            if (look() == '*') {
                at++;
                weight = number(1, 99, 3);
            }
            boolean bad = pitch > 87;
            for (Note other : sound) {
                bad = bad || other.pitch == pitch;
            }
            if (bad && badPitch < 0) {
                badPitch = place;
            }
            sound.add(new Note(now, pitch, weight));
        }
    }

    private static final class Tune {
        List<Note> notes;
        boolean pinned = false;
        int shift = 0;
        int start = 0;

        Tune(List<Note> notes) {
            this.notes = notes;
        }

        void clear() {
            for (Note note : notes) {
                note.tooth = -1;
                note.bent = false;
                note.silent = false;
            }
            pinned = false;
            shift = 0;
            start = 0;
        }
    }

    private static final class Tooth {
        final int pitch;
        boolean whole = true;

        Tooth(int pitch) {
            this.pitch = pitch;
        }
    }

    private static final class Model {
        final List<Integer> tape = new ArrayList<>();
        final List<Tooth> teeth = new ArrayList<>();
        final Tune[] tunes = new Tune[6];
        int faultKind = -1;
        int faultPlace = -1;
        int rest = 6;
        int tries;

        int feed(int a, int b, int c, int d, int e) {
            if (tape.size() + 20 > 800) {
                return -1;
            }
            for (int word : new int[] {a, b, c, d, e}) {
                for (int n = 0; n < 4; n++) {
                    tape.add(word >> (24 - 8 * n) & 255);
                }
            }
            return tape.size();
        }

        int read(int n, int t) {
            if (n < 0 || n > tape.size() || t < 0 || t > 5) {
                return -1;
            }
            int[] text = new int[n];
            for (int i = 0; i < n; i++) {
                text[i] = tape.get(i);
            }
            tape.clear();
            try {
                List<Note> notes = new Parser(text).whole();
                tunes[t] = new Tune(notes);
                faultKind = 0;
                faultPlace = -1;
                return notes.size();
            } catch (Fault fault) {
                faultKind = fault.kind;
                faultPlace = fault.place;
                return -2;
            }
        }

        int fault(int what) {
            return what == 0 ? faultKind : what == 1 ? faultPlace : -1;
        }

        Tune known(int t) {
            return t < 0 || t > 5 ? null : tunes[t];
        }

        Note noteOf(int t, int i) {
            Tune tune = known(t);
            return tune == null || i < 0 || i >= tune.notes.size() ? null : tune.notes.get(i);
        }

        boolean heard(Note note) {
            return note.tooth >= 0 && !note.bent && teeth.get(note.tooth).whole;
        }

        int tune(int t, int what) {
            Tune tune = known(t);
            if (tune == null || what < 0 || what > 7) {
                return -1;
            }
            int all = 0;
            int kept = 0;
            int keptWeight = 0;
            int heard = 0;
            for (Note note : tune.notes) {
                all += note.weight;
                kept += note.tooth >= 0 ? 1 : 0;
                keptWeight += note.tooth >= 0 ? note.weight : 0;
                heard += heard(note) ? 1 : 0;
            }
            return new int[] {tune.notes.size(), all, tune.pinned ? 1 : 0, tune.shift, tune.start,
                kept, keptWeight, heard}[what];
        }

        int note(int t, int i, int what) {
            Note note = noteOf(t, i);
            if (note == null || what < 0 || what > 6) {
                return -77;
            }
            return new int[] {(int) note.tick, note.pitch, note.weight, note.tooth,
                heard(note) ? 1 : 0, note.silent ? 1 : 0, note.bent ? 1 : 0}[what];
        }

        int tooth(int pitch) {
            int alike = 0;
            for (Tooth tooth : teeth) {
                alike += tooth.pitch == pitch ? 1 : 0;
            }
            if (pitch < 0 || pitch > 87 || alike == 3 || teeth.size() == 60) {
                return -1;
            }
            teeth.add(new Tooth(pitch));
            return teeth.size() - 1;
        }

        int comb(int k, int what) {
            if (k < 0 || k >= teeth.size() || what < 0 || what > 2) {
                return -1;
            }
            int pins = 0;
            for (int[] pin : pins()) {
                pins += pin[2] == k ? 1 : 0;
            }
            return new int[] {teeth.get(k).pitch, teeth.get(k).whole ? 1 : 0, pins}[what];
        }

        boolean breaks(int k, boolean is) {
            if (k < 0 || k >= teeth.size() || teeth.get(k).whole == !is) {
                return false;
            }
            teeth.get(k).whole = !is;
            return true;
        }

        boolean rest(int ticks) {
            if (ticks < 1 || ticks > 48) {
                return false;
            }
            rest = ticks;
            return true;
        }

        /** The choice for one pitch, note by note, over how long each tooth has still to rest. */
        final class Choice {
            final List<Note> notes;
            final Map<String, Integer> memo = new HashMap<>();

            Choice(List<Note> notes) {
                this.notes = notes;
            }

            /** The most weight from note i on, where each tooth may be plucked from a tick on. */
            int most(int i, long[] free) {
                if (i == notes.size()) {
                    return 0;
                }
                long[] left = free.clone();
                for (int k = 0; k < left.length; k++) {
                    left[k] = Math.max(0, left[k] - notes.get(i).tick);
                }
                Arrays.sort(left);
                String key = i + Arrays.toString(left);
                Integer known = memo.get(key);
                if (known != null) {
                    return known;
                }
                int best = most(i + 1, free);
                long[] with = pluck(i, free);
                if (with != null) {
                    best = Math.max(best, notes.get(i).weight + most(i + 1, with));
                }
                memo.put(key, best);
                return best;
            }

            /** Which tooth plucks is of no weight here: one that is free is as good as another. */
            long[] pluck(int i, long[] free) {
                for (int k = 0; k < free.length; k++) {
                    if (free[k] <= notes.get(i).tick) {
                        long[] with = free.clone();
                        with[k] = notes.get(i).tick + rest;
                        return with;
                    }
                }
                return null;
            }
        }

        /** The kept notes: of the most weight, and of these the first. */
        boolean[] kept(Tune tune, int shift) {
            boolean[] kept = new boolean[tune.notes.size()];
            for (int pitch = 0; pitch < 88; pitch++) {
                int whole = 0;
                for (Tooth tooth : teeth) {
                    whole += tooth.whole && tooth.pitch == pitch + shift ? 1 : 0;
                }
                List<Note> notes = new ArrayList<>();
                List<Integer> numbers = new ArrayList<>();
                for (int i = 0; i < kept.length; i++) {
                    if (tune.notes.get(i).pitch == pitch) {
                        notes.add(tune.notes.get(i));
                        numbers.add(i);
                    }
                }
                Choice choice = new Choice(notes);
                long[] free = new long[whole];
                for (int i = 0; i < notes.size(); i++) {
                    int most = choice.most(i, free);
                    long[] with = choice.pluck(i, free);
                    if (with != null && notes.get(i).weight + choice.most(i + 1, with) == most) {
                        kept[numbers.get(i)] = true;
                        free = with;
                    }
                }
            }
            return kept;
        }

        int fit(int t, int shift) {
            Tune tune = known(t);
            if (tune == null || shift < -24 || shift > 24) {
                return -1;
            }
            int sum = 0;
            boolean[] kept = kept(tune, shift);
            for (int i = 0; i < kept.length; i++) {
                sum += kept[i] ? tune.notes.get(i).weight : 0;
            }
            return sum;
        }

        int keeps(int t, int shift, int i) {
            if (noteOf(t, i) == null || shift < -24 || shift > 24) {
                return -1;
            }
            return kept(known(t), shift)[i] ? 1 : 0;
        }

        int best(int t) {
            if (known(t) == null) {
                return 99;
            }
            int best = 0;
            for (int shift = -24; shift <= 24; shift++) {
                int more = fit(t, shift) - fit(t, best);
                int nearer = Math.abs(best) - Math.abs(shift);
                if (more > 0 || (more == 0 && (nearer > 0 || (nearer == 0 && shift > 0)))) {
                    best = shift;
                }
            }
            return best;
        }

        int fewest(int t) {
            Tune tune = known(t);
            if (tune == null) {
                return -1;
            }
            int sum = 0;
            for (int pitch = 0; pitch < 88; pitch++) {
                int need = 0;
                for (Note note : tune.notes) {
                    int near = 0;
                    for (Note other : tune.notes) {
                        near += note.pitch == pitch && other.pitch == pitch
                                && other.tick >= note.tick && other.tick < note.tick + rest ? 1 : 0;
                    }
                    need = Math.max(need, near);
                }
                if (need > 3) {
                    return -2;
                }
                sum += need;
            }
            return sum > 60 ? -2 : sum;
        }

        int pin(int t, int shift) {
            Tune tune = known(t);
            if (tune == null || shift < -24 || shift > 24) {
                return -1;
            }
            boolean[] kept = kept(tune, shift);
            tune.clear();
            tune.pinned = true;
            tune.shift = shift;
            int count = 0;
            for (int i = 0; i < kept.length; i++) {
                Note note = tune.notes.get(i);
                for (int k = 0; kept[i] && note.tooth < 0 && k < teeth.size(); k++) {
                    boolean may = teeth.get(k).whole && teeth.get(k).pitch == note.pitch + shift;
                    for (int j = 0; j < i; j++) {
                        Note ahead = tune.notes.get(j);
                        may = may && !(ahead.tooth == k && note.tick - ahead.tick < rest);
                    }
                    if (may) {
                        note.tooth = k;
                        count++;
                    }
                }
            }
            return count;
        }

        boolean tear(int t, boolean out) {
            Tune tune = known(t);
            if (tune == null || (!out && !tune.pinned)) {
                return false;
            }
            tune.clear();
            if (out) {
                tunes[t] = null;
            }
            return true;
        }

        boolean mayStart(int t, int ticks) {
            for (Note note : tunes[t].notes) {
                if (note.tooth >= 0 && note.tick + ticks > 479) {
                    return false;
                }
            }
            return true;
        }

        boolean start(int t, int ticks) {
            Tune tune = known(t);
            if (tune == null || !tune.pinned || ticks < 0 || ticks > 63 || !mayStart(t, ticks)) {
                return false;
            }
            tune.start = ticks;
            return true;
        }

        /** All pins, by tunes, then by notes: tune, note, tooth, tick with the start. */
        List<int[]> pins() {
            List<int[]> pins = new ArrayList<>();
            for (int t = 0; t < 6; t++) {
                for (int i = 0; tunes[t] != null && i < tunes[t].notes.size(); i++) {
                    Note note = tunes[t].notes.get(i);
                    if (note.tooth >= 0) {
                        pins.add(new int[] {t, i, note.tooth, (int) note.tick + tunes[t].start});
                    }
                }
            }
            return pins;
        }

        static boolean crowd(int[] one, int[] other) {
            int lanes = 6 * one[2] + one[0] - 6 * other[2] - other[0];
            return Math.abs(lanes) == 1 && Math.abs(one[3] - other[3]) < 2;
        }

        int crowds() {
            int count = 0;
            List<int[]> pins = pins();
            for (int i = 0; i < pins.size(); i++) {
                for (int j = i + 1; j < pins.size(); j++) {
                    count += crowd(pins.get(i), pins.get(j)) ? 1 : 0;
                }
            }
            return count;
        }

        int crowd(int what) {
            for (int[] one : pins()) {
                for (int[] other : pins()) {
                    if (crowd(one, other) && what >= 0 && what < 4) {
                        return new int[] {one[0], one[1], other[0], other[1]}[what];
                    }
                }
            }
            return -1;
        }

        int arrange() {
            int[] before = new int[6];
            for (int t = 0; t < 6; t++) {
                before[t] = tunes[t] == null ? 0 : tunes[t].start;
            }
            tries = 0;
            int answer = place(0) ? 1 : -2;
            if (tries > 20000) {
                answer = -3;
            }
            for (int t = 0; answer < 0 && t < 6; t++) {
                if (tunes[t] != null) {
                    tunes[t].start = before[t];
                }
            }
            return answer < 0 ? answer : tries;
        }

        boolean place(int t) {
            if (t == 6) {
                return true;
            }
            if (tunes[t] == null || !tunes[t].pinned) {
                return place(t + 1);
            }
            for (int start = 0; start <= 63; start++) {
                tries++;
                if (tries > 20000) {
                    return false;
                }
                tunes[t].start = start;
                if (mayStart(t, start) && !crowdsAhead(t) && place(t + 1)) {
                    return true;
                }
            }
            return false;
        }

        boolean crowdsAhead(int t) {
            for (int u = 0; u < t; u++) {
                for (int i = 0; tunes[u] != null && i < tunes[u].notes.size(); i++) {
                    Note one = tunes[u].notes.get(i);
                    if (one.tooth < 0 || (t - u != 1 && t - u != 5)) {
                        continue;
                    }
                    int[] pin = {u, i, one.tooth, (int) one.tick + tunes[u].start};
                    for (Note other : tunes[t].notes) {
                        int[] mine = {t, 0, other.tooth, (int) other.tick + tunes[t].start};
                        if (other.tooth >= 0 && crowd(pin, mine)) {
                            return true;
                        }
                    }
                }
            }
            return false;
        }

        boolean bend(int t, int i, boolean is) {
            Note note = noteOf(t, i);
            if (note == null || note.tooth < 0 || note.bent == is) {
                return false;
            }
            note.bent = is;
            return true;
        }

        boolean silent(int t, int i, boolean is) {
            Note note = noteOf(t, i);
            if (note == null || note.tooth < 0 || note.silent == is) {
                return false;
            }
            note.silent = is;
            return true;
        }

        int listen() {
            int count = 0;
            for (int[] pin : pins()) {
                Note note = noteOf(pin[0], pin[1]);
                note.silent = !heard(note);
                count += note.silent ? 1 : 0;
            }
            return count;
        }

        List<int[]> suspects() {
            List<int[]> all = new ArrayList<>();
            boolean[] broken = new boolean[teeth.size()];
            for (int k = 0; k < teeth.size(); k++) {
                int pins = 0;
                int silent = 0;
                for (int[] pin : pins()) {
                    pins += pin[2] == k ? 1 : 0;
                    silent += pin[2] == k && noteOf(pin[0], pin[1]).silent ? 1 : 0;
                }
                if (pins >= 2 && silent == pins) {
                    broken[k] = true;
                    all.add(new int[] {k, -1, -1});
                }
            }
            for (int[] pin : pins()) {
                if (noteOf(pin[0], pin[1]).silent && !broken[pin[2]]) {
                    all.add(new int[] {-1, pin[0], pin[1]});
                }
            }
            return all;
        }

        int faults() {
            return suspects().size();
        }

        int suspect(int k, int what) {
            List<int[]> all = suspects();
            return k < 0 || k >= all.size() || what < 0 || what > 2 ? -2 : all.get(k)[what];
        }

        int plucks(int j, int k) {
            int left = k;
            for (int[] pin : pins()) {
                if (pin[2] == j && left-- == 0) {
                    return pin[3];
                }
            }
            return -2;
        }
    }
}

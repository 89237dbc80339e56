import java.util.Arrays;
import java.util.NoSuchElementException;

/**
 * A music box shop: tunes are read from a tape, pinned on one cylinder and plucked by a comb.
 *
 * <p>All rows are made in the constructor and used again by every call, so that no call but one
 * that throws makes an object.
 */
public final class MusicBoxShop {
    public static final int NONE = -1;

    /** The answer -2, which several promises give where there is nothing to tell. */
    private static final int NOTHING = -2;
    private static final int SPENT = -3;
    private static final int NO_SHIFT = 99;

    private static final int MOST_BYTES = 800;
    private static final int FED_BYTES = 20;
    private static final int MOST_TUNES = 6;
    private static final int MOST_NOTES = 150;
    private static final int MOST_TEETH = 60;
    private static final int MOST_ALIKE = 3;
    private static final int PITCHES = 88;
    private static final int LENGTH = 480;
    private static final int MOST_SHIFT = 24;
    private static final int MOST_REST = 48;
    private static final int MOST_START = 63;
    private static final int MOST_TRIES = 20000;

    private final int[] tape;
    private int taped;
    private final TextReader reader;
    private int faultKind;
    private int faultPlace;
    private final Comb teeth;
    private final Chooser chooser;
    private final Cylinder cylinder;
    private final Verdict verdict;

    public MusicBoxShop() {
        tape = new int[MOST_BYTES];
        taped = 0;
        reader = new TextReader();
        faultKind = NONE;
        faultPlace = NONE;
        teeth = new Comb();
        chooser = new Chooser();
        cylinder = new Cylinder();
        verdict = new Verdict();
    }

    public int feed(int a, int b, int c, int d, int e) {
        if (taped > MOST_BYTES - FED_BYTES) {
            return NONE;
        }
        putWord(a);
        putWord(b);
        putWord(c);
        putWord(d);
        putWord(e);
        return taped;
    }

    private void putWord(int word) {
        for (int bits = 24; bits >= 0; bits -= 8) {
            if (taped >= 0 && taped < tape.length) {
                tape[taped] = (word >>> bits) & 255;
                taped++;
            }
        }
    }

    public int read(int n, int t) {
        Tune tune = cylinder.place(t);
        if (n < 0 || n > taped || tune == null) {
            return NONE;
        }
        taped = 0;
        reader.readText(tape, n);
        faultKind = reader.faultKind();
        faultPlace = reader.faultPlace();
        if (faultKind != TextReader.FAULTLESS) {
            return NOTHING;
        }
        tune.take(reader.score());
        return tune.size();
    }

    public int fault(int what) {
        switch (what) {
            case 0:
                return faultKind;
            case 1:
                return faultPlace;
            default:
                return NONE;
        }
    }

    public int tune(int t, int what) {
        Tune tune = cylinder.known(t);
        if (tune == null) {
            return NONE;
        }
        switch (what) {
            case 0:
                return tune.size();
            case 1:
                return tune.weightOfAll();
            case 2:
                return tune.isPinned() ? 1 : 0;
            case 3:
                return tune.shift();
            case 4:
                return tune.begin();
            case 5:
                return tune.keptCount();
            case 6:
                return tune.keptWeight();
            case 7:
                return teeth.soundingCount(tune);
            default:
                return NONE;
        }
    }

    public int note(int t, int i, int what) throws NoSuchElementException {
        Tune tune = cylinder.known(t);
        if (tune == null || !tune.has(i)) {
            throw new NoSuchElementException("no such note");
        }
        switch (what) {
            case 0:
                return tune.tickOf(i);
            case 1:
                return tune.pitchOf(i);
            case 2:
                return tune.weightOf(i);
            case 3:
                return tune.toothOf(i);
            case 4:
                return teeth.sounds(tune, i) ? 1 : 0;
            case 5:
                return tune.isMute(i) ? 1 : 0;
            case 6:
                return tune.isBent(i) ? 1 : 0;
            default:
                throw new NoSuchElementException("nothing such of a note");
        }
    }

    public int tooth(int pitch) {
        return teeth.add(pitch);
    }

    public int comb(int k, int what) {
        if (!teeth.has(k)) {
            return NONE;
        }
        switch (what) {
            case 0:
                return teeth.pitchOf(k);
            case 1:
                return teeth.isWhole(k) ? 1 : 0;
            case 2:
                return cylinder.pinsOf(k);
            default:
                return NONE;
        }
    }

    public boolean breaks(int k, boolean is) {
        if (!teeth.has(k) || teeth.isWhole(k) != is) {
            return false;
        }
        teeth.setWhole(k, !is);
        return true;
    }

    public boolean rest(int ticks) {
        if (ticks < 1 || ticks > MOST_REST) {
            return false;
        }
        teeth.setPause(ticks);
        return true;
    }

    public int fit(int t, int shift) {
        Tune tune = cylinder.known(t);
        if (tune == null || !isShift(shift)) {
            return NONE;
        }
        return chooser.mostWeight(tune, shift, teeth);
    }

    public int keeps(int t, int shift, int i) {
        Tune tune = cylinder.known(t);
        if (tune == null || !isShift(shift) || !tune.has(i)) {
            return NONE;
        }
        return chooser.wouldKeep(tune, shift, i, teeth) ? 1 : 0;
    }

    public int best(int t) {
        Tune tune = cylinder.known(t);
        return tune == null ? NO_SHIFT : chooser.bestShift(tune, teeth);
    }

    public int fewest(int t) {
        Tune tune = cylinder.known(t);
        return tune == null ? NONE : chooser.fewestTeeth(tune, teeth.pause());
    }

    public int pin(int t, int shift) {
        Tune tune = cylinder.known(t);
        if (tune == null || !isShift(shift)) {
            return NONE;
        }
        chooser.choose(tune, shift, teeth);
        tune.unpin();
        tune.pinWith(shift);
        teeth.assign(tune, chooser);
        return tune.keptCount();
    }

    public boolean tear(int t, boolean out) {
        Tune tune = cylinder.known(t);
        if (tune == null || (!out && !tune.isPinned())) {
            return false;
        }
        if (out) {
            tune.forget();
        } else {
            tune.unpin();
        }
        return true;
    }

    public boolean start(int t, int ticks) {
        Tune tune = cylinder.known(t);
        if (tune == null || !tune.isPinned() || ticks < 0 || ticks > MOST_START) {
            return false;
        }
        if (!tune.mayBegin(ticks)) {
            return false;
        }
        tune.setBegin(ticks);
        return true;
    }

    public int crowds() {
        return cylinder.crowdedPairs();
    }

    public int crowd(int what) {
        if (what < 0 || what > 3) {
            return NONE;
        }
        return cylinder.firstCrowd(what);
    }

    public int arrange() {
        return cylinder.arrangeAll();
    }

    public boolean bend(int t, int i, boolean is) {
        Tune tune = cylinder.known(t);
        if (tune == null || !tune.isKept(i) || tune.isBent(i) == is) {
            return false;
        }
        tune.setBent(i, is);
        return true;
    }

    public boolean silent(int t, int i, boolean is) {
        Tune tune = cylinder.known(t);
        if (tune == null || !tune.isKept(i) || tune.isMute(i) == is) {
            return false;
        }
        tune.setMute(i, is);
        return true;
    }

    public int listen() {
        int unheard = 0;
        for (int t = 0; t < MOST_TUNES; t++) {
            Tune tune = cylinder.known(t);
            if (tune != null) {
                unheard += teeth.muteUnheard(tune);
            }
        }
        return unheard;
    }

    public int faults() {
        verdict.gather(cylinder);
        return verdict.count(cylinder);
    }

    public int suspect(int k, int what) {
        if (k < 0 || what < 0 || what > 2) {
            return NOTHING;
        }
        verdict.gather(cylinder);
        return verdict.tell(cylinder, k, what);
    }

    public int plucks(int j, int k) {
        return k < 0 || !teeth.has(j) ? NOTHING : cylinder.pluckTick(j, k);
    }

    private static boolean isShift(int shift) {
        return shift >= -MOST_SHIFT && shift <= MOST_SHIFT;
    }

    /** The notes of a text while it is read, in the order in which a tune numbers them. */
    private static final class Score {
        static final int MOST_SOUNDING = 12;
        static final int MOST_DEPTH = 4;

        private final int[] ticks = new int[MOST_NOTES];
        private final int[] pitches = new int[MOST_NOTES];
        private final int[] weights = new int[MOST_NOTES];
        private int size;
        /** A long, as nested repetitions of pauses may go far beyond an int. */
        private long now;
        private boolean overfull;
        private final int[] soundPitches = new int[MOST_SOUNDING];
        private final int[] soundWeights = new int[MOST_SOUNDING];
        private int sounding;
        private final int[] groupNotes = new int[MOST_DEPTH];
        private final long[] groupTicks = new long[MOST_DEPTH];
        private int depth;

        Score() {
            clear();
        }

        void clear() {
            size = 0;
            now = 0;
            overfull = false;
            sounding = 0;
            depth = 0;
        }

        int size() {
            return size;
        }

        int depth() {
            return depth;
        }

        int sounding() {
            return sounding;
        }

        boolean isOverfull() {
            return overfull;
        }

        void copyTo(int[] toTicks, int[] toPitches, int[] toWeights) {
            for (int i = 0; i < size && i < MOST_NOTES; i++) {
                toTicks[i] = ticks[i];
                toPitches[i] = pitches[i];
                toWeights[i] = weights[i];
            }
        }

        void beginItem() {
            sounding = 0;
        }

        boolean isSounding(int pitch) {
            for (int s = 0; s < sounding && s < MOST_SOUNDING; s++) {
                if (soundPitches[s] == pitch) {
                    return true;
                }
            }
            return false;
        }

        void addSound(int pitch, int weight) {
            if (sounding >= 0 && sounding < MOST_SOUNDING) {
                soundPitches[sounding] = pitch;
                soundWeights[sounding] = weight;
                sounding++;
            }
        }

        void weighLatest(int weight) {
            int latest = sounding - 1;
            if (latest >= 0 && latest < MOST_SOUNDING) {
                soundWeights[latest] = weight;
            }
        }

        void endItem(int time) {
            sortSounds();
            for (int s = 0; s < sounding && s < MOST_SOUNDING; s++) {
                addNote(now, soundPitches[s], soundWeights[s]);
            }
            sounding = 0;
            now += time;
        }

        private void sortSounds() {
            for (int s = 1; s < sounding && s < MOST_SOUNDING; s++) {
                for (int low = s; low > 0 && soundPitches[low - 1] > soundPitches[low]; low--) {
                    swap(soundPitches, low);
                    swap(soundWeights, low);
                }
            }
        }

        private static void swap(int[] row, int high) {
            if (high > 0 && high < row.length) {
                int kept = row[high];
                row[high] = row[high - 1];
                row[high - 1] = kept;
            }
        }

        private void addNote(long tick, int pitch, int weight) {
            if (tick < 0 || tick >= LENGTH || size < 0 || size >= MOST_NOTES) {
                overfull = true;
                return;
            }
            ticks[size] = (int) tick;
            pitches[size] = pitch;
            weights[size] = weight;
            size++;
        }

        void openGroup() {
            if (depth >= 0 && depth < MOST_DEPTH) {
                groupNotes[depth] = size;
                groupTicks[depth] = now;
                depth++;
            }
        }

        void closeGroup(int times) {
            int top = depth - 1;
            if (top < 0 || top >= MOST_DEPTH) {
                return;
            }
            int first = groupNotes[top];
            int behind = size;
            long span = now - groupTicks[top];
            for (int time = 1; time < times && !overfull; time++) {
                copyNotes(first, behind, time * span);
            }
            now += (times - 1) * span;
            depth = top;
        }

        private void copyNotes(int first, int behind, long later) {
            for (int i = first; i >= 0 && i < behind && i < MOST_NOTES; i++) {
                addNote(ticks[i] + later, pitches[i], weights[i]);
            }
        }
    }

    /** The tokens of a text, one after the other. */
    private static final class Tokens {
        static final int END = 0;
        static final int LETTER = 1;
        static final int PAUSE = 2;
        static final int SHARP = 3;
        static final int NUMBER = 4;
        static final int SLASH = 5;
        static final int STAR = 6;
        static final int OPEN_CHORD = 7;
        static final int CLOSE_CHORD = 8;
        static final int OPEN_GROUP = 9;
        static final int CLOSE_GROUP = 10;
        static final int NO_TOKEN = 11;
        private static final int MOST_DIGITS = 3;

        private int length;
        private int next;
        private int kind;
        private int place;
        /** A LETTER's sign, or a NUMBER's value. */
        private int value;
        private int digits;

        Tokens() {
            begin(0);
        }

        void begin(int textLength) {
            length = textLength;
            next = 0;
            kind = END;
            place = 0;
            value = 0;
            digits = 0;
        }

        int kind() {
            return kind;
        }

        int place() {
            return place;
        }

        int value() {
            return value;
        }

        boolean isNumber(int least, int most) {
            return kind == NUMBER && value >= least && value <= most;
        }

        boolean isDigit(int least, int most) {
            return isNumber(least, most) && digits == 1;
        }

        void advance(int[] text) {
            skipBlanks(text);
            place = next;
            int sign = signAt(text, next);
            if (sign == NONE) {
                kind = END;
            } else if (isDigitSign(sign)) {
                takeNumber(text);
            } else {
                kind = kindOf(sign);
                value = sign;
                next++;
            }
        }

        private int signAt(int[] text, int at) {
            return at >= 0 && at < length && at < text.length ? text[at] : NONE;
        }

        private void skipBlanks(int[] text) {
            for (int at = next; at < length; at++) {
                int sign = signAt(text, at);
                if (sign != 10 && sign != 32) {
                    next = at;
                    return;
                }
            }
            next = length;
        }

        private void takeNumber(int[] text) {
            value = 0;
            digits = 0;
            for (int at = next; at < length; at++) {
                int sign = signAt(text, at);
                if (!isDigitSign(sign)) {
                    break;
                }
                // Longer ones are no token, so that their value is never asked for.
                value = digits < MOST_DIGITS ? 10 * value + sign - '0' : value;
                digits++;
            }
            next += digits;
            kind = digits > MOST_DIGITS ? NO_TOKEN : NUMBER;
        }

        private static boolean isDigitSign(int sign) {
            return sign >= '0' && sign <= '9';
        }

        private static int kindOf(int sign) {
            switch (sign) {
                case 'r':
                    return PAUSE;
                case '#':
                    return SHARP;
                case '/':
                    return SLASH;
                case '*':
                    return STAR;
                case '[':
                    return OPEN_CHORD;
                case ']':
                    return CLOSE_CHORD;
                case '(':
                    return OPEN_GROUP;
                case ')':
                    return CLOSE_GROUP;
                default:
                    return sign >= 'a' && sign <= 'g' ? LETTER : NO_TOKEN;
            }
        }
    }

    /** Reads a text token by token; its state is what may stand next. */
    private static final class TextReader {
        static final int FAULTLESS = 0;
        private static final int BAD_TOKEN = 1;
        private static final int MISPLACED = 2;
        private static final int ONE_TOO_MANY = 3;
        private static final int BAD_PITCH = 4;
        private static final int TOO_LONG = 5;

        private static final int AT_ITEM = 0;
        private static final int AT_SHARP = 1;
        private static final int AT_OCTAVE = 2;
        private static final int AT_STAR = 3;
        private static final int AT_WEIGHT = 4;
        private static final int AT_NOTE_END = 5;
        private static final int AT_SLASH = 6;
        private static final int AT_TIME = 7;
        private static final int AT_TIMES = 8;

        private static final int USUAL_WEIGHT = 10;
        private static final int USUAL_TIME = 6;
        /** The letters a to g within an octave that begins with c. */
        private static final int[] LETTER_PITCHES = {9, 11, 0, 2, 4, 5, 7};

        private final Tokens tokens = new Tokens();
        private final Score score = new Score();
        private int state;
        private boolean inChord;
        private boolean ended;
        private int pitch;
        private int letterPlace;
        private int badPitchPlace;
        private int faultKind;
        private int faultPlace;

        TextReader() {
            begin(0);
        }

        int faultKind() {
            return faultKind;
        }

        int faultPlace() {
            return faultPlace;
        }

        Score score() {
            return score;
        }

        private void begin(int length) {
            tokens.begin(length);
            score.clear();
            state = AT_ITEM;
            inChord = false;
            ended = false;
            pitch = 0;
            letterPlace = 0;
            badPitchPlace = NONE;
            faultKind = FAULTLESS;
            faultPlace = NONE;
        }

        void readText(int[] text, int length) {
            begin(length);
            // Each token has a byte or more, and the end is one turn more.
            for (int turn = 0; turn <= length && !ended; turn++) {
                tokens.advance(text);
                takeToken();
            }
            if (faultKind == FAULTLESS && badPitchPlace != NONE) {
                blame(BAD_PITCH, badPitchPlace);
            }
            if (faultKind == FAULTLESS && score.isOverfull()) {
                blame(TOO_LONG, length);
            }
        }

        private void blame(int kind, int place) {
            faultKind = kind;
            faultPlace = place;
            ended = true;
        }

        private void blameToken(int kind) {
            blame(kind, tokens.place());
        }

        private void takeToken() {
            if (tokens.kind() == Tokens.NO_TOKEN) {
                blameToken(BAD_TOKEN);
                return;
            }
            passOverAbsent();
            switch (state) {
                case AT_SHARP:
                    pitch++;
                    state = AT_OCTAVE;
                    break;
                case AT_OCTAVE:
                    takeOctave();
                    break;
                case AT_STAR:
                    state = AT_WEIGHT;
                    break;
                case AT_WEIGHT:
                    takeWeight();
                    break;
                case AT_NOTE_END:
                    takeNoteOfChord();
                    break;
                case AT_SLASH:
                    state = AT_TIME;
                    break;
                case AT_TIME:
                    takeTime();
                    break;
                case AT_TIMES:
                    takeTimes();
                    break;
                default:
                    takeItem();
                    break;
            }
        }

        /** What may be left out is left out if another token stands there: it stands behind. */
        private void passOverAbsent() {
            int kind = tokens.kind();
            if (state == AT_SHARP && kind != Tokens.SHARP) {
                state = AT_OCTAVE;
            }
            if (state == AT_STAR && kind != Tokens.STAR) {
                state = AT_NOTE_END;
            }
            if (state == AT_NOTE_END && !inChord) {
                state = AT_SLASH;
            }
            if (state == AT_SLASH && kind != Tokens.SLASH) {
                score.endItem(USUAL_TIME);
                state = AT_ITEM;
            }
        }

        private void takeItem() {
            score.beginItem();
            switch (tokens.kind()) {
                case Tokens.LETTER:
                    inChord = false;
                    beginNote();
                    break;
                case Tokens.PAUSE:
                    state = AT_SLASH;
                    break;
                case Tokens.OPEN_CHORD:
                    inChord = true;
                    state = AT_NOTE_END;
                    break;
                case Tokens.OPEN_GROUP:
                    takeGroup();
                    break;
                case Tokens.CLOSE_GROUP:
                    takeGroupEnd();
                    break;
                case Tokens.END:
                    takeEnd();
                    break;
                default:
                    blameToken(MISPLACED);
                    break;
            }
        }

        private void takeGroup() {
            if (score.depth() >= Score.MOST_DEPTH) {
                blameToken(ONE_TOO_MANY);
                return;
            }
            score.openGroup();
            state = AT_ITEM;
        }

        private void takeGroupEnd() {
            if (score.depth() == 0) {
                blameToken(MISPLACED);
                return;
            }
            state = AT_TIMES;
        }

        private void takeEnd() {
            if (score.depth() > 0) {
                blameToken(MISPLACED);
                return;
            }
            ended = true;
        }

        private void beginNote() {
            if (score.sounding() >= Score.MOST_SOUNDING) {
                blameToken(ONE_TOO_MANY);
                return;
            }
            int letter = tokens.value() - 'a';
            pitch = letter >= 0 && letter < LETTER_PITCHES.length ? LETTER_PITCHES[letter] : 0;
            letterPlace = tokens.place();
            state = AT_SHARP;
        }

        private void takeOctave() {
            if (!tokens.isDigit(1, 8)) {
                blameToken(MISPLACED);
                return;
            }
            pitch += 12 * (tokens.value() - 1);
            if (badPitchPlace == NONE && (pitch >= PITCHES || score.isSounding(pitch))) {
                badPitchPlace = letterPlace;
            }
            score.addSound(pitch, USUAL_WEIGHT);
            state = AT_STAR;
        }

        private void takeWeight() {
            if (!tokens.isNumber(1, 99)) {
                blameToken(MISPLACED);
                return;
            }
            score.weighLatest(tokens.value());
            state = AT_NOTE_END;
        }

        private void takeNoteOfChord() {
            if (tokens.kind() == Tokens.LETTER) {
                beginNote();
            } else if (tokens.kind() == Tokens.CLOSE_CHORD && score.sounding() > 0) {
                state = AT_SLASH;
            } else {
                blameToken(MISPLACED);
            }
        }

        private void takeTime() {
            if (!tokens.isNumber(1, 96)) {
                blameToken(MISPLACED);
                return;
            }
            score.endItem(tokens.value());
            state = AT_ITEM;
        }

        private void takeTimes() {
            if (!tokens.isNumber(1, 20)) {
                blameToken(MISPLACED);
                return;
            }
            score.closeGroup(tokens.value());
            state = AT_ITEM;
        }
    }

    /** A tune's notes, as read, and what stands on the cylinder for them while it is pinned. */
    private static final class Tune {
        private final int[] ticks = new int[MOST_NOTES];
        private final int[] pitches = new int[MOST_NOTES];
        private final int[] weights = new int[MOST_NOTES];
        /** The tooth of each kept note of a pinned tune, NONE of all others. */
        private final int[] pins = new int[MOST_NOTES];
        private final boolean[] bents = new boolean[MOST_NOTES];
        private final boolean[] mutes = new boolean[MOST_NOTES];
        private int size;
        private boolean known;
        private boolean pinned;
        private int shift;
        private int begin;

        Tune() {
            forget();
        }

        void take(Score score) {
            unpin();
            score.copyTo(ticks, pitches, weights);
            size = Math.min(score.size(), MOST_NOTES);
            known = true;
        }

        void forget() {
            unpin();
            size = 0;
            known = false;
        }

        void unpin() {
            for (int i = 0; i < MOST_NOTES; i++) {
                pins[i] = NONE;
                bents[i] = false;
                mutes[i] = false;
            }
            pinned = false;
            shift = 0;
            begin = 0;
        }

        void pinWith(int newShift) {
            pinned = true;
            shift = newShift;
        }

        boolean isKnown() {
            return known;
        }

        boolean isPinned() {
            return pinned;
        }

        int size() {
            return size;
        }

        int shift() {
            return shift;
        }

        int begin() {
            return begin;
        }

        void setBegin(int ticksLater) {
            begin = ticksLater;
        }

        boolean has(int i) {
            return i >= 0 && i < size && i < MOST_NOTES;
        }

        int tickOf(int i) {
            return i >= 0 && i < MOST_NOTES ? ticks[i] : NONE;
        }

        /** The tick at which a pin plucks, the start counted in. */
        int pluckOf(int i) {
            return tickOf(i) + begin;
        }

        int pitchOf(int i) {
            return i >= 0 && i < MOST_NOTES ? pitches[i] : NONE;
        }

        int weightOf(int i) {
            return i >= 0 && i < MOST_NOTES ? weights[i] : 0;
        }

        int toothOf(int i) {
            return i >= 0 && i < MOST_NOTES ? pins[i] : NONE;
        }

        void setTooth(int i, int tooth) {
            if (has(i)) {
                pins[i] = tooth;
            }
        }

        boolean isKept(int i) {
            return i >= 0 && i < MOST_NOTES && pins[i] != NONE;
        }

        boolean isBent(int i) {
            return i >= 0 && i < MOST_NOTES && bents[i];
        }

        void setBent(int i, boolean is) {
            if (has(i)) {
                bents[i] = is;
            }
        }

        boolean isMute(int i) {
            return i >= 0 && i < MOST_NOTES && mutes[i];
        }

        void setMute(int i, boolean is) {
            if (has(i)) {
                mutes[i] = is;
            }
        }

        int weightOfAll() {
            int sum = 0;
            for (int i = 0; i < size; i++) {
                sum += weightOf(i);
            }
            return sum;
        }

        int keptCount() {
            int count = 0;
            for (int i = 0; i < size; i++) {
                count += isKept(i) ? 1 : 0;
            }
            return count;
        }

        int keptWeight() {
            int sum = 0;
            for (int i = 0; i < size; i++) {
                sum += isKept(i) ? weightOf(i) : 0;
            }
            return sum;
        }

        boolean mayBegin(int ticksLater) {
            return lastPinTick() + ticksLater < LENGTH;
        }

        /** NONE without a pin, which lets such a tune begin anywhere. */
        private int lastPinTick() {
            for (int i = size - 1; i >= 0; i--) {
                if (isKept(i)) {
                    return tickOf(i);
                }
            }
            return NONE;
        }

        /** The first note that plucks at a tick or later; the tune's size if there is none. */
        int firstFrom(int tick) {
            int low = 0;
            int high = size;
            // The span between both is halved each time, and is 150 at most at first.
            for (int turn = 0; turn < MOST_NOTES && low < high; turn++) {
                int middle = (low + high) >>> 1;
                if (pluckOf(middle) >= tick) {
                    high = middle;
                } else {
                    low = middle + 1;
                }
            }
            return low;
        }
    }

    /** The teeth, and how long each must rest. */
    private static final class Comb {
        private static final int USUAL_PAUSE = 6;
        /** Long enough ago that any tooth has rested since. */
        private static final int LONG_AGO = -LENGTH;

        private final int[] pitches = new int[MOST_TEETH];
        private final boolean[] wholes = new boolean[MOST_TEETH];
        private final int[] wholeAlike = new int[PITCHES];
        private final int[] alike = new int[PITCHES];
        private final int[] lastPlucks = new int[MOST_TEETH];
        private int size;
        private int pause;

        Comb() {
            size = 0;
            pause = USUAL_PAUSE;
        }

        int pause() {
            return pause;
        }

        void setPause(int ticks) {
            pause = ticks;
        }

        private static boolean isPitch(int pitch) {
            return pitch >= 0 && pitch < PITCHES;
        }

        int add(int pitch) {
            if (!isPitch(pitch) || size < 0 || size >= MOST_TEETH || alike[pitch] >= MOST_ALIKE) {
                return NONE;
            }
            int k = size;
            pitches[k] = pitch;
            wholes[k] = true;
            alike[pitch]++;
            wholeAlike[pitch]++;
            size++;
            return k;
        }

        boolean has(int k) {
            return k >= 0 && k < size && k < MOST_TEETH;
        }

        int pitchOf(int k) {
            return has(k) ? pitches[k] : NONE;
        }

        boolean isWhole(int k) {
            return has(k) && wholes[k];
        }

        void setWhole(int k, boolean is) {
            int pitch = pitchOf(k);
            if (has(k) && isPitch(pitch) && wholes[k] != is) {
                wholes[k] = is;
                wholeAlike[pitch] += is ? 1 : -1;
            }
        }

        /** How many whole teeth a pitch has; a shifted pitch may lie outside the comb. */
        int wholeOf(int pitch) {
            return isPitch(pitch) ? wholeAlike[pitch] : 0;
        }

        /** Gives each chosen note, in order, the first tooth that has rested. */
        void assign(Tune tune, Chooser chooser) {
            Arrays.fill(lastPlucks, LONG_AGO);
            for (int i = 0; i < tune.size(); i++) {
                if (chooser.isChosen(i)) {
                    tune.setTooth(i, pluckFirst(tune.pitchOf(i) + tune.shift(), tune.tickOf(i)));
                }
            }
        }

        private int pluckFirst(int pitch, int tick) {
            for (int k = 0; k < size && k < MOST_TEETH; k++) {
                if (pitches[k] == pitch && wholes[k] && tick - lastPlucks[k] >= pause) {
                    lastPlucks[k] = tick;
                    return k;
                }
            }
            return NONE;
        }

        boolean sounds(Tune tune, int i) {
            return tune.isKept(i) && !tune.isBent(i) && isWhole(tune.toothOf(i));
        }

        int soundingCount(Tune tune) {
            int count = 0;
            for (int i = 0; i < tune.size(); i++) {
                count += sounds(tune, i) ? 1 : 0;
            }
            return count;
        }

        /** Tells just the kept notes that are not heard as silent, and answers how many. */
        int muteUnheard(Tune tune) {
            int count = 0;
            for (int i = 0; i < tune.size(); i++) {
                boolean unheard = tune.isKept(i) && !sounds(tune, i);
                tune.setMute(i, unheard);
                count += unheard ? 1 : 0;
            }
            return count;
        }
    }

    /**
     * The exact choice among the notes of one pitch, as a flow.
     *
     * <p>The notes, in order, are places 0, 1, .. size - 1, and place size is the end. Each tooth
     * walks from place 0 to the end: from place i it idles on to i + 1, or plucks note i and leaps
     * to the first note that it may pluck behind it. One more tooth walks the way that brings the
     * most weight, where steps of earlier walks may be taken back; so all walks together always
     * bring the most that so many teeth can.
     */
    private static final class PitchFlow {
        private static final int UNREACHED = -1000000;

        private final int[] members = new int[MOST_NOTES];
        private final int[] weights = new int[MOST_NOTES];
        private final int[] leaps = new int[MOST_NOTES];
        private final boolean[] plucked = new boolean[MOST_NOTES];
        private final int[] idlers = new int[MOST_NOTES];
        /** The most weight with which each place is reached. */
        private final int[] heights = new int[MOST_NOTES + 1];
        private final int[] sources = new int[MOST_NOTES + 1];
        private final boolean[] byPluck = new boolean[MOST_NOTES + 1];
        private final int[] queue = new int[MOST_NOTES + 1];
        private int queued;
        private int size;

        PitchFlow() {
            queued = 0;
            size = 0;
        }

        int size() {
            return size;
        }

        int member(int i) {
            return isNote(i) ? members[i] : NONE;
        }

        boolean isPlucked(int i) {
            return isNote(i) && plucked[i];
        }

        private boolean isNote(int i) {
            return i >= 0 && i < size && i < MOST_NOTES;
        }

        private boolean isPlace(int i) {
            return i >= 0 && i <= size && i <= MOST_NOTES;
        }

        /** Takes the notes of one pitch, with no tooth yet. */
        void begin(Tune tune, int pitch, int pause) {
            size = 0;
            for (int i = 0; i < tune.size(); i++) {
                if (tune.pitchOf(i) == pitch && size >= 0 && size < MOST_NOTES) {
                    members[size] = i;
                    weights[size] = tune.weightOf(i);
                    plucked[size] = false;
                    idlers[size] = 0;
                    size++;
                }
            }
            findLeaps(tune, pause);
        }

        private void findLeaps(Tune tune, int pause) {
            int leap = 0;
            for (int i = 0; i < size && i < MOST_NOTES; i++) {
                int free = tune.tickOf(members[i]) + pause;
                for (int next = leap; next < size && tune.tickOf(members[next]) < free; next++) {
                    leap = next + 1;
                }
                leaps[i] = leap;
            }
        }

        /** How many teeth would pluck all the notes: the most that are too near one another. */
        int teethForAll() {
            int most = 0;
            int first = 0;
            for (int i = 0; i < size && i < MOST_NOTES; i++) {
                for (int rested = first; rested < i && leaps[rested] <= i; rested++) {
                    first = rested + 1;
                }
                most = Math.max(most, i - first + 1);
            }
            return most;
        }

        /** One tooth more: the weight that it brings. */
        int addTooth() {
            measure();
            flipWay(0, size);
            return isPlace(size) ? heights[size] : 0;
        }

        private void measure() {
            Arrays.fill(heights, UNREACHED);
            heights[0] = 0;
            boolean moved = true;
            // A best way has at most as many steps as there are places behind the first.
            for (int round = 0; moved && round <= size; round++) {
                moved = false;
                for (int i = 0; i < size && i < MOST_NOTES; i++) {
                    moved |= improve(i, i + 1, 0, false);
                    moved |= !plucked[i] && improve(i, leaps[i], weights[i], true);
                }
                for (int i = Math.min(size, MOST_NOTES) - 1; i >= 0; i--) {
                    moved |= idlers[i] > 0 && improve(i + 1, i, 0, false);
                    moved |= plucked[i] && improve(leaps[i], i, -weights[i], true);
                }
            }
        }

        private boolean improve(int from, int to, int gain, boolean plucks) {
            if (from < 0 || from > MOST_NOTES || to < 0 || to > MOST_NOTES
                    || heights[from] + gain <= heights[to]) {
                return false;
            }
            heights[to] = heights[from] + gain;
            sources[to] = from;
            byPluck[to] = plucks;
            return true;
        }

        /** Makes the steps of the way that was found, from its end to its beginning. */
        private void flipWay(int beginning, int end) {
            int at = end;
            for (int step = 0; step <= size && at != beginning && isPlace(at); step++) {
                int from = sources[at];
                flipStep(from, at, byPluck[at]);
                at = from;
            }
        }

        private void flipStep(int from, int to, boolean plucks) {
            int note = Math.min(from, to);
            boolean ahead = from < to;
            if (note < 0 || note >= MOST_NOTES) {
                return;
            }
            if (plucks) {
                plucked[note] = ahead;
            } else {
                idlers[note] += ahead ? 1 : -1;
            }
        }

        /**
         * Of all choices of the same weight, goes to the first one. What is settled for earlier
         * notes stays: a note comes in if a round way through it, which neither brings nor costs
         * weight, leads over later notes alone.
         */
        void preferEarly() {
            measure();
            for (int i = 0; i < size && i < MOST_NOTES; i++) {
                if (!plucked[i] && isLevel(i, leaps[i], weights[i]) && findWayBack(i)) {
                    flipWay(leaps[i], i);
                    plucked[i] = true;
                }
            }
        }

        /** A step is part of a round way without gain only if no better one leads to its end. */
        private boolean isLevel(int from, int to, int gain) {
            return from >= 0 && from <= size && from <= MOST_NOTES
                    && to >= 0 && to <= size && to <= MOST_NOTES
                    && heights[to] == heights[from] + gain;
        }

        private boolean findWayBack(int note) {
            if (!isNote(note)) {
                return false;
            }
            Arrays.fill(sources, NONE);
            queued = 0;
            visit(leaps[note], leaps[note], false);
            for (int head = 0; head < queued && head <= MOST_NOTES; head++) {
                if (queue[head] == note) {
                    return true;
                }
                spreadAhead(queue[head], note);
                spreadBack(queue[head], note);
            }
            return false;
        }

        private void visit(int place, int from, boolean plucks) {
            if (place >= 0 && place <= MOST_NOTES && sources[place] == NONE
                    && queued >= 0 && queued <= MOST_NOTES) {
                sources[place] = from;
                byPluck[place] = plucks;
                queue[queued] = place;
                queued++;
            }
        }

        private void spreadAhead(int place, int settled) {
            if (isLevel(place, place + 1, 0)) {
                visit(place + 1, place, false);
            }
            if (place > settled && isNote(place) && !plucked[place]
                    && isLevel(place, leaps[place], weights[place])) {
                visit(leaps[place], place, true);
            }
        }

        private void spreadBack(int place, int settled) {
            int before = place - 1;
            if (isNote(before) && idlers[before] > 0 && isLevel(place, before, 0)) {
                visit(before, place, false);
            }
            // The leaps never shrink along the notes: the ones to this place lie together.
            for (int i = before; i > settled && isNote(i) && leaps[i] >= place; i--) {
                if (leaps[i] == place && plucked[i] && isLevel(place, i, -weights[i])) {
                    visit(i, place, true);
                }
            }
        }
    }

    /** What is kept of a tune: each pitch has its own teeth, so each is chosen for itself. */
    private static final class Chooser {
        private final PitchFlow flow = new PitchFlow();
        private final boolean[] chosen = new boolean[MOST_NOTES];
        /** For each pitch of a tune, the weight that 0 to 3 teeth keep. */
        private final int[] worths = new int[PITCHES * (MOST_ALIKE + 1)];

        boolean isChosen(int i) {
            return i >= 0 && i < MOST_NOTES && chosen[i];
        }

        int mostWeight(Tune tune, int shift, Comb comb) {
            int sum = 0;
            for (int pitch = 0; pitch < PITCHES; pitch++) {
                int teeth = comb.wholeOf(pitch + shift);
                if (teeth > 0) {
                    sum += carry(tune, pitch, teeth, comb.pause());
                }
            }
            return sum;
        }

        private int carry(Tune tune, int pitch, int teeth, int pause) {
            flow.begin(tune, pitch, pause);
            int sum = 0;
            for (int k = 0; k < teeth; k++) {
                sum += flow.addTooth();
            }
            return sum;
        }

        void choose(Tune tune, int shift, Comb comb) {
            for (int i = 0; i < MOST_NOTES; i++) {
                chosen[i] = false;
            }
            for (int pitch = 0; pitch < PITCHES; pitch++) {
                choosePitch(tune, pitch, shift, comb);
            }
        }

        private void choosePitch(Tune tune, int pitch, int shift, Comb comb) {
            int teeth = comb.wholeOf(pitch + shift);
            if (teeth <= 0) {
                return;
            }
            carry(tune, pitch, teeth, comb.pause());
            flow.preferEarly();
            for (int i = 0; i < flow.size(); i++) {
                int note = flow.member(i);
                if (note >= 0 && note < MOST_NOTES) {
                    chosen[note] = flow.isPlucked(i);
                }
            }
        }

        boolean wouldKeep(Tune tune, int shift, int i, Comb comb) {
            if (!tune.has(i) || i >= MOST_NOTES) {
                return false;
            }
            chosen[i] = false;
            choosePitch(tune, tune.pitchOf(i), shift, comb);
            return chosen[i];
        }

        int bestShift(Tune tune, Comb comb) {
            weighPitches(tune, comb.pause());
            int best = 0;
            int most = weightWith(0, comb);
            for (int far = 1; far <= MOST_SHIFT; far++) {
                int above = weightWith(far, comb);
                if (above > most) {
                    most = above;
                    best = far;
                }
                int below = weightWith(-far, comb);
                if (below > most) {
                    most = below;
                    best = -far;
                }
            }
            return best;
        }

        private void weighPitches(Tune tune, int pause) {
            for (int pitch = 0; pitch < PITCHES; pitch++) {
                flow.begin(tune, pitch, pause);
                int row = pitch * (MOST_ALIKE + 1);
                int sum = 0;
                worths[row] = 0;
                for (int teeth = 1; teeth <= MOST_ALIKE; teeth++) {
                    sum += flow.size() > 0 ? flow.addTooth() : 0;
                    worths[row + teeth] = sum;
                }
            }
        }

        private int weightWith(int shift, Comb comb) {
            int sum = 0;
            for (int pitch = 0; pitch < PITCHES; pitch++) {
                int teeth = comb.wholeOf(pitch + shift);
                if (teeth > 0 && teeth <= MOST_ALIKE) {
                    sum += worths[pitch * (MOST_ALIKE + 1) + teeth];
                }
            }
            return sum;
        }

        int fewestTeeth(Tune tune, int pause) {
            int sum = 0;
            for (int pitch = 0; pitch < PITCHES; pitch++) {
                flow.begin(tune, pitch, pause);
                int teeth = flow.teethForAll();
                if (teeth > MOST_ALIKE) {
                    return NOTHING;
                }
                sum += teeth;
            }
            return sum > MOST_TEETH ? NOTHING : sum;
        }
    }

    /** The tunes side by side, how their pins crowd, and their starts. */
    private static final class Cylinder {
        private static final int NEAR = 1;
        /** Starts of two tunes differ by -63 to 63. */
        private static final int DIFFERENCES = 2 * MOST_START + 1;

        private final Tune[] tunes = new Tune[MOST_TUNES];
        /** For each two tunes that can crowd, by the later one's start less the earlier one's. */
        private final boolean[] clashes = new boolean[MOST_TUNES * DIFFERENCES];
        private final int[] order = new int[MOST_TUNES];
        private final int[] trials = new int[MOST_TUNES];

        Cylinder() {
            for (int t = 0; t < MOST_TUNES; t++) {
                tunes[t] = new Tune();
            }
        }

        /** The tune of a number, read or not; null if there is no such number. */
        Tune place(int t) {
            return t >= 0 && t < MOST_TUNES ? tunes[t] : null;
        }

        /** The tune of a number, null if it is not read. */
        Tune known(int t) {
            Tune tune = place(t);
            return tune != null && tune.isKnown() ? tune : null;
        }

        int pinsOf(int tooth) {
            int count = 0;
            for (int t = 0; t < MOST_TUNES; t++) {
                Tune tune = tunes[t];
                for (int i = 0; i < tune.size(); i++) {
                    count += tune.isKept(i) && tune.toothOf(i) == tooth ? 1 : 0;
                }
            }
            return count;
        }

        int pluckTick(int tooth, int k) {
            int left = k;
            for (int t = 0; t < MOST_TUNES; t++) {
                Tune tune = tunes[t];
                for (int i = 0; i < tune.size(); i++) {
                    if (tune.isKept(i) && tune.toothOf(i) == tooth) {
                        if (left == 0) {
                            return tune.pluckOf(i);
                        }
                        left--;
                    }
                }
            }
            return NOTHING;
        }

        /** Lanes are neighbours within a tooth, or where the last lane of one meets the next. */
        private static boolean canTouch(int earlier, int later) {
            return later - earlier == 1 || (earlier == 0 && later == MOST_TUNES - 1);
        }

        private static int lane(int tooth, int t) {
            return MOST_TUNES * tooth + t;
        }

        private boolean lanesTouch(int t, int i, int u, int j) {
            Tune one = tunes[t];
            Tune other = tunes[u];
            if (!one.isKept(i) || !other.isKept(j)) {
                return false;
            }
            return Math.abs(lane(one.toothOf(i), t) - lane(other.toothOf(j), u)) == 1;
        }

        /** The first note of tune u, from one on, whose pin crowds with that of note i of t. */
        private int nextCrowding(int t, int i, int u, int from) {
            int tick = tunes[t].pluckOf(i);
            Tune other = tunes[u];
            int first = Math.max(from, other.firstFrom(tick - NEAR));
            for (int j = first; j < other.size() && other.pluckOf(j) <= tick + NEAR; j++) {
                if (lanesTouch(t, i, u, j)) {
                    return j;
                }
            }
            return NONE;
        }

        int crowdedPairs() {
            int pairs = 0;
            for (int t = 0; t < MOST_TUNES; t++) {
                for (int u = t + 1; u < MOST_TUNES; u++) {
                    pairs += canTouch(t, u) ? crowdedBetween(t, u) : 0;
                }
            }
            return pairs;
        }

        private int crowdedBetween(int t, int u) {
            int pairs = 0;
            for (int i = 0; i < tunes[t].size(); i++) {
                int from = 0;
                for (int found = 0; found < MOST_NOTES && from != NONE; found++) {
                    int j = nextCrowding(t, i, u, from);
                    pairs += j == NONE ? 0 : 1;
                    from = j == NONE ? NONE : j + 1;
                }
            }
            return pairs;
        }

        /** The first pin that crowds always has its partner in a later tune. */
        int firstCrowd(int what) {
            for (int t = 0; t < MOST_TUNES; t++) {
                for (int i = 0; i < tunes[t].size(); i++) {
                    for (int u = t + 1; u < MOST_TUNES; u++) {
                        int j = canTouch(t, u) ? nextCrowding(t, i, u, 0) : NONE;
                        if (j != NONE) {
                            return tellPair(t, i, u, j, what);
                        }
                    }
                }
            }
            return NONE;
        }

        private static int tellPair(int t, int i, int u, int j, int what) {
            switch (what) {
                case 0:
                    return t;
                case 1:
                    return i;
                case 2:
                    return u;
                case 3:
                    return j;
                default:
                    return NONE;
            }
        }

        int arrangeAll() {
            int count = orderPinned();
            if (count == 0) {
                return 0;
            }
            findClashes();
            int depth = 0;
            for (int tries = 1; tries <= MOST_TRIES; tries++) {
                if (trialFits(tuneInOrder(depth))) {
                    depth++;
                    if (depth >= count) {
                        keepTrials(count);
                        return tries;
                    }
                    setTrial(tuneInOrder(depth), 0);
                } else {
                    depth = nextTrial(depth);
                    if (depth < 0) {
                        return NOTHING;
                    }
                }
            }
            return SPENT;
        }

        private int orderPinned() {
            int count = 0;
            for (int t = 0; t < MOST_TUNES; t++) {
                trials[t] = 0;
                if (tunes[t].isPinned() && count < MOST_TUNES) {
                    order[count] = t;
                    count++;
                }
            }
            return count;
        }

        private int tuneInOrder(int depth) {
            return depth >= 0 && depth < MOST_TUNES ? order[depth] : NONE;
        }

        private int trialOf(int t) {
            return t >= 0 && t < MOST_TUNES ? trials[t] : 0;
        }

        private void setTrial(int t, int start) {
            if (t >= 0 && t < MOST_TUNES) {
                trials[t] = start;
            }
        }

        /** Goes on to the next start, of a tune ahead where a tune has none any more. */
        private int nextTrial(int depth) {
            for (int at = depth; at >= 0; at--) {
                int t = tuneInOrder(at);
                if (trialOf(t) < MOST_START) {
                    setTrial(t, trialOf(t) + 1);
                    return at;
                }
            }
            return NONE;
        }

        private boolean trialFits(int t) {
            Tune tune = place(t);
            if (tune == null || !tune.mayBegin(trialOf(t))) {
                return false;
            }
            return !clashesWith(t - 1, t) && !(t == MOST_TUNES - 1 && clashesWith(0, t));
        }

        private boolean clashesWith(int earlier, int later) {
            return isClash(clashPlace(earlier, later, trialOf(later) - trialOf(earlier)));
        }

        private boolean isClash(int place) {
            return place >= 0 && place < clashes.length && clashes[place];
        }

        /** NONE where two tunes never touch, or their starts never differ so much. */
        private static int clashPlace(int earlier, int later, int difference) {
            if (earlier < 0 || !canTouch(earlier, later) || Math.abs(difference) > MOST_START) {
                return NONE;
            }
            int row = later - earlier == 1 ? later : 0;
            return row * DIFFERENCES + difference + MOST_START;
        }

        /** Whether two tunes crowd hangs on the difference of their starts alone. */
        private void findClashes() {
            for (int place = 0; place < clashes.length; place++) {
                clashes[place] = false;
            }
            for (int t = 0; t < MOST_TUNES; t++) {
                for (int u = t + 1; u < MOST_TUNES; u++) {
                    if (canTouch(t, u)) {
                        findClashesBetween(t, u);
                    }
                }
            }
        }

        private void findClashesBetween(int t, int u) {
            for (int i = 0; i < tunes[t].size(); i++) {
                for (int j = 0; tunes[t].isKept(i) && j < tunes[u].size(); j++) {
                    int meeting = tunes[t].tickOf(i) - tunes[u].tickOf(j);
                    if (Math.abs(meeting) <= MOST_START + NEAR && lanesTouch(t, i, u, j)) {
                        markClash(t, u, meeting);
                    }
                }
            }
        }

        private void markClash(int t, int u, int meeting) {
            for (int difference = meeting - NEAR; difference <= meeting + NEAR; difference++) {
                int place = clashPlace(t, u, difference);
                if (place >= 0 && place < clashes.length) {
                    clashes[place] = true;
                }
            }
        }

        private void keepTrials(int count) {
            for (int depth = 0; depth < count; depth++) {
                Tune tune = place(tuneInOrder(depth));
                if (tune != null) {
                    tune.setBegin(trialOf(tuneInOrder(depth)));
                }
            }
        }
    }

    /** The fewest faults that tell just the silent notes. */
    private static final class Verdict {
        private final int[] pins = new int[MOST_TEETH];
        private final int[] mutes = new int[MOST_TEETH];

        void gather(Cylinder cylinder) {
            Arrays.fill(pins, 0);
            Arrays.fill(mutes, 0);
            for (int t = 0; t < MOST_TUNES; t++) {
                Tune tune = cylinder.known(t);
                for (int i = 0; tune != null && i < tune.size(); i++) {
                    addPin(tune.toothOf(i), tune.isMute(i));
                }
            }
        }

        private void addPin(int tooth, boolean mute) {
            if (tooth >= 0 && tooth < MOST_TEETH) {
                pins[tooth]++;
                mutes[tooth] += mute ? 1 : 0;
            }
        }

        private boolean isBlamed(int tooth) {
            return tooth >= 0 && tooth < MOST_TEETH
                    && pins[tooth] >= 2 && mutes[tooth] == pins[tooth];
        }

        private boolean isPinBlamed(Tune tune, int i) {
            return tune.isMute(i) && !isBlamed(tune.toothOf(i));
        }

        private int blamedTeeth() {
            int count = 0;
            for (int tooth = 0; tooth < MOST_TEETH; tooth++) {
                count += isBlamed(tooth) ? 1 : 0;
            }
            return count;
        }

        int count(Cylinder cylinder) {
            int count = blamedTeeth();
            for (int t = 0; t < MOST_TUNES; t++) {
                Tune tune = cylinder.known(t);
                for (int i = 0; tune != null && i < tune.size(); i++) {
                    count += isPinBlamed(tune, i) ? 1 : 0;
                }
            }
            return count;
        }

        int tell(Cylinder cylinder, int k, int what) {
            int broken = blamedTeeth();
            if (k < broken) {
                return what == 0 ? blamedTooth(k) : NONE;
            }
            return tellPin(cylinder, k - broken, what);
        }

        private int blamedTooth(int k) {
            int left = k;
            for (int tooth = 0; tooth < MOST_TEETH; tooth++) {
                if (isBlamed(tooth)) {
                    if (left == 0) {
                        return tooth;
                    }
                    left--;
                }
            }
            return NOTHING;
        }

        private int tellPin(Cylinder cylinder, int k, int what) {
            int left = k;
            for (int t = 0; t < MOST_TUNES; t++) {
                Tune tune = cylinder.known(t);
                for (int i = 0; tune != null && i < tune.size(); i++) {
                    if (isPinBlamed(tune, i)) {
                        if (left == 0) {
                            return what == 0 ? NONE : what == 1 ? t : i;
                        }
                        left--;
                    }
                }
            }
            return NOTHING;
        }
    }
}

import java.util.Arrays;
import java.util.Random;

/**
 * What is KEPT, by the document's words alone: of all sets of a small TUNE's NOTES those that GO
 * TOGETHER are weighed, and of the heaviest the one with the first NOTE in which two differ is due.
 * The seeds are fixed; with arguments it plays more: java ChoiceTest 100000 1.
 */
public final class ChoiceTest {
    private static final int MOST_NOTES = 11;

    public static void main(String[] args) {
        Bench.sentence("KEPT are, of all that GO TOGETHER, those whose WEIGHTS are the most"
                + " together; of these the first");
        int games = args.length > 0 ? Integer.parseInt(args[0]) : 20000;
        int first = args.length > 1 ? Integer.parseInt(args[1]) : 1;
        for (int seed = first; seed < first + games; seed++) {
            new Game(seed).play();
        }
        Bench.end();
    }

    /** One PITCH, one to three TEETH, a REST and a few NOTES, near one another and much alike. */
    private static final class Game {
        final Random random;
        final int teeth;
        final int rest;
        final int[] ticks;
        final int[] weights;

        Game(int seed) {
            random = new Random(seed);
            teeth = 1 + random.nextInt(3);
            ticks = new int[1 + random.nextInt(MOST_NOTES)];
            weights = new int[ticks.length];
            rest = 1 + random.nextInt(9);
            int step = 1 + random.nextInt(3);
            int most = 1 + random.nextInt(5);
            for (int i = 1; i < ticks.length; i++) {
                ticks[i] = ticks[i - 1] + 1 + random.nextInt(step);
            }
            for (int i = 0; i < weights.length; i++) {
                weights[i] = 1 + random.nextInt(most);
            }
        }

        String text() {
            StringBuilder text = new StringBuilder();
            for (int i = 0; i < ticks.length; i++) {
                int time = i + 1 < ticks.length ? ticks[i + 1] - ticks[i] : 1;
                text.append("c4*").append(weights[i]).append('/').append(time);
            }
            return text.toString();
        }

        void play() {
            MusicBoxShop shop = new MusicBoxShop();
            for (int k = 0; k < teeth; k++) {
                shop.tooth(36);
            }
            shop.rest(rest);
            Bench.read(shop, 0, text());
            int set = dueSet();
            int[] kept = new int[ticks.length];
            int[] due = dueTeeth(set);
            for (int i = 0; i < kept.length; i++) {
                kept[i] = set >> i & 1;
            }
            String name = teeth + " teeth, rest " + rest + ", " + text() + ": ";
            Bench.due(name + "keeps", Bench.keeps(shop, 0, 0), kept);
            Bench.due(name + "fit", shop.fit(0, 0), weight(set));
            Bench.due(name + "pin", shop.pin(0, 0), Integer.bitCount(set));
            Bench.due(name + "note(0, i, 3)", Bench.notes(shop, 0, 3), due);
            Bench.due(name + "fewest", shop.fewest(0), dueFewest());
        }

        int weight(int set) {
            int sum = 0;
            for (int i = 0; i < weights.length; i++) {
                sum += (set >> i & 1) * weights[i];
            }
            return sum;
        }

        /** Whether each NOTE of a set can be given one of so many TEETH: all ways are tried. */
        boolean goTogether(int set, int from, int[] last) {
            if (from == ticks.length) {
                return true;
            }
            if ((set >> from & 1) == 0) {
                return goTogether(set, from + 1, last);
            }
            for (int k = 0; k < last.length; k++) {
                if (ticks[from] - last[k] >= rest) {
                    int was = last[k];
                    last[k] = ticks[from];
                    boolean found = goTogether(set, from + 1, last);
                    last[k] = was;
                    if (found) {
                        return true;
                    }
                }
            }
            return false;
        }

        boolean goTogether(int set, int count) {
            int[] last = new int[count];
            Arrays.fill(last, -1000);
            return goTogether(set, 0, last);
        }

        int dueSet() {
            int best = 0;
            for (int set = 1; set < 1 << ticks.length; set++) {
                int more = weight(set) - weight(best);
                if ((more > 0 || (more == 0 && isAhead(set, best))) && goTogether(set, teeth)) {
                    best = set;
                }
            }
            return best;
        }

        boolean isAhead(int set, int other) {
            int differ = set ^ other;
            return (set & Integer.lowestOneBit(differ)) != 0;
        }

        int[] dueTeeth(int set) {
            int[] due = new int[ticks.length];
            int[] last = new int[teeth];
            Arrays.fill(last, -1000);
            for (int i = 0; i < due.length; i++) {
                due[i] = -1;
                for (int k = 0; (set >> i & 1) == 1 && due[i] < 0 && k < teeth; k++) {
                    if (ticks[i] - last[k] >= rest) {
                        last[k] = ticks[i];
                        due[i] = k;
                    }
                }
            }
            return due;
        }

        int dueFewest() {
            for (int count = 1; count <= 3; count++) {
                if (goTogether((1 << ticks.length) - 1, count)) {
                    return count;
                }
            }
            return -2;
        }
    }
}

import java.util.Random;
import java.util.Set;
import java.util.TreeSet;

/** Long runs of calls, each answer held against the model's; the seeds are fixed, so runs stay the same. */
public final class ModelTest {
    private static final int RUNS = 6000, CALLS = 512;
    /** METHODS have no PARAMETERS at first, and with those alone little can be matched. */
    private static final int BEGINNING = 10;
    private static final String[] NAMES = {"define", "make", "matcher", "call", "when", "answer", "told", "check",
        "noMore", "restart", "noted", "telling", "found", "caught", "count"};
    /** How likely each STEP is, in runs of several tempers, so that every limit is reached in some. */
    private static final int[][] TEMPERS = {
        {3, 4, 20, 30, 12, 20, 8, 12, 4, 3},
        {1, 3, 4, 60, 4, 6, 2, 12, 4, 2},
        {1, 3, 6, 30, 26, 30, 4, 4, 1, 1},
        {1, 3, 50, 20, 4, 10, 5, 10, 1, 1},
        {1, 3, 4, 24, 2, 30, 26, 4, 1, 1},
        {4, 1, 10, 10, 2, 10, 3, 3, 1, 1}};
    private static final int[] EDGES = {-1, Integer.MIN_VALUE, Integer.MAX_VALUE, 40, 41, 1000, 8, 7, 6, 5, 4, 3, 2};

    private final Random random;
    private final int[] temper;
    private final boolean careful;
    private final StandIns program = new StandIns();
    private final Model model = new Model();
    private final int[] n = new int[4];
    private static final Set<String> REACHED = new TreeSet<>();

    private ModelTest(int seed) {
        random = new Random(seed);
        temper = TEMPERS[seed % TEMPERS.length];
        careful = seed % 4 != 0;
    }

    public static void main(String[] args) {
        for (int seed = 0; seed < RUNS; seed++) {
            if (!new ModelTest(seed).agrees(seed)) {
                System.exit(1);
            }
        }
        everyRefusalAndMisuseWasReached();
        Due.end();
    }

    /** Without this the runs could agree by never going where it is hard. */
    private static void everyRefusalAndMisuseWasReached() {
        String[] due = {"define -1 -2 -4", "make -1 -2 -3 -4", "matcher -1 -2 -3 -5", "call -1 -2 -3 -5", "when -2 -3 -4 -5",
            "answer -1 -2 -3 -4 -5", "told -1 -3 -4 -5", "check -1 -3 -4", "noMore -1 -3 -4 -6", "restart -1 -3 -4",
            "noted -1", "telling -1", "found -1", "caught -1", "count -1"};
        for (String row : due) {
            String[] words = row.split(" ");
            for (int i = 1; i < words.length; i++) {
                String outcome = words[0] + " " + words[i];
                if (!REACHED.contains(outcome)) {
                    System.out.println("no run reached " + outcome);
                }
                Due.due(1, REACHED.contains(outcome) ? 1 : 0);
            }
        }
    }

    private boolean agrees(int seed) {
        for (int i = 0; i < CALLS; i++) {
            int which = i < BEGINNING ? 0 : choose();
            arguments(which);
            long want = ofModel(which);
            long got = ofProgram(which);
            if (got != want) {
                System.out.println("run " + seed + ", call " + i + ": " + NAMES[which] + java.util.Arrays.toString(n)
                        + " answered " + got + ", due is " + want);
                return false;
            }
            long code = which == 3 && got > StandIns.BROKEN ? got - StandIns.ERROR : got;
            if (code < 0 && code >= -6) {
                REACHED.add(NAMES[which] + " " + code);
            }
        }
        return true;
    }

    private int choose() {
        if (random.nextInt(100) < 35) {
            return 10 + random.nextInt(5);
        }
        long state = model.count(5);
        if (careful && random.nextInt(100) < 85) {
            if (state == 2 || state == 3 || model.count(4) > 0) {
                return random.nextInt(3) == 0 ? 2 : 3;
            }
            if (state == 4) {
                return random.nextInt(3) == 0 ? 3 : 5;
            }
        }
        int all = 0;
        for (int weight : temper) {
            all += weight;
        }
        int left = random.nextInt(all);
        int which = 0;
        while (left >= temper[which]) {
            left -= temper[which];
            which++;
        }
        return which;
    }

    private int below(int bound) {
        if (random.nextInt(60) == 0) {
            return EDGES[random.nextInt(EDGES.length)];
        }
        return random.nextInt(Math.max(bound, 1));
    }

    private int value() {
        return random.nextInt(20) == 0 ? random.nextInt() : random.nextInt(4) - 1;
    }

    private void arguments(int which) {
        int standIns = (int) model.count(0);
        int[] bounds = switch (which) {
            case 0 -> new int[] {3, 4, 3, 2};
            case 1 -> new int[] {3, 3, 1, 1};
            case 2, 5 -> new int[] {which == 2 ? 8 : 4, 2, 1, 1};
            case 3, 6, 7, 8 -> new int[] {Math.min(standIns, 3), which == 7 ? 5 : 4, which == 7 ? 6 : 1, 1};
            case 10 -> new int[] {(int) model.count(1) + 1, 7, 1, 1};
            case 11 -> new int[] {(int) model.count(2) + 1, 5, 1, 1};
            case 12 -> new int[] {(int) model.found(1) + 3, 1, 1, 1};
            case 13 -> new int[] {13, 1, 1, 1};
            case 14 -> new int[] {11, 1, 1, 1};
            default -> new int[] {1, 1, 1, 1};
        };
        for (int i = 0; i < 4; i++) {
            n[i] = below(bounds[i]);
        }
        if (which == 2 || which == 5 && n[0] != 2 && random.nextInt(3) > 0) {
            n[1] = value();
        }
        if (which == 3) {
            for (int tries = 0; careful && tries < 20 && !model.fits(n[0], n[1]); tries++) {
                n[0] = below(bounds[0]);
                n[1] = below(bounds[1]);
            }
            n[2] = value();
            n[3] = value();
        }
    }

    private long ofProgram(int which) {
        return switch (which) {
            case 0 -> program.define(n[0], n[1], n[2], n[3] != 0);
            case 1 -> program.make(n[0], n[1]);
            case 2 -> program.matcher(n[0], n[1]);
            case 3 -> program.call(n[0], n[1], n[2], n[3]);
            case 4 -> program.when();
            case 5 -> program.answer(n[0], n[1]);
            case 6 -> program.told(n[0]);
            case 7 -> program.check(n[0], n[1], n[2]);
            case 8 -> program.noMore(n[0]);
            case 9 -> program.restart();
            case 10 -> program.noted(n[0], n[1]);
            case 11 -> program.telling(n[0], n[1]);
            case 12 -> program.found(n[0]);
            case 13 -> program.caught(n[0]);
            default -> program.count(n[0]);
        };
    }

    private long ofModel(int which) {
        return switch (which) {
            case 0 -> model.define(n[0], n[1], n[2], n[3] != 0);
            case 1 -> model.make(n[0], n[1]);
            case 2 -> model.matcher(n[0], n[1]);
            case 3 -> model.call(n[0], n[1], n[2], n[3]);
            case 4 -> model.when();
            case 5 -> model.answer(n[0], n[1]);
            case 6 -> model.told(n[0]);
            case 7 -> model.check(n[0], n[1], n[2]);
            case 8 -> model.noMore(n[0]);
            case 9 -> model.restart();
            case 10 -> model.noted(n[0], n[1]);
            case 11 -> model.telling(n[0], n[1]);
            case 12 -> model.found(n[0]);
            case 13 -> model.caught(n[0]);
            default -> model.count(n[0]);
        };
    }
}

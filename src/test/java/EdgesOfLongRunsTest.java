import java.util.Random;

/** "An object is used for at most 512 calls": the last of them is answered as the first; and none ever fails to end. */
public final class EdgesOfLongRunsTest {
    private static final int[] WILD = {Integer.MIN_VALUE, Integer.MIN_VALUE + 1, -1000, -6, -2, -1, 0, 1, 2, 3, 4, 5, 6, 7, 8, 9,
        11, 12, 13, 15, 16, 17, 39, 40, 41, 42, 999, 1000, Integer.MAX_VALUE - 1, Integer.MAX_VALUE};

    public static void main(String[] args) {
        manyMisuses();
        manyRefusals();
        manyCatches();
        manyMatchers();
        manyChecks();
        manyUsesOfOneTelling();
        theMostThatCanBeMade();
        wildNumbers();
        Due.end();
    }

    private static void isOf512(Run run) {
        Due.due(512, run.size(), "calls");
    }

    private static void manyMisuses() {
        isOf512(new Run("511 * when = WRONG; count 9 = 511"));
        isOf512(new Run("6 * matcher 0 0; 503 * matcher 0 0 = FULL; count 4 = 6; count 9 = 0; matcher 4 0 = 5"));
        Run run = new Run("make 0 0");
        for (int i = 1; i <= 170; i++) {
            run.go("check 0 0 0 = 1; restart = UNFINISHED; count 9 = " + i);
        }
        isOf512(run.go("call 0 0 0 0 = 0"));
    }

    private static void manyRefusals() {
        isOf512(new Run("make 0 0; 40 * call 0 0 0 0 = 0; 469 * call 0 0 0 0 = FULL; count 1 = 40; count 9 = 0"));
        isOf512(new Run("make 0 0; call 0 0 0 0; 506 * make 0 3 = REFUSED; count 5 = 1; when = 0; answer 0 5 = 1; call 0 0 0 0 = 5"));
    }

    /** 80 of them by each CHECK. */
    private static void manyCatches() {
        Run run = new Run("define 0 0 2 true; make 0 0; 39 * call 0 0 1 2; call 0 0 3 4");
        for (int i = 1; i <= 116; i++) {
            run.go("check 0 0 40; 2 * matcher 7 0; call 0 0 0 0 = PASSED");
        }
        isOf512(run.go("count 7 = 9280; caught 0 = 4; caught 1 = 3; caught 2 = 2; caught 11 = 1; caught 12 = REFUSED"));
    }

    private static void manyMatchers() {
        Run run = new Run("define 0 0 2 true; make 0 0");
        for (int i = 0; i < 29; i++) {
            run.go("matcher 1 5; 7 * matcher 6 0 = 1; matcher 1 6; 7 * matcher 6 0 = 2; call 0 0 5 6 = 0");
        }
        run.go("check 0 0 29; matcher 1 6; 6 * matcher 6 0; matcher 1 5; 6 * matcher 6 0");
        isOf512(run.go("call 0 0 5 6 = BROKEN; found 1 = 0"));
    }

    private static void manyChecks() {
        Run run = new Run("make 0 0; 40 * call 0 0 0 0");
        for (int i = 1; i <= 117; i++) {
            run.go("check 0 4 1; call 0 0 0 0 = " + (i % 41 == 0 ? "BROKEN" : "PASSED"));
            run.go(i % 41 == 0 ? "restart = 39; count 8 = -1" : "found 1 = 1; count 8 = " + (i % 41 - 1));
        }
        isOf512(run.go("noMore 0 = -6; count 1 = 40; count 9 = 0"));
    }

    private static void manyUsesOfOneTelling() {
        isOf512(new Run("make 0 2; call 0 0 0 0; when = 0; answer 0 1; answer 0 2; answer 0 3; answer 0 4; call 0 0 0 0 = 1; "
                + "call 0 0 0 0 = 2; call 0 0 0 0 = 3; 37 * call 0 0 0 0 = 4",
                "464 * telling 0 3 = 40; call 0 0 0 0 = FULL"));
    }

    /** 6 STAND-INS, 16 TELLINGS with 4 ANSWERS each, 40 CALLS noted with NUMBERS up to 55, a full STACK. */
    private static void theMostThatCanBeMade() {
        Run run = new Run("define 0 0 2 true; 6 * make 0 0");
        for (int t = 0; t < 16; t++) {
            run.go("matcher 1 " + t + "; matcher 0 0; call 5 0 99 0 = 0; when = " + t + "; answer 0 1; answer 2 0; answer 2 1; "
                    + "answer 3 0 = 4");
        }
        for (int i = 0; i < 10; i++) {
            run.go("call 5 0 15 " + i + " = " + (i == 0 ? 1 : i == 1 ? 15 : i == 2 ? 2 : 45 - i));
            run.go("call 4 0 15 " + i + " = 0; call 5 0 0 " + i + " = " + (i == 0 ? 1 : i == 1 ? 0 : i == 2 ? 2 : -i) + "; "
                    + "call 0 0 0 0 = 0");
        }
        run.go("call 5 0 15 0 = FULL; noted 39 0 = 55; telling 15 3 = 10; telling 0 3 = 10; count 3 = 14");
        run.go("check 5 4 10; 2 * matcher 7 0; matcher 0 0; 2 * matcher 6 0; matcher 5 0; call 5 0 0 0 = PASSED; found 1 = 10; "
                + "count 7 = 10");
        run.go("6 * matcher 0 0; matcher 0 0 = FULL; count 4 = 6");
        Due.due(1, run.size() <= 512 ? 1 : 0);
    }

    /** LANGUAGE.md: "No call may ever throw or fail to end, for any arguments in any state", behind the 512th, too. */
    private static void wildNumbers() {
        for (int seed = 0; seed < 300; seed++) {
            Random random = new Random(seed);
            StandIns x = new StandIns();
            for (int i = 0; i < 3000; i++) {
                playWild(x, random, i % 4 == 0);
            }
        }
    }

    /** Wild numbers alone would hardly ever get a STEP done. */
    private static void playWild(StandIns x, Random random, boolean wild) {
        int[] n = new int[4];
        for (int i = 0; i < 4; i++) {
            n[i] = wild ? WILD[random.nextInt(WILD.length)] : random.nextInt(5);
        }
        switch (random.nextInt(18)) {
            case 0 -> x.define(n[0], n[1], n[2], n[3] > 1);
            case 1 -> x.make(n[0], n[1]);
            case 2, 3 -> x.matcher(n[0] + n[1], n[2]);
            case 4, 5, 6 -> x.call(n[0], n[1], n[2], n[3]);
            case 7 -> x.when();
            case 8 -> x.answer(n[0], n[1]);
            case 9 -> x.told(n[0]);
            case 10 -> x.check(n[0], n[1], n[2]);
            case 11 -> x.noMore(n[0]);
            case 12 -> x.restart();
            case 13 -> x.noted(n[0], n[1]);
            case 14 -> x.telling(n[0], n[1]);
            case 15 -> x.found(n[0]);
            case 16 -> x.caught(n[0]);
            default -> x.count(n[0]);
        }
    }
}

import java.util.Random;

/** Runs of 512 calls with a fixed seed, each answer compared with that of the Model. */
public final class RandomRunsTest {
    static final String[] NAMES = {
        "addWard", "addBarge", "board", "setBowls", "layStraw", "carry", "pass",
        "feverOf", "wardOf", "bargeOf", "isHome", "isInGreatHouse", "hungryDaysOf",
        "placesOf", "peopleIn", "strawOf", "feversIn",
        "daysToGo", "keptFor", "peopleOn", "highestFeverOn",
        "day", "wards", "barges", "people", "bowls", "freePlaces", "bowlsShort",
        "peopleHome", "peopleInGreatHouse", "bowlsEaten",
        "daysUntilHome", "homeAfter", "greatHouseAfter", "bestStraw",
        "bowlsNeeded", "meanFever", "digest",
    };
    private static final int RUNS = 400;
    private static final int CALLS = 512;
    private static final int CHANGES = 7;

    private RandomRunsTest() {
    }

    public static void main(String[] args) {
        int[][] seen = new int[NAMES.length][4];
        for (int run = 0; run < RUNS; run++) {
            oneRun(run, seen);
        }
        for (int call = 0; call < NAMES.length; call++) {
            Check.due(NAMES[call] + " answered at least once", seen[call][0] > 0, true);
        }
        Check.due("bestStraw answered a ward at least 20 times", seen[34][1] >= 20, true);
        Check.due("carry answered at least 20 times", seen[5][0] >= 20, true);
        Check.due("carry threw IllegalStateException at least 20 times", seen[5][3] >= 20, true);
        Check.due("greatHouseAfter answered more than 0", seen[33][1] >= 20, true);
        Check.finish("RandomRunsTest");
    }

    private static void oneRun(int run, int[][] seen) {
        Random random = new Random(1877L * (run + 1));
        BargeWards town = new BargeWards();
        Model model = new Model();
        // Towns differ: how often time goes by, how far, and how often an argument is wrong.
        int changes = 2 + random.nextInt(7);
        int furthest = 1 + random.nextInt(run % 8 == 0 ? 40 : 5);
        int i = 0;
        while (i < CALLS) {
            boolean change = random.nextInt(10) < changes;
            int call = change ? change(random) : CHANGES + random.nextInt(NAMES.length - CHANGES);
            int a = first(call, random, furthest);
            int b = call == 2 ? around(10, random) : around(5, random);
            String what = "run " + run + ", call " + i + ": " + NAMES[call] + "(" + a + ", " + b + ")";
            String want = Check.outcome(() -> model.answer(call, a, b));
            String got = Check.outcome(() -> answer(town, call, a, b));
            Check.dueText(what, got, want);
            count(seen[call], want);
            i++;
            if (change && i % 4 == 0 && i < CALLS) {
                Check.due(what + " and digest()", town.digest(), model.answer(37, 0, 0));
                i++;
            }
        }
    }

    private static void count(int[] seen, String want) {
        if (want.startsWith("throws.")) {
            seen[want.endsWith("IllegalStateException") ? 3 : 2]++;
            return;
        }
        seen[0]++;
        if (Long.parseLong(want) > 0) {
            seen[1]++;
        }
    }

    private static int change(Random random) {
        int[] weights = {0, 1, 2, 2, 2, 2, 3, 4, 5, 5, 5, 6, 6, 6};
        return weights[random.nextInt(weights.length)];
    }

    /** Mostly 0 to most - 1, at times a little or far outside. */
    private static int around(int most, Random random) {
        int kind = random.nextInt(60);
        if (kind == 0) {
            return random.nextInt();
        }
        return kind < 6 ? random.nextInt(most + 4) - 2 : random.nextInt(most);
    }

    private static int first(int call, Random random, int furthest) {
        switch (call) {
            case 0: return around(8, random) + 1;
            case 1: return around(5, random) + 1;
            case 3: return random.nextInt(2) == 0 ? around(61, random) : around(8, random);
            case 2: case 17: case 18: case 19: case 20: return around(4, random);
            case 4: case 13: case 14: case 15: case 16: return around(5, random);
            case 6: return around(furthest, random) + 1;
            case 32: case 33: case 34: return around(random.nextInt(2) == 0 ? 40 : 8, random) + 1;
            default: return around(30, random);
        }
    }

    private static long answer(BargeWards t, int call, int a, int b) {
        switch (call) {
            case 0: return t.addWard(a);
            case 1: return t.addBarge(a);
            case 2: return t.board(a, b);
            case 3: return t.setBowls(a);
            case 4: return t.layStraw(a);
            case 5: return t.carry(a, b);
            case 6: return t.pass(a);
            case 7: return t.feverOf(a);
            case 8: return t.wardOf(a);
            case 9: return t.bargeOf(a);
            case 10: return t.isHome(a) ? 1 : 0;
            case 11: return t.isInGreatHouse(a) ? 1 : 0;
            case 12: return t.hungryDaysOf(a);
            case 13: return t.placesOf(a);
            case 14: return t.peopleIn(a);
            case 15: return t.strawOf(a);
            case 16: return t.feversIn(a);
            case 17: return t.daysToGo(a);
            case 18: return t.keptFor(a);
            case 19: return t.peopleOn(a);
            case 20: return t.highestFeverOn(a);
            case 21: return t.day();
            case 22: return t.wards();
            case 23: return t.barges();
            case 24: return t.people();
            case 25: return t.bowls();
            case 26: return t.freePlaces();
            case 27: return t.bowlsShort();
            case 28: return t.peopleHome();
            case 29: return t.peopleInGreatHouse();
            case 30: return t.bowlsEaten();
            case 31: return t.daysUntilHome(a);
            case 32: return t.homeAfter(a);
            case 33: return t.greatHouseAfter(a);
            case 34: return t.bestStraw(a);
            case 35: return t.bowlsNeeded();
            case 36: return Double.doubleToLongBits(t.meanFever());
            default: return t.digest();
        }
    }
}

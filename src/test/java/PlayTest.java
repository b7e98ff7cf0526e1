import java.util.Arrays;
import java.util.Random;

/** All promises: long runs of calls of all kinds, right ones and wrong ones, each held against the Shadow. */
public final class PlayTest {
    private static final Checks checks = new Checks("PlayTest");
    /** So many are promised for an object. */
    private static final int MOST_CALLS = 512;
    private static final String[] NAMES = {"block", "drill", "blast", "charge", "flame", "coal", "run", "hammer",
        "grind", "sell", "open", "cube", "standard", "ofBlock", "ofLayer", "ofCell", "ofLot", "modulus", "row",
        "many", "meanFound", "isConform", "thought", "bestCharge", "freeAfter", "letFall", "digest"};
    /** How often each is called, by the calls of NAMES. */
    private static final int[] WEIGHTS = {4, 2, 8, 22, 8, 8, 22, 2, 14, 8, 5, 18, 3, 2, 3, 4, 5, 5, 3,
        4, 3, 3, 5, 5, 5, 5, 3};
    private static final int[] ODD = {-1, 0, 1, 2, 3, 4, 5, 6, 9, 10, 12, 13, 30, 31, 99, 100, 200, 201, 999, 1000,
        Integer.MIN_VALUE, Integer.MAX_VALUE};

    private static final boolean[][] SEEN = new boolean[NAMES.length][4];

    public static void main(String[] args) {
        for (int seed = 0; seed < 600; seed++) {
            play(seed);
        }
        allKindsOfAnswersWereSeen();
        checks.finish();
    }

    private static void play(int seed) {
        Random random = new Random(seed);
        ClinkerWorks works = new ClinkerWorks();
        Shadow shadow = new Shadow();
        int good = 200 + random.nextInt(800);
        int calls = 0;
        while (calls < MOST_CALLS - 2) {
            calls++;
            int call = pick(random);
            int[] with = arguments(random, call, random.nextInt(1000) < good, seed % 4 == 3);
            String got = answer(works, call, with);
            String due = shadowed(shadow, call, with);
            if (!got.equals(due)) {
                checks.yes("seed " + seed + ", call " + calls + ": " + NAMES[call] + Arrays.toString(with) + " " + got
                    + ", due is " + due, false);
                return;
            }
            note(call, got);
            if (got.startsWith("throws") || call >= 13) {
                calls++;
                checks.same("nothing is changed by " + NAMES[call], works.digest(), shadow.digest());
            }
        }
        checks.same("digest of the seed " + seed, works.digest(), shadow.digest());
    }

    private static int pick(Random random) {
        int sum = 0;
        for (int weight : WEIGHTS) {
            sum += weight;
        }
        int at = random.nextInt(sum);
        int call = 0;
        while (at >= WEIGHTS[call]) {
            at -= WEIGHTS[call];
            call++;
        }
        return call;
    }

    private static void note(int call, String got) {
        SEEN[call][0] |= !got.startsWith("throws");
        SEEN[call][1] |= got.equals("throws IndexOutOfBoundsException");
        SEEN[call][2] |= got.equals("throws IllegalArgumentException");
        SEEN[call][3] |= got.equals("throws IllegalStateException");
    }

    private static void allKindsOfAnswersWereSeen() {
        String[] throwing = {"", "drill blast grind sell open cube ofBlock ofLayer ofCell ofLot modulus row thought",
            "block blast charge flame coal run grind sell cube standard ofBlock ofLayer ofCell ofLot modulus row many "
                + "bestCharge freeAfter letFall", "block blast charge grind sell cube thought bestCharge"};
        for (int call = 0; call < NAMES.length; call++) {
            checks.yes(NAMES[call] + " answered", SEEN[call][0]);
            for (int kind = 1; kind < 4; kind++) {
                boolean due = Arrays.asList(throwing[kind].split(" ")).contains(NAMES[call]);
                checks.yes(NAMES[call] + ", exception " + kind, SEEN[call][kind] == due);
            }
        }
    }

    /** Stone that makes good clinker, if it is not to be all kinds of stone. */
    private static int[] stone(Random random, boolean allKinds) {
        int stone = random.nextInt(201);
        if (allKinds) {
            return new int[] {stone, random.nextInt(10), random.nextInt(10), random.nextInt(10), random.nextInt(10)};
        }
        return new int[] {stone, 7 + random.nextInt(3), random.nextInt(4), random.nextInt(3), random.nextInt(2)};
    }

    private static int[] arguments(Random random, int call, boolean good, boolean allKinds) {
        int[] with = goodArguments(random, call, allKinds);
        if (!good && with.length > 0) {
            with[random.nextInt(with.length)] = ODD[random.nextInt(ODD.length)];
        }
        return with;
    }

    private static int[] goodArguments(Random random, int call, boolean allKinds) {
        switch (NAMES[call]) {
            case "block": return stone(random, allKinds);
            case "drill": return of(random.nextInt(4));
            case "blast": return of(random.nextInt(4), 1 + random.nextInt(random.nextBoolean() ? 99 : 5));
            case "charge": return of(1 + random.nextInt(9), random.nextInt(4), random.nextInt(4), random.nextInt(4));
            case "flame": return of(random.nextInt(3) > 0 ? 5 + random.nextInt(5) : random.nextInt(10));
            case "coal": return of(1 + random.nextInt(random.nextInt(4) > 0 ? 300 : 9));
            case "run": return of(1 + random.nextInt(random.nextInt(9) > 0 ? 4 : 30));
            case "grind": return of(random.nextInt(12), 1 + random.nextInt(9), random.nextInt(6), random.nextInt(2));
            case "sell": return of(random.nextInt(2), 1 + random.nextInt(random.nextBoolean() ? 20 : 300));
            case "open": return of(random.nextInt(2));
            case "cube": return of(random.nextInt(12), random.nextInt(3));
            case "standard": return of(random.nextInt(12));
            case "ofBlock": return of(random.nextInt(4), random.nextInt(6));
            case "ofLayer": return of(random.nextInt(4), random.nextInt(2));
            case "ofCell": return of(random.nextInt(5), random.nextInt(8));
            case "ofLot": return of(random.nextInt(12), random.nextInt(22));
            case "modulus": return of(random.nextInt(3), random.nextInt(4));
            case "row": return of(random.nextInt(2), random.nextInt(13));
            case "many": return of(random.nextInt(18));
            case "thought": return of(random.nextInt(12));
            case "bestCharge": return of(1 + random.nextInt(9));
            case "freeAfter": return of(1 + random.nextInt(12), random.nextInt(10));
            case "letFall": return of(1 + random.nextInt(12));
            default: return of();
        }
    }

    private static int[] of(int... numbers) {
        return numbers;
    }

    private static String answer(ClinkerWorks x, int call, int[] a) {
        try {
            switch (NAMES[call]) {
                case "block": return "" + x.block(a[0], a[1], a[2], a[3], a[4]);
                case "drill": return "" + x.drill(a[0]);
                case "blast": return "" + x.blast(a[0], a[1]);
                case "charge": return "" + x.charge(a[0], a[1], a[2], a[3]);
                case "flame": return "" + x.flame(a[0]);
                case "coal": return "" + x.coal(a[0]);
                case "run": return "" + x.run(a[0]);
                case "hammer": return "" + x.hammer();
                case "grind": return "" + x.grind(a[0], a[1], a[2], a[3]);
                case "sell": return "" + x.sell(a[0], a[1]);
                case "open": return "" + x.open(a[0]);
                case "cube": return "" + x.cube(a[0], a[1]);
                case "standard": return "" + x.standard(a[0]);
                case "ofBlock": return "" + x.ofBlock(a[0], a[1]);
                case "ofLayer": return "" + x.ofLayer(a[0], a[1]);
                case "ofCell": return "" + x.ofCell(a[0], a[1]);
                case "ofLot": return "" + x.ofLot(a[0], a[1]);
                case "modulus": return "" + x.modulus(a[0], a[1]);
                case "row": return "" + x.row(a[0], a[1]);
                case "many": return "" + x.many(a[0]);
                case "meanFound": return "" + x.meanFound();
                case "isConform": return "" + x.isConform();
                case "thought": return "" + x.thought(a[0]);
                case "bestCharge": return "" + x.bestCharge(a[0]);
                case "freeAfter": return "" + x.freeAfter(a[0], a[1]);
                case "letFall": return "" + x.letFall(a[0]);
                default: return "" + x.digest();
            }
        } catch (RuntimeException thrown) {
            return "throws " + thrown.getClass().getSimpleName();
        }
    }

    private static String shadowed(Shadow x, int call, int[] a) {
        try {
            switch (NAMES[call]) {
                case "block": return "" + x.block(a[0], a[1], a[2], a[3], a[4]);
                case "drill": return "" + x.drill(a[0]);
                case "blast": return "" + x.blast(a[0], a[1]);
                case "charge": return "" + x.charge(a[0], a[1], a[2], a[3]);
                case "flame": return "" + x.flame(a[0]);
                case "coal": return "" + x.coal(a[0]);
                case "run": return "" + x.run(a[0]);
                case "hammer": return "" + x.hammer();
                case "grind": return "" + x.grind(a[0], a[1], a[2], a[3]);
                case "sell": return "" + x.sell(a[0], a[1]);
                case "open": return "" + x.open(a[0]);
                case "cube": return "" + x.cube(a[0], a[1]);
                case "standard": return "" + x.standard(a[0]);
                case "ofBlock": return "" + x.ofBlock(a[0], a[1]);
                case "ofLayer": return "" + x.ofLayer(a[0], a[1]);
                case "ofCell": return "" + x.ofCell(a[0], a[1]);
                case "ofLot": return "" + x.ofLot(a[0], a[1]);
                case "modulus": return "" + x.modulus(a[0], a[1]);
                case "row": return "" + x.row(a[0], a[1]);
                case "many": return "" + x.many(a[0]);
                case "meanFound": return "" + x.meanFound();
                case "isConform": return "" + x.isConform();
                case "thought": return "" + x.thought(a[0]);
                case "bestCharge": return "" + x.bestCharge(a[0]);
                case "freeAfter": return "" + x.freeAfter(a[0], a[1]);
                case "letFall": return "" + x.letFall(a[0]);
                default: return "" + x.digest();
            }
        } catch (RuntimeException thrown) {
            return "throws " + thrown.getClass().getSimpleName();
        }
    }
}

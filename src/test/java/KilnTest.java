/** Promises 6 to 9, 17, 26 and 27: the kiln, and what would be in it. */
public final class KilnTest {
    private static final Checks checks = new Checks("KilnTest");

    public static void main(String[] args) {
        flamesAreTold();
        coalIsAdded();
        anEmptyKilnWarms();
        coalBurnsAsLongAsItIsEnough();
        oneChargeGoesThrough();
        rawCools();
        theRingGrowsByMeltAndWarmth();
        theRingFalls();
        theHammerBreaksTheRing();
        aGreatRingBlocks();
        whatComesOutIsDumpedBehindTwelve();
        stepsAreRefused();
        freeAfterLooksAhead();
        letFallLooksAhead();
        cellsAreRefused();
        checks.finish();
    }

    private static void flamesAreTold() {
        ClinkerWorks works = new ClinkerWorks();
        checks.same("the first flame", works.flame(9), 0);
        checks.same("the next flame", works.flame(0), 9);
        checks.same("one more", works.flame(4), 0);
        checks.same("many(4)", works.many(4), 4);
        for (int wrong : new int[] {-1, 10, Integer.MIN_VALUE, Integer.MAX_VALUE}) {
            checks.refusesArgument("flame " + wrong, works, () -> works.flame(wrong));
        }
    }

    private static void coalIsAdded() {
        ClinkerWorks works = new ClinkerWorks();
        checks.same("coal 1", works.coal(1), 1);
        checks.same("coal 997", works.coal(997), 998);
        checks.refusesArgument("coal beyond 999", works, () -> works.coal(2));
        checks.same("coal up to 999", works.coal(1), 999);
        for (int wrong : new int[] {-1, 0, 1, 1000, Integer.MIN_VALUE, Integer.MAX_VALUE}) {
            checks.refusesArgument("coal " + wrong, works, () -> works.coal(wrong));
        }
        ClinkerWorks other = new ClinkerWorks();
        checks.refusesArgument("coal 1000 at once", other, () -> other.coal(1000));
        checks.same("coal 999 at once", other.coal(999), 999);
        checks.same("many(5)", other.many(5), 999);
    }

    private static ClinkerWorks warm(int flame) {
        ClinkerWorks works = new ClinkerWorks();
        works.coal(999);
        works.flame(flame);
        return works;
    }

    private static void warmthIs(String when, ClinkerWorks works, int... due) {
        for (int cell = 0; cell < 5; cell++) {
            checks.same(when + ", WARMTH of " + cell, works.ofCell(cell, 0), due[cell]);
        }
    }

    private static void cellIs(String when, ClinkerWorks works, int cell, int... due) {
        checks.same(when + ", a CHARGE in " + cell, works.ofCell(cell, 1), 1);
        for (int what = 2; what < 8; what++) {
            checks.same(when + ", ofCell(" + cell + ", " + what + ")", works.ofCell(cell, what), due[what - 2]);
        }
    }

    private static void anEmptyKilnWarms() {
        ClinkerWorks works = warm(5);
        checks.same("nothing comes out", works.run(1), 0);
        warmthIs("step 1", works, 0, 1, 2, 4, 7);
        works.run(1);
        warmthIs("step 2", works, 2, 4, 6, 8, 11);
        works.run(1);
        warmthIs("step 3", works, 5, 7, 9, 11, 13);
        checks.same("NOW", works.many(6), 3);
        checks.same("COAL", works.many(5), 984);
        checks.same("CO2", works.many(12), 30);
        works.flame(0);
        works.run(1);
        // 13 / 2; 23 / 3; 23 / 3; 21 / 3; 19 / 3
        warmthIs("step 4", works, 6, 7, 7, 7, 6);
        checks.same("COAL stays", works.many(5), 984);
        works.run(30);
        warmthIs("cold", works, 0, 0, 0, 0, 0);
    }

    private static void coalBurnsAsLongAsItIsEnough() {
        ClinkerWorks works = new ClinkerWorks();
        works.coal(9);
        works.flame(5);
        works.run(1);
        checks.same("5 burnt", works.many(5), 4);
        checks.same("CO2 of 5", works.many(12), 10);
        works.run(1);
        checks.same("4 are too few", works.many(5), 4);
        checks.same("no CO2 by that", works.many(12), 10);
        warmthIs("7 by 2", works, 0, 1, 2, 3, 3);
        works.flame(4);
        works.run(1);
        checks.same("4 are enough", works.many(5), 0);
        checks.same("CO2 of 4", works.many(12), 18);
        works.flame(0);
        works.run(1);
        checks.same("no COAL, no FLAME", works.many(12), 18);
    }

    /** LIME 18, SILICA 4, ALUMINA 2, IRON 2 come into a kiln that is warm by three STEPS. */
    private static ClinkerWorks withACharge() {
        ClinkerWorks works = warm(5);
        works.run(3);
        works.block(20, 9, 2, 1, 1);
        works.blast(0, 20);
        works.charge(2, 0, 0, 0);
        return works;
    }

    private static void oneChargeGoesThrough() {
        ClinkerWorks works = withACharge();
        works.run(1);
        warmthIs("in 0", works, 6, 9, 11, 13, 14);
        cellIs("in 0", works, 0, 16, 2, 4, 0, 0, 4);
        checks.same("none waits", works.many(3), 0);
        works.run(1);
        warmthIs("in 1", works, 8, 10, 12, 13, 14);
        cellIs("in 1", works, 1, 10, 0, 0, 4, 0, 4);
        checks.same("none in 0", works.ofCell(0, 1), 0);
        checks.same("no MELT in 0", works.ofCell(0, 7), 0);
        works.run(1);
        warmthIs("in 2", works, 9, 10, 11, 13, 14);
        cellIs("in 2", works, 2, 3, 3, 0, 0, 4, 4);
        works.run(1);
        checks.same("in 3, WARMTH", works.ofCell(3, 0), 12);
        cellIs("in 3", works, 3, 0, 6, 0, 0, 4, 4);
        checks.same("no RING by a MELT of 4", works.many(7), 0);
        checks.same("nothing came out yet", works.run(1), 0);
        cellIs("in 4", works, 4, 0, 6, 0, 0, 4, 4);
        checks.same("no LOT yet", works.many(10), 0);
        checks.same("CO2 of 8 STEPS", works.many(12), 80 + 18);
        checks.same("it comes out", works.run(1), 1);
        checks.same("a LOT", works.many(10), 1);
        int[] due = {18, 4, 2, 2, 0, 6, 0, 0, 4, -1, -1, -1, 0, -1, -1, -1, 2, 0, 0, 0, 0, 0};
        for (int what = 0; what < due.length; what++) {
            checks.same("ofLot(0, " + what + ")", works.ofLot(0, what), due[what]);
        }
        checks.same("nothing more", works.run(30), 0);
    }

    private static void rawCools() {
        ClinkerWorks works = new ClinkerWorks();
        works.block(20, 1, 0, 0, 0);
        works.block(20, 0, 1, 0, 0);
        works.blast(0, 1);
        works.charge(1, 0, 0, 0);
        works.blast(1, 2);
        works.charge(1, 0, 0, 0);
        works.charge(1, 0, 0, 0);
        works.run(1);
        warmthIs("not below 0", works, 0, 0, 0, 0, 0);
        works.run(2);
        works.coal(99);
        works.flame(6);
        works.run(1);
        // 9; 18 / 3 - 1 by RAW; 10 / 3; 6 / 3; 4 / 3
        warmthIs("RAW in 3", works, 1, 2, 3, 5, 9);
        cellIs("one RAW is FREE at 5", works, 3, 0, 1, 0, 0, 0, 0);
        works.run(1);
        // (9 + 18) / 2; (5 + 26) / 3; (3 + 20) / 3; (2 + 14) / 3; (1 + 10) / 3
        warmthIs("no RAW any more", works, 3, 5, 7, 10, 13);
    }

    /** A CHARGE comes into the CELL 3 as that has a WARMTH of 8, or, by its RAW, of 7. */
    private static ClinkerWorks ringed(int lime, int alumina, int iron) {
        ClinkerWorks works = new ClinkerWorks();
        works.block(20, lime, 0, alumina, iron);
        works.blast(0, 20);
        works.charge(1, 0, 0, 0);
        works.run(2);
        works.coal(999);
        works.flame(5);
        works.run(2);
        return works;
    }

    private static void theRingGrowsByMeltAndWarmth() {
        checks.same("MELT 6, WARMTH 8", ringed(0, 3, 3).many(7), 1);
        checks.same("MELT 5, WARMTH 8", ringed(0, 2, 3).many(7), 0);
        checks.same("MELT 6, WARMTH 7", ringed(1, 3, 3).many(7), 0);
        checks.same("that WARMTH", ringed(1, 3, 3).ofCell(3, 0), 7);
        ClinkerWorks works = ringed(0, 3, 3);
        works.run(1);
        checks.same("no CHARGE in 3", works.many(7), 1);
        checks.same("no FALL", works.many(8), 0);
    }

    private static void theRingFalls() {
        ClinkerWorks works = ringed(0, 3, 3);
        works.flame(0);
        checks.same("letFall(1)", works.letFall(1), -1);
        checks.same("letFall(2)", works.letFall(2), 0);
        works.run(1);
        warmthIs("cooler", works, 4, 5, 6, 6, 5);
        checks.same("the RING at 6", works.many(7), 1);
        works.run(1);
        checks.same("WARMTH of 3", works.ofCell(3, 0), 3);
        checks.same("the RING below 5", works.many(7), 0);
        checks.same("it FELL", works.many(8), 1);
        works.run(1);
        checks.same("it FELL once", works.many(8), 1);
        checks.same("letFall without a RING", works.letFall(12), -1);
        ClinkerWorks five = ringed(0, 3, 3);
        five.flame(1);
        five.run(1);
        five.flame(0);
        five.run(1);
        // (11 + 3) / 2 = 7 and (8 + 14) / 3 = 7; 3 and 13 / 3
        checks.same("WARMTH 4", five.ofCell(3, 0), 4);
        checks.same("it FELL at 4", five.many(8), 1);
        ClinkerWorks stays = ringed(0, 3, 3);
        stays.flame(1);
        stays.run(2);
        // 7, 7; 5, 17 / 3
        checks.same("WARMTH 5", stays.ofCell(3, 0), 5);
        checks.same("it stays at 5", stays.many(7), 1);
    }

    private static void theHammerBreaksTheRing() {
        ClinkerWorks works = ringed(0, 3, 3);
        checks.same("hammer", works.hammer(), 1);
        checks.same("the RING", works.many(7), 0);
        checks.same("it did not FALL", works.many(8), 0);
        checks.same("hammer again", works.hammer(), 0);
        works.flame(0);
        works.run(9);
        checks.same("none to FALL", works.many(8), 0);
    }

    /** Six CHARGES of a MELT of 6 went through a hot CELL 3 behind one another; the rest wait. */
    private static ClinkerWorks blocked() {
        ClinkerWorks works = warm(9);
        works.run(6);
        works.block(200, 0, 0, 3, 3);
        works.blast(0, 99);
        for (int i = 0; i < 9; i++) {
            if (i >= 3) {
                works.run(1);
            }
            works.charge(1, 0, 0, 0);
        }
        works.run(3);
        return works;
    }

    private static void aGreatRingBlocks() {
        ClinkerWorks works = blocked();
        checks.same("a RING of 6", works.many(7), 6);
        checks.same("not BLOCKED yet", works.many(9), 0);
        checks.same("LOTS so far", works.many(10), 4);
        checks.same("none waits", works.many(3), 0);
        works.charge(1, 0, 0, 0);
        checks.same("BLOCKED", works.run(2), 0);
        checks.same("BLOCKED STEPS", works.many(9), 2);
        checks.same("it grows by what stays", works.many(7), 8);
        checks.same("it waits", works.many(3), 1);
        for (int cell = 0; cell < 5; cell++) {
            checks.same("a CHARGE in " + cell, works.ofCell(cell, 1), 1);
        }
        checks.same("what would come out", works.freeAfter(12, 9), -1);
        checks.same("NOW goes on", works.many(6), 17);
        checks.same("hammer", works.hammer(), 8);
        checks.same("free again", works.run(1), 1);
        checks.same("the RING begins again", works.many(7), 1);
        checks.same("BLOCKED STEPS stay", works.many(9), 2);
        checks.same("it waited, and went in", works.many(3), 0);
    }

    private static void whatComesOutIsDumpedBehindTwelve() {
        ClinkerWorks works = new ClinkerWorks();
        works.block(200, 0, 1, 0, 0);
        works.blast(0, 99);
        for (int i = 0; i < 14; i++) {
            if (i >= 3) {
                checks.same("comes out", works.run(1), i >= 8 ? 1 : 0);
            }
            works.charge(1 + i % 9, 0, 0, 0);
        }
        checks.same("LOTS", works.many(10), 6);
        checks.same("the rest", works.run(8), 8);
        checks.same("LOTS", works.many(10), 12);
        checks.same("DUMPED", works.many(11), 2);
        for (int lot = 0; lot < 12; lot++) {
            checks.same("SILICA of the LOT " + lot, works.ofLot(lot, 1), 1 + lot % 9);
        }
        checks.refusesIndex("no thirteenth", works, () -> works.ofLot(12, 0));
    }

    private static void stepsAreRefused() {
        ClinkerWorks works = new ClinkerWorks();
        for (int wrong : new int[] {-1, 0, 31, Integer.MIN_VALUE, Integer.MAX_VALUE}) {
            checks.refusesArgument("run " + wrong, works, () -> works.run(wrong));
        }
        for (int wrong : new int[] {-1, 0, 13, Integer.MIN_VALUE, Integer.MAX_VALUE}) {
            checks.refusesArgument("freeAfter " + wrong, works, () -> works.freeAfter(wrong, 5));
            checks.refusesArgument("letFall " + wrong, works, () -> works.letFall(wrong));
        }
        for (int wrong : new int[] {-1, 10, Integer.MIN_VALUE, Integer.MAX_VALUE}) {
            checks.refusesArgument("freeAfter, flame " + wrong, works, () -> works.freeAfter(5, wrong));
        }
        works.run(1);
        works.run(30);
        checks.same("NOW", works.many(6), 31);
    }

    private static void freeAfterLooksAhead() {
        ClinkerWorks works = withACharge();
        checks.same("none in 5 STEPS", works.freeAfter(5, 5), -1);
        checks.same("one in 6 STEPS", works.freeAfter(6, 5), 6);
        checks.same("one in 12 STEPS", works.freeAfter(12, 5), 6);
        long before = works.digest();
        works.freeAfter(12, 9);
        works.freeAfter(12, 0);
        checks.same("nothing is changed", works.digest(), before);
        checks.same("the FLAME stays", works.many(4), 5);
        checks.same("with the FLAME 0", works.freeAfter(6, 0), freeOfOne(0));
        checks.same("with the FLAME 9", works.freeAfter(6, 9), freeOfOne(9));
        works.charge(1, 0, 0, 3);
        checks.same("the last of two", works.freeAfter(7, 2), freeByRun(7, 2));
        checks.same("the first of two", works.freeAfter(6, 2), freeByRun(6, 2));
        checks.yes("they differ", freeByRun(6, 2) != freeByRun(7, 2));
    }

    private static int freeOfOne(int flame) {
        ClinkerWorks works = withACharge();
        works.flame(flame);
        works.run(6);
        return works.ofLot(0, 5);
    }

    private static int freeByRun(int steps, int flame) {
        ClinkerWorks works = withACharge();
        works.charge(1, 0, 0, 3);
        works.flame(flame);
        works.run(steps);
        return works.ofLot(works.many(10) - 1, 5);
    }

    private static void letFallLooksAhead() {
        ClinkerWorks works = blocked();
        works.flame(0);
        int steps = 0;
        while (copyFell(steps) == 0) {
            steps++;
        }
        checks.yes("steps " + steps, steps > 2 && steps <= 12);
        checks.same("one STEP too few", works.letFall(steps - 1), -1);
        checks.same("enough STEPS", works.letFall(steps), 0);
        checks.same("the most STEPS", works.letFall(12), 0);
        long before = works.digest();
        works.letFall(12);
        checks.same("nothing is changed", works.digest(), before);
        works.run(steps - 1);
        checks.same("the RING", works.many(8), 0);
        works.run(1);
        checks.same("the RING FELL", works.many(8), 1);
        ClinkerWorks none = new ClinkerWorks();
        checks.same("never a RING", none.letFall(12), -1);
    }

    private static int copyFell(int steps) {
        ClinkerWorks works = blocked();
        works.flame(0);
        for (int i = 0; i < steps; i++) {
            works.run(1);
        }
        return works.many(8);
    }

    private static void cellsAreRefused() {
        ClinkerWorks works = new ClinkerWorks();
        for (int wrong : new int[] {-1, 5, Integer.MIN_VALUE, Integer.MAX_VALUE}) {
            checks.refusesIndex("ofCell " + wrong, works, () -> works.ofCell(wrong, 0));
            checks.refusesIndex("ofCell, both wrong", works, () -> works.ofCell(wrong, 8));
        }
        for (int wrong : new int[] {-1, 8, Integer.MIN_VALUE, Integer.MAX_VALUE}) {
            checks.refusesArgument("ofCell what " + wrong, works, () -> works.ofCell(0, wrong));
        }
        for (int wrong : new int[] {-1, 18, Integer.MIN_VALUE, Integer.MAX_VALUE}) {
            checks.refusesArgument("many " + wrong, works, () -> works.many(wrong));
        }
    }
}

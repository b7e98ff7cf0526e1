/** Promises 10 to 14, 18, 20 and 22 to 24: LOTS, SILOS, CUBES and the STANDARD. */
public final class LotTest {
    private static final Checks checks = new Checks("LotTest");

    public static void main(String[] args) {
        grindingFillsASilo();
        grindingRefusesWhatIsWrong();
        noSacksAreOneSack();
        sellingTakesFromTheFirst();
        oneCallSellsAllLots();
        sellingRefusesWhatIsWrong();
        strengthByHand();
        strengthByGypsum();
        cubesAreRefused();
        aClaimShuts();
        aClaimOfASoldLotShutsNothing();
        eachFoundBelowIsAClaim();
        claimsByTheWindow();
        theWindowHasSix();
        theWindowKnowsTheMeanAndTheLeast();
        standardsAreTold();
        thoughtByHand();
        thoughtIsRoundedDown();
        lotsAndRowsAreRefused();
        checks.finish();
    }

    /** LOTS of SILICA and ALUMINA as told, one behind the other, which never were warm. */
    private static ClinkerWorks coldLots(int... silicaOfLots) {
        ClinkerWorks works = new ClinkerWorks();
        works.block(200, 0, 1, 0, 0);
        works.blast(0, 99);
        for (int silica : silicaOfLots) {
            works.charge(silica, 0, 0, 0);
            works.run(6);
        }
        return works;
    }

    private static void grindingFillsASilo() {
        ClinkerWorks works = coldLots(1, 2, 3, 4);
        checks.same("SACKS of 2", works.grind(2, 9, 0, 1), 3);
        checks.same("SACKS of 0", works.grind(0, 1, 9, 1), 1);
        checks.same("SACKS of 3", works.grind(3, 5, 2, 0), 4);
        checks.same("SACKS of 1", works.grind(1, 6, 2, 1), 2);
        int[] due = {2, 0, 1, -1};
        for (int k = 0; k < due.length; k++) {
            checks.same("row(1, " + k + ")", works.row(1, k), due[k]);
        }
        checks.same("row(0, 0)", works.row(0, 0), 3);
        checks.same("row(0, 1)", works.row(0, 1), -1);
        checks.same("row(0, far)", works.row(0, Integer.MAX_VALUE), -1);
        checks.same("FINENESS", works.ofLot(2, 9), 9);
        checks.same("GYPSUM", works.ofLot(0, 10), 9);
        checks.same("SILO", works.ofLot(1, 11), 1);
        checks.same("SILO", works.ofLot(3, 11), 0);
        checks.same("SACKS left", works.ofLot(3, 12), 4);
    }

    private static void grindingRefusesWhatIsWrong() {
        ClinkerWorks works = coldLots(5, 6);
        works.grind(1, 5, 5, 0);
        for (int wrong : new int[] {-1, 2, Integer.MIN_VALUE, Integer.MAX_VALUE}) {
            checks.refusesIndex("grind lot " + wrong, works, () -> works.grind(wrong, 0, 0, 0));
            checks.refusesIndex("grind silo " + wrong, works, () -> works.grind(0, 5, 10, wrong));
        }
        for (int wrong : new int[] {-1, 0, 10, Integer.MIN_VALUE, Integer.MAX_VALUE}) {
            checks.refusesArgument("fineness " + wrong, works, () -> works.grind(1, wrong, 5, 0));
        }
        for (int wrong : new int[] {-1, 10, Integer.MIN_VALUE, Integer.MAX_VALUE}) {
            checks.refusesArgument("gypsum " + wrong, works, () -> works.grind(1, 5, wrong, 0));
        }
        checks.refusesState("ground", works, () -> works.grind(1, 5, 5, 0));
        checks.refusesState("ground, the other SILO", works, () -> works.grind(1, 5, 5, 1));
        works.sell(0, 999);
        checks.refusesState("ground and sold", works, () -> works.grind(1, 5, 5, 0));
    }

    private static void noSacksAreOneSack() {
        ClinkerWorks works = new ClinkerWorks();
        works.block(9, 0, 0, 0, 0);
        works.blast(0, 9);
        works.charge(9, 0, 0, 0);
        works.run(6);
        checks.same("no OXIDES", works.grind(0, 9, 2, 0), 1);
        checks.same("FOUND at 0", works.cube(0, 0), 18);
    }

    private static void sellingTakesFromTheFirst() {
        ClinkerWorks works = coldLots(4, 5, 6);
        works.grind(0, 5, 2, 0);
        works.grind(1, 6, 2, 0);
        works.grind(2, 9, 2, 0);
        checks.same("three by 3", works.sell(0, 3), 9);
        checks.same("left of the LOT 0", works.ofLot(0, 12), 1);
        checks.same("the first one", works.row(0, 0), 0);
        checks.same("one by 3, two by 4", works.sell(0, 3), 11);
        checks.same("the LOT 0 is out", works.row(0, 0), 1);
        checks.same("its SACKS", works.ofLot(0, 12), 0);
        checks.same("its SILO stays", works.ofLot(0, 11), 0);
        checks.same("its FINENESS stays", works.ofLot(0, 9), 5);
        checks.same("its GYPSUM stays", works.ofLot(0, 10), 2);
        checks.same("all of the LOT 1", works.sell(0, 3), 12);
        checks.same("the LOT 1 is out", works.row(0, 0), 2);
        checks.same("the row", works.row(0, 1), -1);
        checks.same("more than there is", works.sell(0, 999), 24);
        checks.same("nothing is left", works.sell(0, 999), 0);
        checks.same("the other SILO", works.sell(1, 1), 0);
        checks.same("MONEY", works.many(13), 56);
        checks.same("FOUND as it is sold out", works.cube(1, 0), 12);
    }

    private static void oneCallSellsAllLots() {
        ClinkerWorks works = coldLots(1, 2, 3, 4, 5, 6, 7, 8, 9, 8, 7, 6);
        for (int lot = 11; lot >= 0; lot--) {
            works.grind(lot, 6, 2, 1);
        }
        checks.same("the twelfth one", works.row(1, 11), 0);
        checks.same("all of twelve LOTS", works.sell(1, 999), 4 * 66);
        checks.same("the SILO is empty", works.row(1, 0), -1);
    }

    private static void sellingRefusesWhatIsWrong() {
        ClinkerWorks works = coldLots(4);
        for (int wrong : new int[] {-1, 2, Integer.MIN_VALUE, Integer.MAX_VALUE}) {
            checks.refusesIndex("sell of " + wrong, works, () -> works.sell(wrong, 0));
            checks.refusesIndex("open of " + wrong, works, () -> works.open(wrong));
        }
        works.grind(0, 5, 2, 0);
        works.cube(0, 2);
        for (int wrong : new int[] {-1, 0, 1000, Integer.MIN_VALUE, Integer.MAX_VALUE}) {
            checks.refusesArgument("sell sacks " + wrong, works, () -> works.sell(0, wrong));
        }
        checks.refusesState("SHUT", works, () -> works.sell(0, 1));
        checks.yes("it was SHUT", works.open(0));
        checks.no("it is open", works.open(0));
        checks.no("the other one is open", works.open(1));
        checks.same("sells again", works.sell(0, 1), 3);
    }

    /** The CHARGE of KilnTest: SACKS 26, ALITE 4, FREE 6, ALUMINA 2. */
    private static ClinkerWorks aliteLot() {
        ClinkerWorks works = new ClinkerWorks();
        works.coal(999);
        works.flame(5);
        works.run(3);
        works.block(20, 9, 2, 1, 1);
        works.blast(0, 20);
        works.charge(2, 0, 0, 0);
        works.run(6);
        return works;
    }

    private static void strengthByHand() {
        ClinkerWorks works = aliteLot();
        checks.same("SACKS", works.grind(0, 9, 2, 0), 26);
        works.sell(0, 20);
        // 80 / 26 + 18 - 12; 120 / 26 + 9 - 12; 160 / 26 - 12
        checks.same("AGE 0", works.cube(0, 0), 9);
        checks.same("AGE 1", works.cube(0, 1), 1);
        checks.same("AGE 2", works.cube(0, 2), 0);
        ClinkerWorks belite = new ClinkerWorks();
        belite.block(20, 8, 3, 0, 0);
        belite.blast(0, 20);
        belite.charge(1, 0, 0, 0);
        belite.coal(999);
        belite.flame(3);
        belite.run(30);
        int alite = belite.ofLot(0, 8);
        int made = belite.ofLot(0, 7);
        int free = belite.ofLot(0, 5);
        belite.grind(0, 4, 3, 0);
        checks.yes("BELITE", made > 0);
        for (int age = 0; age < 3; age++) {
            int grains = alite * (2 + age) + made * (age == 2 ? 3 : age);
            int due = Math.max(0, grains * 10 / 11 + 4 * (2 - age) - 2 * free - 3);
            checks.same("BELITE at the AGE " + age, belite.cube(0, age), due);
            checks.same("it is told", belite.ofLot(0, 13 + age), due);
        }
    }

    private static void strengthByGypsum() {
        int[] due = {12, 15, 18, 15, 12, 9, 6, 3, 0, 0};
        for (int gypsum = 0; gypsum < due.length; gypsum++) {
            ClinkerWorks works = coldLots(7);
            works.grind(0, 9, gypsum, 0);
            checks.same("GYPSUM " + gypsum + " by no ALUMINA", works.cube(0, 0), due[gypsum]);
        }
        int[] best = {2, 3, 5, 6};
        for (int two = 0; two < best.length; two++) {
            ClinkerWorks works = new ClinkerWorks();
            works.block(1, 0, 0, 1, 0);
            works.blast(0, 1);
            works.charge(1, 0, two, 0);
            works.run(6);
            works.grind(0, 5, best[two], 0);
            checks.same("best GYPSUM by ALUMINA " + (1 + 6 * two), works.cube(0, 0), 10);
            checks.same("at the AGE 1", works.cube(0, 1), 5);
            checks.same("at the AGE 2", works.cube(0, 2), 0);
        }
    }

    private static void cubesAreRefused() {
        ClinkerWorks works = coldLots(7, 8);
        works.grind(0, 5, 2, 0);
        for (int wrong : new int[] {-1, 2, Integer.MIN_VALUE, Integer.MAX_VALUE}) {
            checks.refusesIndex("cube of " + wrong, works, () -> works.cube(wrong, 3));
        }
        for (int wrong : new int[] {-1, 3, Integer.MIN_VALUE, Integer.MAX_VALUE}) {
            checks.refusesArgument("cube age " + wrong, works, () -> works.cube(0, wrong));
            checks.refusesArgument("cube age, not ground", works, () -> works.cube(1, wrong));
        }
        for (int age = 0; age < 3; age++) {
            int each = age;
            checks.refusesState("not ground", works, () -> works.cube(1, each));
            works.cube(0, age);
            checks.refusesState("BROKEN at that AGE", works, () -> works.cube(0, each));
        }
        checks.same("one in the WINDOW", works.many(15), 1);
    }

    private static void aClaimShuts() {
        ClinkerWorks works = coldLots(1, 2, 3);
        works.grind(0, 5, 2, 1);
        works.grind(1, 5, 2, 1);
        works.grind(2, 5, 2, 0);
        works.cube(0, 0);
        works.cube(0, 1);
        checks.same("no CLAIM by other AGES", works.many(14), 0);
        checks.same("none in the WINDOW", works.many(15), 0);
        checks.yes("CONFORM without any", works.isConform());
        checks.same("AGE 2", works.cube(1, 2), 0);
        checks.same("a CLAIM", works.many(14), 1);
        checks.same("the SILO 1 is SHUT", works.many(16), 2);
        checks.no("not CONFORM", works.isConform());
        checks.refusesState("nothing is sold of it", works, () -> works.sell(1, 1));
        checks.same("the other one sells", works.sell(0, 1), 3);
        works.cube(2, 2);
        checks.same("both are SHUT", works.many(16), 3);
        works.open(1);
        checks.same("the SILO 0 is SHUT", works.many(16), 1);
        works.open(0);
        checks.same("none is SHUT", works.many(16), 0);
        checks.no("still not CONFORM", works.isConform());
    }

    private static void aClaimOfASoldLotShutsNothing() {
        ClinkerWorks works = coldLots(1, 2);
        works.grind(0, 5, 2, 0);
        works.grind(1, 5, 2, 0);
        works.sell(0, 1);
        works.cube(0, 2);
        checks.same("a CLAIM", works.many(14), 1);
        checks.same("none is SHUT", works.many(16), 0);
        works.sell(0, 1);
        works.cube(1, 2);
        checks.same("two CLAIMS", works.many(14), 2);
        checks.same("a SACK is left", works.many(16), 1);
    }

    private static void eachFoundBelowIsAClaim() {
        ClinkerWorks works = coldLots(1, 2, 3);
        for (int lot = 0; lot < 3; lot++) {
            works.grind(lot, 5, 2, 0);
        }
        works.standard(0);
        works.cube(0, 2);
        checks.same("CONFORM by 0", works.many(14), 0);
        checks.yes("0 is not below 0", works.isConform());
        works.standard(1);
        checks.no("the mean 0 is below 1", works.isConform());
        checks.same("no CLAIM by a STANDARD", works.many(14), 0);
        checks.same("nothing SHUT by that", works.many(16), 0);
        works.cube(1, 2);
        checks.same("a CLAIM", works.many(14), 1);
        works.cube(2, 2);
        checks.same("another one", works.many(14), 2);
    }

    /** Twelve LOTS of 3 ALITE by 12 SACKS, so 10 at the AGE 2, less 3 for each that GYPSUM is off. */
    private static ClinkerWorks burntLots() {
        int[] gypsum = {5, 2, 2, 2, 2, 2, 2, 3, 0, 1, 2, 6};
        ClinkerWorks works = new ClinkerWorks();
        works.block(200, 9, 3, 0, 0);
        works.blast(0, 30);
        works.coal(999);
        works.flame(9);
        works.run(6);
        for (int lot = 0; lot < 12; lot++) {
            works.charge(1 + lot % 3, 0, 0, 0);
            works.run(6);
            works.grind(lot, 1 + lot % 9, gypsum[lot], lot % 2);
        }
        return works;
    }

    private static void claimsByTheWindow() {
        ClinkerWorks works = burntLots();
        int[] due = {1, 10, 10, 10, 10, 10, 10, 7, 4, 7, 10, 0};
        int[] claims = {1, 2, 3, 4, 5, 6, 6, 6, 6, 6, 6, 7};
        for (int lot = 0; lot < 12; lot++) {
            boolean claim = lot < 6 || lot == 11;
            checks.same("FOUND of the LOT " + lot, works.cube(lot, 2), due[lot]);
            checks.same("CLAIMS by the LOT " + lot, works.many(14), claims[lot]);
            checks.yes("CONFORM", works.isConform() != claim);
            checks.same("SHUT by the LOT " + lot, works.many(16), claim ? lot % 2 + 1 : 0);
            works.open(lot % 2);
        }
        // 10, 7, 4, 7, 10, 0 have 38 by 6; the least is no less than 4 less 4.
        works.standard(4);
        checks.yes("CONFORM by 4", works.isConform());
        works.standard(5);
        checks.no("not CONFORM by 5", works.isConform());
        checks.same("CLAIMS stay", works.many(14), 7);
    }

    private static void theWindowHasSix() {
        ClinkerWorks works = burntLots();
        int[] found = new int[12];
        boolean differs = false;
        for (int lot = 0; lot < 12; lot++) {
            found[lot] = works.cube(lot, 2);
            differs |= lot >= 6 && found[lot] != found[lot - 6];
            int first = Math.max(0, lot - 5);
            int sum = 0;
            for (int i = first; i <= lot; i++) {
                sum += found[i];
            }
            int size = lot - first + 1;
            checks.same("in the WINDOW", works.many(15), size);
            checks.same("meanFound()", works.meanFound(), (double) sum / size);
        }
        checks.yes("what leaves differs from what comes", differs);
    }

    private static void theWindowKnowsTheMeanAndTheLeast() {
        ClinkerWorks works = burntLots();
        int[] found = new int[12];
        int byLeast = 0;
        int byMean = 0;
        for (int lot = 0; lot < 12; lot++) {
            found[lot] = works.cube(lot, 2);
            int first = Math.max(0, lot - 5);
            for (int standard = 0; standard <= 16; standard++) {
                works.standard(standard);
                boolean leastHolds = true;
                int sum = 0;
                for (int i = first; i <= lot; i++) {
                    leastHolds &= found[i] >= standard - 4;
                    sum += found[i];
                }
                boolean meanHolds = sum >= standard * (lot - first + 1);
                byLeast += meanHolds && !leastHolds ? 1 : 0;
                byMean += leastHolds && !meanHolds ? 1 : 0;
                checks.yes("CONFORM by " + standard, works.isConform() == (leastHolds && meanHolds));
            }
        }
        checks.yes("below by the least alone: " + byLeast, byLeast > 0);
        checks.yes("below by the mean alone: " + byMean, byMean > 0);
    }

    private static void standardsAreTold() {
        ClinkerWorks works = new ClinkerWorks();
        checks.same("the first", works.standard(99), 6);
        checks.same("the next", works.standard(0), 99);
        checks.same("one more", works.standard(7), 0);
        checks.same("many(17)", works.many(17), 7);
        checks.yes("CONFORM without any", works.isConform());
        for (int wrong : new int[] {-1, 100, Integer.MIN_VALUE, Integer.MAX_VALUE}) {
            checks.refusesArgument("standard " + wrong, works, () -> works.standard(wrong));
        }
    }

    private static void thoughtByHand() {
        ClinkerWorks works = coldLots(1, 2, 3);
        works.grind(0, 9, 2, 0);
        works.grind(1, 5, 2, 0);
        works.grind(2, 7, 2, 0);
        checks.refusesState("no AGE 1", works, () -> works.thought(0));
        works.cube(0, 0);
        checks.refusesState("the AGE 0 alone", works, () -> works.thought(0));
        works.cube(0, 1);
        checks.same("9 and 10", works.thought(0), 19);
        works.cube(0, 2);
        checks.same("its own AGES do not count", works.thought(0), 19);
        works.cube(1, 1);
        checks.same("5 and the 9 less of the LOT 0", works.thought(1), -4);
        checks.same("the LOT 1 has one AGE", works.thought(0), 19);
        works.cube(2, 2);
        checks.refusesState("the AGE 2 alone", works, () -> works.thought(2));
        checks.same("the LOT 2 has one AGE, too", works.thought(0), 19);
        works.cube(1, 2);
        checks.same("9 and the 5 less of the LOT 1", works.thought(0), 4);
        works.cube(2, 1);
        checks.same("7 and (-9 - 5) / 2", works.thought(2), 0);
        checks.same("9 and (-5 - 7) / 2", works.thought(0), 3);
    }

    private static void thoughtIsRoundedDown() {
        ClinkerWorks works = coldLots(1, 2, 3, 4);
        int[] fineness = {3, 4, 6, 8};
        for (int lot = 0; lot < 4; lot++) {
            works.grind(lot, fineness[lot], 2, 0);
            works.cube(lot, 1);
            works.cube(lot, 2);
        }
        // -13 by 3 is -5, -14 and -17 by 3 are -5 and -6, -18 by 3 is -6.
        checks.same("8 and -13 / 3", works.thought(3), 3);
        checks.same("6 and -15 / 3", works.thought(2), 1);
        checks.same("4 and -17 / 3", works.thought(1), -2);
        checks.same("3 and -18 / 3", works.thought(0), -3);
    }

    private static void lotsAndRowsAreRefused() {
        ClinkerWorks works = coldLots(7);
        for (int wrong : new int[] {-1, 1, Integer.MIN_VALUE, Integer.MAX_VALUE}) {
            checks.refusesIndex("ofLot " + wrong, works, () -> works.ofLot(wrong, 0));
            checks.refusesIndex("ofLot, both wrong", works, () -> works.ofLot(wrong, 22));
            checks.refusesIndex("thought " + wrong, works, () -> works.thought(wrong));
        }
        for (int wrong : new int[] {-1, 22, Integer.MIN_VALUE, Integer.MAX_VALUE}) {
            checks.refusesArgument("ofLot what " + wrong, works, () -> works.ofLot(0, wrong));
        }
        for (int wrong : new int[] {-1, 2, Integer.MIN_VALUE, Integer.MAX_VALUE}) {
            checks.refusesIndex("row " + wrong, works, () -> works.row(wrong, 0));
            checks.refusesIndex("row, both wrong", works, () -> works.row(wrong, -1));
        }
        checks.refusesArgument("row k -1", works, () -> works.row(1, -1));
        checks.refusesArgument("row k least", works, () -> works.row(0, Integer.MIN_VALUE));
    }
}

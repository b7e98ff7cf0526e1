import java.util.Random;

/** Promises 2 to 5, 15, 16, 19 and 25: BLOCKS, the PILE, CHARGES and their MODULI. */
public final class StoneTest {
    private static final Checks checks = new Checks("StoneTest");

    public static void main(String[] args) {
        blocksAreTold();
        blocksRefuseWhatIsWrong();
        drillingMakesKnown();
        blastingMakesALayer();
        blastingRefusesWhatIsWrong();
        cutsAreShared();
        whatLacksIsTakenFromTheBottom();
        layersOfOneBlockStayApart();
        theBinsAdd();
        chargesWait();
        chargesRefuseWhatIsWrong();
        rightChargesByAllEdges();
        bestChargeByHand();
        bestChargeByTryingAll();
        checks.finish();
    }

    private static void blocksAreTold() {
        ClinkerWorks works = new ClinkerWorks();
        checks.same("the first block", works.block(0, 0, 0, 0, 0), 0);
        checks.same("the second block", works.block(200, 9, 9, 9, 9), 1);
        checks.same("the third block", works.block(7, 4, 3, 8, 6), 2);
        checks.same("many(0)", works.many(0), 3);
        checks.same("STONE of 0", works.ofBlock(0, 0), 0);
        checks.same("STONE of 1", works.ofBlock(1, 0), 200);
        checks.same("KNOWN of 1", works.ofBlock(1, 1), 0);
        ofBlockIs("not KNOWN", works, 2, 5, 2, 1, 0);
        works.drill(2);
        checks.same("KNOWN of 2", works.ofBlock(2, 1), 1);
        ofBlockIs("KNOWN", works, 2, 4, 3, 8, 6);
        ofBlockIs("another one", works, 1, 5, 2, 1, 0);
        for (int i = 3; i < 6; i++) {
            checks.same("a further block", works.block(1, 1, 1, 1, 1), i);
        }
        checks.refusesState("the seventh block", works, () -> works.block(1, 1, 1, 1, 1));
        checks.refusesArgument("a wrong seventh", works, () -> works.block(201, 1, 1, 1, 1));
    }

    private static void ofBlockIs(String what, ClinkerWorks works, int block, int... due) {
        for (int oxide = 0; oxide < 4; oxide++) {
            checks.same(what + ", OXIDE " + oxide, works.ofBlock(block, 2 + oxide), due[oxide]);
        }
    }

    private static void blocksRefuseWhatIsWrong() {
        ClinkerWorks works = new ClinkerWorks();
        for (int wrong : new int[] {-1, 10, Integer.MIN_VALUE, Integer.MAX_VALUE}) {
            checks.refusesArgument("lime " + wrong, works, () -> works.block(1, wrong, 0, 0, 0));
            checks.refusesArgument("silica " + wrong, works, () -> works.block(1, 0, wrong, 0, 0));
            checks.refusesArgument("alumina " + wrong, works, () -> works.block(1, 0, 0, wrong, 0));
            checks.refusesArgument("iron " + wrong, works, () -> works.block(1, 0, 0, 0, wrong));
        }
        checks.refusesArgument("stone -1", works, () -> works.block(-1, 0, 0, 0, 0));
        checks.refusesArgument("stone 201", works, () -> works.block(201, 0, 0, 0, 0));
        works.block(3, 1, 2, 3, 4);
        for (int wrong : new int[] {-1, 1, Integer.MAX_VALUE, Integer.MIN_VALUE}) {
            checks.refusesIndex("ofBlock " + wrong, works, () -> works.ofBlock(wrong, 0));
            checks.refusesIndex("ofBlock, both wrong", works, () -> works.ofBlock(wrong, 6));
            checks.refusesIndex("drill " + wrong, works, () -> works.drill(wrong));
        }
        checks.refusesArgument("ofBlock what 6", works, () -> works.ofBlock(0, 6));
        checks.refusesArgument("ofBlock what -1", works, () -> works.ofBlock(0, -1));
    }

    private static void drillingMakesKnown() {
        ClinkerWorks works = new ClinkerWorks();
        works.block(9, 1, 2, 3, 4);
        works.block(9, 4, 3, 2, 1);
        checks.yes("drilled once", works.drill(0));
        checks.no("drilled again", works.drill(0));
        works.blast(1, 1);
        checks.no("drilled after it was BLASTED", works.drill(1));
        checks.same("STONE as it was", works.ofBlock(0, 0), 9);
    }

    private static void blastingMakesALayer() {
        ClinkerWorks works = new ClinkerWorks();
        works.block(120, 6, 5, 4, 3);
        works.block(5, 1, 1, 1, 1);
        checks.same("blast 99", works.blast(0, 99), 99);
        checks.same("STONE left", works.ofBlock(0, 0), 21);
        checks.same("KNOWN by that", works.ofBlock(0, 1), 1);
        ofBlockIs("BLASTED", works, 0, 6, 5, 4, 3);
        checks.same("blast 1", works.blast(1, 1), 1);
        checks.same("blast more than there is", works.blast(0, 22), 21);
        checks.same("blast what is left", works.blast(1, 4), 4);
        checks.same("LAYERS", works.many(1), 4);
        checks.same("PARTS", works.many(2), 125);
        layerIs(works, 0, 0, 99);
        layerIs(works, 1, 1, 1);
        layerIs(works, 2, 0, 21);
        layerIs(works, 3, 1, 4);
    }

    private static void layerIs(ClinkerWorks works, int layer, int block, int parts) {
        checks.same("BLOCK of the LAYER " + layer, works.ofLayer(layer, 0), block);
        checks.same("PARTS of the LAYER " + layer, works.ofLayer(layer, 1), parts);
    }

    private static void blastingRefusesWhatIsWrong() {
        ClinkerWorks works = new ClinkerWorks();
        works.block(0, 1, 1, 1, 1);
        works.block(200, 1, 1, 1, 1);
        checks.refusesIndex("blast of no BLOCK", works, () -> works.blast(2, 0));
        checks.refusesIndex("blast of -1", works, () -> works.blast(-1, 5));
        checks.refusesArgument("blast 0, no STONE", works, () -> works.blast(0, 0));
        checks.refusesArgument("blast 0", works, () -> works.blast(1, 0));
        checks.refusesArgument("blast 100", works, () -> works.blast(1, 100));
        checks.refusesState("blast, no STONE", works, () -> works.blast(0, 1));
        checks.same("not KNOWN by what was refused", works.ofBlock(0, 1), 0);
        for (int i = 0; i < 8; i++) {
            checks.same("LAYER " + i, works.blast(1, 1), 1);
        }
        checks.refusesState("the ninth LAYER", works, () -> works.blast(1, 1));
        checks.refusesArgument("a wrong ninth LAYER", works, () -> works.blast(1, 100));
        for (int wrong : new int[] {-1, 8, Integer.MAX_VALUE}) {
            checks.refusesIndex("ofLayer " + wrong, works, () -> works.ofLayer(wrong, 0));
            checks.refusesIndex("ofLayer, both wrong", works, () -> works.ofLayer(wrong, 2));
        }
        checks.refusesArgument("ofLayer what 2", works, () -> works.ofLayer(0, 2));
        checks.refusesArgument("ofLayer what -1", works, () -> works.ofLayer(0, -1));
    }

    private static void cutsAreShared() {
        ClinkerWorks works = new ClinkerWorks();
        works.block(10, 1, 0, 0, 0);
        works.block(7, 0, 1, 0, 0);
        works.block(3, 0, 0, 1, 0);
        works.blast(0, 10);
        works.blast(1, 7);
        works.blast(2, 3);
        // 10, 7 and 3 times 9 by 20 are 4, 3 and 1; the one that lacks is of the bottom one.
        checks.same("SATURATION", works.charge(9, 0, 0, 0), 45);
        checks.same("LAYERS", works.many(1), 3);
        layerIs(works, 0, 0, 5);
        layerIs(works, 1, 1, 4);
        layerIs(works, 2, 2, 2);
        // 5, 4 and 2 times 4 by 11 are 1, 1 and 0; the two that lack are of the lower two.
        checks.same("SATURATION", works.charge(4, 0, 0, 0), 33);
        layerIs(works, 0, 0, 3);
        layerIs(works, 1, 1, 2);
        layerIs(works, 2, 2, 2);
        checks.same("all that is left", works.charge(7, 0, 0, 0), 30);
        checks.same("no LAYER", works.many(1), 0);
        checks.same("no PARTS", works.many(2), 0);
    }

    private static void whatLacksIsTakenFromTheBottom() {
        ClinkerWorks works = new ClinkerWorks();
        for (int i = 0; i < 4; i++) {
            works.block(1, i + 1, 1, 0, 0);
            works.blast(i, 1);
        }
        // Each has 1 * 2 / 4 = 0: the two bottom ones go.
        checks.same("LIME 3 by SILICA 2", works.charge(2, 0, 0, 0), 50);
        checks.same("LAYERS", works.many(1), 2);
        layerIs(works, 0, 2, 1);
        layerIs(works, 1, 3, 1);
        checks.same("LIME 3 by SILICA 1", works.charge(1, 0, 0, 0), 100);
        layerIs(works, 0, 3, 1);
        checks.same("a LAYER on top again", works.many(1), 1);
        works.block(9, 1, 1, 1, 1);
        works.blast(4, 3);
        layerIs(works, 1, 4, 3);
    }

    private static void layersOfOneBlockStayApart() {
        ClinkerWorks works = new ClinkerWorks();
        works.block(20, 9, 0, 0, 0);
        works.block(20, 0, 9, 0, 0);
        works.blast(0, 4);
        works.blast(1, 2);
        works.blast(0, 4);
        works.charge(5, 0, 0, 0);
        // 2, 1 and 2 are all 5.
        layerIs(works, 0, 0, 2);
        layerIs(works, 1, 1, 1);
        layerIs(works, 2, 0, 2);
        works.run(6);
        checks.same("PARTS of the BLOCK 0", works.ofLot(0, 16), 4);
        checks.same("PARTS of the BLOCK 1", works.ofLot(0, 17), 1);
        checks.same("PARTS of the BLOCK 2", works.ofLot(0, 18), 0);
        checks.same("PARTS of the BLOCK 5", works.ofLot(0, 21), 0);
    }

    private static void theBinsAdd() {
        ClinkerWorks works = new ClinkerWorks();
        works.block(50, 7, 3, 2, 1);
        works.blast(0, 50);
        // LIME 28, SILICA 12 + 9 + 6 = 27, ALUMINA 8 + 12 = 20, IRON 4 + 9 * 3 = 31
        checks.same("2800 by 81 + 40 + 31", works.charge(4, 1, 2, 3), 18);
        modulusIs(works, 0, 18, 5, 6, 0);
        // LIME 63, SILICA 27 + 27 + 3 = 57, ALUMINA 18 + 6 = 24, IRON 9
        checks.same("6300 by 171 + 48 + 9", works.charge(9, 3, 1, 0), 27);
        modulusIs(works, 1, 27, 17, 26, 0);
        // LIME 7, SILICA 3 + 9, ALUMINA 2 + 18, IRON 1
        checks.same("700 by 36 + 40 + 1", works.charge(1, 0, 3, 0), 9);
        modulusIs(works, 2, 9, 5, 200, 0);
        works.run(1);
        modulusIs(works, 0, 27, 17, 26, 0);
        modulusIs(works, 1, 9, 5, 200, 0);
        works.run(5);
        for (int what = 0; what < 4; what++) {
            checks.same("LOT 0, OXIDE " + what, works.ofLot(0, what), new int[] {28, 27, 20, 31}[what]);
        }
    }

    private static void modulusIs(ClinkerWorks works, int charge, int... due) {
        for (int what = 0; what < 4; what++) {
            checks.same("modulus(" + charge + ", " + what + ")", works.modulus(charge, what), due[what]);
        }
    }

    private static void chargesWait() {
        ClinkerWorks works = new ClinkerWorks();
        works.block(99, 9, 0, 0, 0);
        works.blast(0, 99);
        checks.same("nothing to divide by", works.charge(1, 0, 0, 0), 999);
        modulusIs(works, 0, 999, 999, 999, 0);
        checks.same("one waits", works.many(3), 1);
        // IRON alone: 900 by 9, 0 by 9, 0 by 9
        checks.same("with IRON", works.charge(1, 0, 0, 1), 100);
        modulusIs(works, 1, 100, 0, 0, 0);
        // ALUMINA 6 and SILICA 3, no IRON
        checks.same("without IRON", works.charge(1, 0, 1, 0), 42);
        modulusIs(works, 2, 42, 5, 999, 0);
        checks.same("three wait", works.many(3), 3);
        checks.refusesState("a fourth", works, () -> works.charge(1, 0, 0, 0));
        works.run(1);
        checks.same("two wait", works.many(3), 2);
        checks.same("room again", works.charge(2, 0, 0, 1), 200);
        works.run(3);
        checks.same("none waits", works.many(3), 0);
        checks.refusesIndex("modulus of none", works, () -> works.modulus(0, 0));
    }

    private static void chargesRefuseWhatIsWrong() {
        ClinkerWorks works = new ClinkerWorks();
        works.block(99, 9, 1, 1, 1);
        checks.refusesState("no PILE", works, () -> works.charge(1, 0, 0, 0));
        checks.refusesState("bestCharge, no PILE", works, () -> works.bestCharge(1));
        checks.refusesArgument("cut 10, no PILE", works, () -> works.charge(10, 0, 0, 0));
        checks.refusesArgument("bestCharge(10), no PILE", works, () -> works.bestCharge(10));
        works.blast(0, 8);
        checks.refusesState("one too few", works, () -> works.charge(9, 0, 0, 0));
        checks.refusesState("bestCharge, one too few", works, () -> works.bestCharge(9));
        for (int wrong : new int[] {-1, 4, Integer.MIN_VALUE, Integer.MAX_VALUE}) {
            checks.refusesArgument("one " + wrong, works, () -> works.charge(1, wrong, 0, 0));
            checks.refusesArgument("two " + wrong, works, () -> works.charge(1, 0, wrong, 0));
            checks.refusesArgument("three " + wrong, works, () -> works.charge(1, 0, 0, wrong));
        }
        checks.refusesArgument("cut 0", works, () -> works.charge(0, 0, 0, 0));
        checks.refusesArgument("bestCharge(0)", works, () -> works.bestCharge(0));
        works.charge(2, 0, 0, 0);
        works.charge(2, 3, 3, 3);
        works.charge(2, 0, 0, 0);
        checks.refusesArgument("cut 10, three wait", works, () -> works.charge(10, 0, 0, 0));
        checks.refusesIndex("modulus(3, 0)", works, () -> works.modulus(3, 0));
        checks.refusesIndex("modulus(-1, 4)", works, () -> works.modulus(-1, 4));
        checks.refusesArgument("modulus(0, 4)", works, () -> works.modulus(0, 4));
        checks.refusesArgument("modulus(0, -1)", works, () -> works.modulus(0, -1));
    }

    /** What is RIGHT, over much stone, at each edge of each bound. */
    private static void rightChargesByAllEdges() {
        int[] edges = new int[12];
        Random random = new Random(19);
        for (int i = 0; i < 60000; i++) {
            ClinkerWorks works = new ClinkerWorks();
            works.block(9, 9 - random.nextInt(5), random.nextInt(6), random.nextInt(10), random.nextInt(7));
            works.block(9, 9, random.nextInt(5), 0, 0);
            works.blast(0, 1 + random.nextInt(4));
            works.blast(1, 5 + random.nextInt(3));
            works.charge(1 + random.nextInt(6), random.nextInt(4), random.nextInt(4), random.nextInt(2));
            checks.same("RIGHT", works.modulus(0, 3), dueRight(works, edges));
        }
        for (int edge = 0; edge < edges.length; edge++) {
            checks.yes("edge " + edge + " was seen", edges[edge] > 0);
        }
    }

    private static int dueRight(ClinkerWorks works, int[] edges) {
        int[] bounds = {80, 110, 12, 40, 5, 40};
        boolean right = true;
        for (int what = 0; what < 3; what++) {
            int modulus = works.modulus(0, what);
            int least = bounds[2 * what];
            int most = bounds[2 * what + 1];
            right &= least <= modulus && modulus <= most;
            edges[4 * what] += modulus == least - 1 ? 1 : 0;
            edges[4 * what + 1] += modulus == least ? 1 : 0;
            edges[4 * what + 2] += modulus == most ? 1 : 0;
            edges[4 * what + 3] += modulus == most + 1 ? 1 : 0;
        }
        return right ? 1 : 0;
    }

    private static void bestChargeByHand() {
        ClinkerWorks works = new ClinkerWorks();
        works.block(40, 9, 2, 1, 0);
        works.block(40, 9, 3, 1, 1);
        works.blast(0, 20);
        works.blast(1, 20);
        // LIME 18, SILICA 5, ALUMINA 2, IRON 1: 90, 16, 20
        checks.same("RIGHT without additions", works.bestCharge(2), 0);
        // LIME 9 by SILICA 2, ALUMINA 1: 112, and no IRON; what a PART of a BIN adds is too much.
        checks.same("no CHARGE is RIGHT", works.bestCharge(1), -1);
        ClinkerWorks lime = new ClinkerWorks();
        lime.block(200, 9, 0, 0, 0);
        lime.blast(0, 99);
        // LIME 81, SILICA 21, ALUMINA 6, IRON 9: 96, 14, 6
        checks.same("LIME alone", lime.bestCharge(9), 211);
        lime.charge(1, 0, 0, 0);
        lime.charge(1, 0, 0, 0);
        lime.charge(1, 0, 0, 0);
        checks.same("as 3 wait", lime.bestCharge(9), 211);
        checks.same("nothing is cut by that", lime.many(2), 96);
    }

    private static void bestChargeByTryingAll() {
        int ties = 0;
        int none = 0;
        int some = 0;
        Random random = new Random(28);
        for (int i = 0; i < 1000; i++) {
            int[] digits = {9 - random.nextInt(4), random.nextInt(4), random.nextInt(3), random.nextInt(3)};
            int cut = 4 + random.nextInt(6);
            int best = -1;
            int fewest = 10;
            int equal = 0;
            for (int number = 0; number <= 333; number++) {
                int one = number / 100;
                int two = number / 10 % 10;
                int three = number % 10;
                if (two > 3 || three > 3) {
                    continue;
                }
                ClinkerWorks tried = pileOf(digits);
                tried.charge(cut, one, two, three);
                int added = one + two + three;
                if (tried.modulus(0, 3) == 0 || added > fewest) {
                    continue;
                }
                equal = added < fewest ? 1 : equal + 1;
                best = added < fewest ? number : best;
                fewest = added;
            }
            checks.same("bestCharge", pileOf(digits).bestCharge(cut), best);
            ties += equal > 1 ? 1 : 0;
            none += best < 0 ? 1 : 0;
            some += best > 0 ? 1 : 0;
        }
        checks.yes("ties, none, some: " + ties + " " + none + " " + some, ties > 5 && none > 5 && some > 5);
    }

    private static ClinkerWorks pileOf(int[] digits) {
        ClinkerWorks works = new ClinkerWorks();
        works.block(30, digits[0], digits[1], digits[2], digits[3]);
        works.block(30, 9, 0, 0, 0);
        works.blast(0, 13);
        works.blast(1, 20);
        return works;
    }
}

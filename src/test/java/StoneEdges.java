/** The edges of the document's parts 1 and 2, and of the promises 2 to 5: BLOCKS, the PILE and CHARGES. */
final class StoneEdges {
    private static final int[] BEYOND_INT = {Integer.MIN_VALUE, Integer.MAX_VALUE};

    private StoneEdges() {
    }

    static void all(Edges edges) {
        edges.of("1. Stone");
        blocks(edges);
        known(edges);
        layers(edges);
        cuts(edges);
        edges.of("2. Charges");
        charges(edges);
        moduliWithoutDivisor(edges);
        rightOnes(edges);
        inTheKiln(edges);
        edges.of("Promise 2");
        block(edges);
        edges.of("Promise 3");
        drill(edges);
        edges.of("Promise 4");
        blast(edges);
        edges.of("Promise 5");
        charge(edges);
    }

    // ---- part 1

    private static void blocks(Edges edges) {
        edges.edge("at most 6, numbered from 0", checks -> {
            ClinkerWorks works = new ClinkerWorks();
            for (int i = 0; i < 6; i++) {
                checks.same("BLOCK " + i, works.block(i, 1, 1, 1, 1), i);
            }
            checks.same("BLOCKS", works.many(0), 6);
            for (int i = 0; i < 6; i++) {
                checks.same("STONE of the BLOCK " + i, works.ofBlock(i, 0), i);
            }
            checks.refusesState("one more", works, () -> works.block(1, 1, 1, 1, 1));
        });
        edges.edge("each with STONE (in PARTS; 0 to 200)", checks -> {
            ClinkerWorks works = new ClinkerWorks();
            works.block(0, 1, 1, 1, 1);
            works.block(200, 1, 1, 1, 1);
            checks.same("the least", works.ofBlock(0, 0), 0);
            checks.same("the most", works.ofBlock(1, 0), 200);
        });
        edges.edge("what a PART of it has of each OXIDE (0 to 9 each)", checks -> {
            for (int oxide = 0; oxide < 4; oxide++) {
                ClinkerWorks works = new ClinkerWorks();
                works.block(1, 0, 0, 0, 0);
                works.block(1, oxide == 0 ? 9 : 0, oxide == 1 ? 9 : 0, oxide == 2 ? 9 : 0, oxide == 3 ? 9 : 0);
                works.block(1, 9, 9, 9, 9);
                for (int block = 0; block < 3; block++) {
                    works.drill(block);
                }
                checks.same("the least", works.ofBlock(0, 2 + oxide), 0);
                for (int other = 0; other < 4; other++) {
                    checks.same("the most of one", works.ofBlock(1, 2 + other), other == oxide ? 9 : 0);
                }
                checks.same("the most of all", works.ofBlock(2, 2 + oxide), 9);
            }
        });
    }

    private static void known(Edges edges) {
        edges.edge("which is KNOWN once it was DRILLED, or BLASTED", checks -> {
            ClinkerWorks works = new ClinkerWorks();
            for (int i = 0; i < 3; i++) {
                works.block(1, 9, 8, 7, 6);
            }
            works.drill(1);
            works.blast(2, 1);
            checks.same("neither", works.ofBlock(0, 1), 0);
            checks.same("DRILLED", works.ofBlock(1, 1), 1);
            checks.same("BLASTED", works.ofBlock(2, 1), 1);
        });
        edges.edge("What is THOUGHT of one that is not KNOWN: 5, 2, 1 and 0.", checks -> {
            ClinkerWorks works = new ClinkerWorks();
            works.block(1, 9, 8, 7, 6);
            int[] thought = {5, 2, 1, 0};
            int[] known = {9, 8, 7, 6};
            for (int oxide = 0; oxide < 4; oxide++) {
                checks.same("THOUGHT of the OXIDE " + oxide, works.ofBlock(0, 2 + oxide), thought[oxide]);
            }
            works.drill(0);
            for (int oxide = 0; oxide < 4; oxide++) {
                checks.same("KNOWN of the OXIDE " + oxide, works.ofBlock(0, 2 + oxide), known[oxide]);
            }
        });
    }

    private static void layers(Edges edges) {
        edges.edge("To BLAST so many PARTS of a BLOCK (all, if there are less): its STONE is as much less", checks -> {
            for (int stone = 9; stone <= 11; stone++) {
                ClinkerWorks works = new ClinkerWorks();
                works.block(stone, 1, 1, 1, 1);
                int due = Math.min(10, stone);
                checks.same("10 of " + stone, works.blast(0, 10), due);
                checks.same("PARTS of the LAYER", works.ofLayer(0, 1), due);
                checks.same("STONE left", works.ofBlock(0, 0), stone - due);
            }
        });
        edges.edge("they are a LAYER, the top one of the PILE (at most 8 LAYERS)", checks -> {
            ClinkerWorks works = new ClinkerWorks();
            works.block(99, 1, 1, 1, 1);
            for (int i = 0; i < 8; i++) {
                works.blast(0, 1 + i);
                checks.same("LAYERS", works.many(1), 1 + i);
                checks.same("the top one", works.ofLayer(i, 1), 1 + i);
                checks.same("the bottom one", works.ofLayer(0, 1), 1);
            }
            checks.refusesState("one more", works, () -> works.blast(0, 1));
        });
    }

    private static void cuts(Edges edges) {
        edges.edge("its PARTS times those that are CUT, divided by all of the PILE as it was", checks -> {
            ClinkerWorks works = pileOfLayers(8, 7, 1);
            works.charge(8, 0, 0, 0);
            // 64, 56 and 8 by 16 are 4, 3 and 0, and one lacks; 56 by the 12 that were left would be 4.
            layersAre(checks, works, 3, 4, 1);
            ClinkerWorks uneven = pileOfLayers(1, 1, 9);
            uneven.charge(9, 0, 0, 0);
            // 9 / 11, 9 / 11 and 81 / 11 are 0, 0 and 7; two lack, and are of the lower ones.
            layersAre(checks, uneven, 2);
            ClinkerWorks all = pileOfLayers(1, 7, 1);
            all.charge(9, 0, 0, 0);
            layersAre(checks, all);
        });
        edges.edge("what is lacking then is taken one PART at a time from the LAYERS, from the bottom one on", checks -> {
            ClinkerWorks works = pileOfLayers(2, 2, 2, 2);
            works.charge(1, 0, 0, 0);
            layersAre(checks, works, 1, 2, 2, 2);
            ClinkerWorks two = pileOfLayers(2, 2, 2, 2);
            two.charge(2, 0, 0, 0);
            layersAre(checks, two, 1, 1, 2, 2);
            ClinkerWorks three = pileOfLayers(2, 2, 2, 2);
            three.charge(3, 0, 0, 0);
            layersAre(checks, three, 1, 1, 1, 2);
            ClinkerWorks none = pileOfLayers(2, 2, 2, 2);
            none.charge(4, 0, 0, 0);
            layersAre(checks, none, 1, 1, 1, 1);
        });
        edges.edge("LAYERS without PARTS are gone.", checks -> {
            ClinkerWorks lower = pileOfLayers(1, 1, 1, 1);
            lower.charge(2, 0, 0, 0);
            layersAre(checks, lower, 1, 1);
            checks.same("the one at the bottom now", lower.ofLayer(0, 0), 2);
            checks.same("the one at the top", lower.ofLayer(1, 0), 3);
            // 12 and 30 by 7 are 1 and 4; the one that lacks is of the bottom one.
            ClinkerWorks bottom = pileOfLayers(2, 5);
            bottom.charge(6, 0, 0, 0);
            layersAre(checks, bottom, 1);
            checks.same("the BLOCK of what is left", bottom.ofLayer(0, 0), 1);
            ClinkerWorks middle = pileOfLayers(2, 1, 2);
            middle.charge(2, 0, 0, 0);
            layersAre(checks, middle, 1, 2);
            checks.same("the bottom one", middle.ofLayer(0, 0), 0);
            checks.same("the top one", middle.ofLayer(1, 0), 2);
            middle.charge(3, 0, 0, 0);
            layersAre(checks, middle);
        });
        edges.edge("They never run out.", checks -> {
            ClinkerWorks works = Fixtures.pile(Fixtures.stone(99, 0, 0, 0, 0));
            for (int i = 0; i < 40; i++) {
                checks.same("the CHARGE " + i, works.charge(1, 3, 3, 3), 0);
                checks.same("its SILICA MODULUS", works.modulus(0, 1), 10 * 36 / 45);
                checks.same("its ALUMINA MODULUS", works.modulus(0, 2), 10 * 18 / 27);
                works.run(1);
            }
        });
    }

    /** The LAYER i is of the BLOCK i. */
    private static ClinkerWorks pileOfLayers(int... parts) {
        int[][] rows = new int[parts.length][];
        for (int i = 0; i < parts.length; i++) {
            rows[i] = Fixtures.stone(parts[i], 1, 1, 1, 1);
        }
        return Fixtures.pile(rows);
    }

    private static void layersAre(Checks checks, ClinkerWorks works, int... due) {
        checks.same("LAYERS", works.many(1), due.length);
        int sum = 0;
        for (int layer = 0; layer < due.length; layer++) {
            if (layer < works.many(1)) {
                checks.same("PARTS of the LAYER " + layer, works.ofLayer(layer, 1), due[layer]);
            }
            sum += due[layer];
        }
        checks.same("PARTS of the PILE", works.many(2), sum);
        checks.refusesIndex("no LAYER above", works, () -> works.ofLayer(due.length, 0));
    }

    // ---- part 2

    private static void charges(Edges edges) {
        edges.edge("PARTS that are CUT (1 to 9), and PARTS of the BINS (0 to 3 each)", checks -> {
            ClinkerWorks works = Fixtures.pile(Fixtures.stone(10, 1, 0, 0, 0));
            works.charge(1, 0, 0, 0);
            checks.same("1 is CUT", works.many(2), 9);
            works.charge(9, 3, 3, 3);
            checks.same("9 are CUT", works.many(2), 0);
            works.run(7);
            int[] least = {1, 0, 0, 0};
            int[] most = {9, 9 * 3 + 3 * 3, 6 * 3, 9 * 3};
            for (int oxide = 0; oxide < 4; oxide++) {
                checks.same("the least, OXIDE " + oxide, works.ofLot(0, oxide), least[oxide]);
                checks.same("the most, OXIDE " + oxide, works.ofLot(1, oxide), most[oxide]);
            }
        });
        edges.edge("it waits (at most 3 wait, one behind the other)", checks -> {
            ClinkerWorks works = Fixtures.pile(Fixtures.stone(9, 9, 1, 0, 0));
            for (int i = 0; i < 3; i++) {
                checks.same("wait", works.many(3), i);
                works.charge(1, i, 0, 0);
            }
            checks.same("wait", works.many(3), 3);
            for (int i = 0; i < 3; i++) {
                checks.same("the one at " + i, works.modulus(i, 0), 900 / (3 * (1 + 9 * i)));
            }
            checks.refusesState("a fourth", works, () -> works.charge(1, 0, 0, 0));
            works.run(1);
            checks.same("the second one is the first now", works.modulus(0, 0), 30);
            checks.same("the third one is the second", works.modulus(1, 0), 15);
            works.charge(1, 3, 0, 0);
            checks.same("the third one stays the second", works.modulus(1, 0), 15);
            checks.same("the new one is the last", works.modulus(2, 0), 900 / (3 * 28));
        });
        edges.edge("Of the BLOCKS it has the PARTS that were CUT of each.", checks -> {
            ClinkerWorks works = new ClinkerWorks();
            for (int block = 0; block < 6; block++) {
                works.block(9, 1, 1, 1, 1);
            }
            works.blast(5, 2);
            works.blast(0, 1);
            works.blast(5, 1);
            works.blast(3, 4);
            works.charge(8, 0, 0, 0);
            works.blast(1, 1);
            works.charge(1, 0, 0, 0);
            works.run(7);
            int[][] due = {{1, 0, 0, 4, 0, 3}, {0, 1, 0, 0, 0, 0}};
            for (int block = 0; block < 6; block++) {
                checks.same("of the first, the BLOCK " + block, works.ofLot(0, 16 + block), due[0][block]);
                checks.same("of the second, the BLOCK " + block, works.ofLot(1, 16 + block), due[1][block]);
            }
            for (int block = 0; block < 6; block++) {
                works.blast(block, 1);
                works.charge(1, 0, 0, 0);
                works.run(6);
                for (int other = 0; other < 6; other++) {
                    checks.same("of the BLOCK " + block + " alone, the BLOCK " + other,
                        works.ofLot(2 + block, 16 + other), other == block ? 1 : 0);
                }
            }
        });
    }

    private static void moduliWithoutDivisor(Edges edges) {
        edges.edge("999, where one would divide by 0", checks -> {
            moduliAre(checks, 999, 999, 999, Fixtures.stone(1, 9, 0, 0, 0));
            moduliAre(checks, 999, 999, 999, Fixtures.stone(1, 0, 0, 0, 0));
            moduliAre(checks, 900 / 3, 999, 999, Fixtures.stone(1, 9, 1, 0, 0));
            moduliAre(checks, 900 / 2, 0, 999, Fixtures.stone(1, 9, 0, 1, 0));
            moduliAre(checks, 900, 0, 0, Fixtures.stone(1, 9, 0, 0, 1));
        });
    }

    private static void moduliAre(Checks checks, int saturation, int silica, int alumina, int[]... rows) {
        ClinkerWorks works = Fixtures.charged(rows);
        checks.same("SATURATION", works.modulus(0, 0), saturation);
        checks.same("SILICA MODULUS", works.modulus(0, 1), silica);
        checks.same("ALUMINA MODULUS", works.modulus(0, 2), alumina);
    }

    /** Each edge by a CHARGE that is well within the bounds of the two other MODULI. */
    private static void rightOnes(Edges edges) {
        edges.edge("A CHARGE is RIGHT with a SATURATION of 80 to 110", checks -> {
            // 3800 by 48, 4000 by 50, 4400 by 40 and 5000 by 45
            rightIs(checks, 0, 79, false, 38, 13, 3, 3);
            rightIs(checks, 0, 80, true, 40, 13, 4, 3);
            rightIs(checks, 0, 110, true, 44, 10, 3, 4);
            rightIs(checks, 0, 111, false, 50, 12, 3, 3);
        });
        edges.edge("a SILICA MODULUS of 12 to 40", checks -> {
            rightIs(checks, 1, 11, false, 45, 11, 5, 5);
            rightIs(checks, 1, 12, true, 45, 12, 5, 5);
            rightIs(checks, 1, 40, true, 70, 24, 3, 3);
            rightIs(checks, 1, 41, false, 70, 25, 3, 3);
        });
        edges.edge("an ALUMINA MODULUS of 5 to 40", checks -> {
            rightIs(checks, 2, 4, false, 36, 10, 2, 5);
            rightIs(checks, 2, 5, true, 30, 8, 2, 4);
            rightIs(checks, 2, 40, true, 30, 8, 4, 1);
            // None of 41 or 42 has both other MODULI right with 9 PARTS that have 9 LIME each.
            rightIs(checks, 2, 43, false, 75, 21, 13, 3);
        });
    }

    private static void rightIs(Checks checks, int which, int due, boolean right, int... oxides) {
        ClinkerWorks works = Fixtures.charged(Fixtures.having(oxides));
        int[] least = {80, 12, 5};
        int[] most = {110, 40, 40};
        for (int other = 0; other < 3; other++) {
            int modulus = works.modulus(0, other);
            if (other != which) {
                checks.yes("the MODULUS " + other + " is well within", modulus > least[other] && modulus < most[other]);
            }
        }
        checks.same("the MODULUS " + which, works.modulus(0, which), due);
        checks.same("RIGHT with " + due, works.modulus(0, 3), right ? 1 : 0);
    }

    private static void inTheKiln(Edges edges) {
        edges.edge("RAW (its LIME at first), FREE lime, BELITE and ALITE (0), and SAND (its SILICA at first)", checks -> {
            ClinkerWorks works = Fixtures.charged(Fixtures.stone(3, 9, 4, 2, 1));
            works.run(1);
            int[] due = {27, 0, 12, 0, 0, 9};
            for (int what = 2; what < 8; what++) {
                checks.same("ofCell(0, " + what + ")", works.ofCell(0, what), due[what - 2]);
            }
        });
    }

    // ---- promises 2 to 5

    private static void block(Edges edges) {
        edges.edge("Throws IllegalArgumentException if stone is not 0 to 200, or another one not 0 to 9", checks -> {
            ClinkerWorks works = new ClinkerWorks();
            for (int wrong : new int[] {-1, 201, BEYOND_INT[0], BEYOND_INT[1]}) {
                checks.refusesArgument("stone " + wrong, works, () -> works.block(wrong, 1, 1, 1, 1));
            }
            for (int wrong : new int[] {-1, 10, BEYOND_INT[0], BEYOND_INT[1]}) {
                checks.refusesArgument("lime " + wrong, works, () -> works.block(9, wrong, 1, 1, 1));
                checks.refusesArgument("silica " + wrong, works, () -> works.block(9, 1, wrong, 1, 1));
                checks.refusesArgument("alumina " + wrong, works, () -> works.block(9, 1, 1, wrong, 1));
                checks.refusesArgument("iron " + wrong, works, () -> works.block(9, 1, 1, 1, wrong));
            }
            checks.same("no BLOCK by that", works.block(9, 1, 1, 1, 1), 0);
        });
        edges.edge("Throws IllegalStateException if there are 6", checks -> {
            ClinkerWorks works = new ClinkerWorks();
            for (int i = 0; i < 5; i++) {
                works.block(9, 1, 1, 1, 1);
            }
            checks.same("there are 5", works.block(9, 1, 1, 1, 1), 5);
            checks.refusesState("there are 6", works, () -> works.block(9, 1, 1, 1, 1));
            checks.refusesState("there are 6, of the least", works, () -> works.block(0, 0, 0, 0, 0));
        });
    }

    private static void drill(Edges edges) {
        edges.edge("Returns whether it was not KNOWN.", checks -> {
            ClinkerWorks works = new ClinkerWorks();
            works.block(0, 1, 1, 1, 1);
            works.block(9, 1, 1, 1, 1);
            checks.yes("the first time, without STONE", works.drill(0));
            checks.no("the second time", works.drill(0));
            works.blast(1, 1);
            checks.no("BLASTED", works.drill(1));
        });
        edges.edge("Throws IndexOutOfBoundsException if there is no such BLOCK", checks -> {
            ClinkerWorks works = new ClinkerWorks();
            checks.refusesIndex("0 of none", works, () -> works.drill(0));
            for (int i = 0; i < 6; i++) {
                int next = i;
                checks.refusesIndex("not told yet", works, () -> works.drill(next));
                works.block(1, 1, 1, 1, 1);
            }
            for (int wrong : new int[] {-1, 6, BEYOND_INT[0], BEYOND_INT[1]}) {
                checks.refusesIndex("drill(" + wrong + ")", works, () -> works.drill(wrong));
            }
            checks.yes("the last one", works.drill(5));
        });
    }

    private static void blast(Edges edges) {
        edges.edge("Returns how many came onto the PILE.", checks -> {
            ClinkerWorks works = new ClinkerWorks();
            works.block(100, 1, 1, 1, 1);
            checks.same("the most", works.blast(0, 99), 99);
            checks.same("less than was asked", works.blast(0, 99), 1);
        });
        edges.edge("Throws IndexOutOfBoundsException if there is no such BLOCK", checks -> {
            ClinkerWorks works = new ClinkerWorks();
            checks.refusesIndex("0 of none", works, () -> works.blast(0, 1));
            works.block(9, 1, 1, 1, 1);
            for (int wrong : new int[] {-1, 1, 6, BEYOND_INT[0], BEYOND_INT[1]}) {
                checks.refusesIndex("blast(" + wrong + ", 1)", works, () -> works.blast(wrong, 1));
                checks.refusesIndex("blast(" + wrong + ", 0)", works, () -> works.blast(wrong, 0));
            }
        });
        edges.edge("Throws IllegalArgumentException if parts is not 1 to 99", checks -> {
            ClinkerWorks works = new ClinkerWorks();
            works.block(200, 1, 1, 1, 1);
            works.block(0, 1, 1, 1, 1);
            for (int wrong : new int[] {0, -1, 100, BEYOND_INT[0], BEYOND_INT[1]}) {
                checks.refusesArgument("parts " + wrong, works, () -> works.blast(0, wrong));
                checks.refusesArgument("parts, no STONE, " + wrong, works, () -> works.blast(1, wrong));
            }
            checks.same("1", works.blast(0, 1), 1);
            checks.same("99", works.blast(0, 99), 99);
        });
        edges.edge("Throws IllegalStateException if it has no STONE, or there are 8 LAYERS", checks -> {
            ClinkerWorks works = new ClinkerWorks();
            works.block(0, 1, 1, 1, 1);
            works.block(1, 1, 1, 1, 1);
            works.block(20, 1, 1, 1, 1);
            checks.refusesState("no STONE", works, () -> works.blast(0, 1));
            checks.same("the last STONE", works.blast(1, 1), 1);
            checks.refusesState("no STONE any more", works, () -> works.blast(1, 1));
            for (int i = 1; i < 8; i++) {
                checks.same("STONE", works.blast(2, 1), 1);
            }
            checks.refusesState("8 LAYERS", works, () -> works.blast(2, 1));
            works.charge(1, 0, 0, 0);
            checks.same("7 LAYERS", works.many(1), 7);
            checks.same("room again", works.blast(2, 2), 2);
        });
    }

    private static void charge(Edges edges) {
        edges.edge("Returns its SATURATION.", checks -> {
            ClinkerWorks works = Fixtures.pile(Fixtures.stone(9, 9, 0, 0, 0));
            checks.same("by 0", works.charge(1, 0, 0, 0), 999);
            checks.same("900 by 27", works.charge(1, 1, 0, 0), 33);
        });
        edges.edge("Throws IllegalArgumentException if cut is not 1 to 9, or another one not 0 to 3", checks -> {
            ClinkerWorks works = Fixtures.pile(Fixtures.stone(99, 9, 1, 1, 1));
            for (int wrong : new int[] {0, -1, 10, BEYOND_INT[0], BEYOND_INT[1]}) {
                checks.refusesArgument("cut " + wrong, works, () -> works.charge(wrong, 0, 0, 0));
            }
            for (int wrong : new int[] {-1, 4, BEYOND_INT[0], BEYOND_INT[1]}) {
                checks.refusesArgument("one " + wrong, works, () -> works.charge(1, wrong, 0, 0));
                checks.refusesArgument("two " + wrong, works, () -> works.charge(1, 0, wrong, 0));
                checks.refusesArgument("three " + wrong, works, () -> works.charge(1, 0, 0, wrong));
            }
            checks.same("none waits by that", works.many(3), 0);
        });
        edges.edge("Throws IllegalStateException if the PILE has not so many, or 3 wait", checks -> {
            ClinkerWorks works = new ClinkerWorks();
            checks.refusesState("no PILE", works, () -> works.charge(1, 0, 0, 0));
            works.block(20, 9, 1, 1, 1);
            works.blast(0, 2);
            works.blast(0, 2);
            checks.refusesState("5 of 4", works, () -> works.charge(5, 0, 0, 0));
            checks.same("4 of 4", works.charge(4, 0, 0, 0), 150);
            works.blast(0, 9);
            works.charge(1, 0, 0, 0);
            checks.same("2 wait", works.charge(1, 0, 0, 0), 150);
            checks.refusesState("3 wait", works, () -> works.charge(1, 0, 0, 0));
            works.run(1);
            checks.same("2 wait again", works.charge(1, 0, 0, 0), 150);
        });
    }
}

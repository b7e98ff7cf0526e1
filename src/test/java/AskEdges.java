/** The edges of the promises 15 to 28: what one asks, and what would be. */
final class AskEdges {
    private AskEdges() {
    }

    static void all(Edges edges) {
        ofBlock(edges);
        ofLayer(edges);
        ofCell(edges);
        ofLot(edges);
        ofLotRefuses(edges);
        modulus(edges);
        row(edges);
        many(edges);
        theWindow(edges);
        thought(edges);
        bestCharge(edges);
        bestChargeRefuses(edges);
        freeAfter(edges);
        letFall(edges);
        edges.of("Promise 28");
        digestOfEdges(edges);
        digestAhead(edges);
    }

    private static int[] beside(int least, int most) {
        return new int[] {least - 1, most + 1, Integer.MIN_VALUE, Integer.MAX_VALUE};
    }

    // ---- promises 15 to 18

    private static void ofBlock(Edges edges) {
        edges.of("Promise 15");
        edges.edge("1 1 if it is KNOWN, otherwise 0, 2 to 5 what is THOUGHT (or KNOWN) of the OXIDES 0 to 3 in a PART",
            checks -> {
                ClinkerWorks works = new ClinkerWorks();
                works.block(50, 9, 8, 7, 6);
                int[][] due = {{50, 0, 5, 2, 1, 0}, {50, 1, 9, 8, 7, 6}};
                for (int known = 0; known < 2; known++) {
                    for (int what = 0; what <= 5; what++) {
                        checks.same("KNOWN " + known + ", what " + what, works.ofBlock(0, what), due[known][what]);
                    }
                    works.drill(0);
                }
            });
        edges.edge("Throws IndexOutOfBoundsException if there is no such BLOCK", checks -> {
            ClinkerWorks works = new ClinkerWorks();
            checks.refusesIndex("0 of none", works, () -> works.ofBlock(0, 0));
            works.block(1, 1, 1, 1, 1);
            for (int wrong : beside(0, 0)) {
                checks.refusesIndex("ofBlock(" + wrong + ", 0)", works, () -> works.ofBlock(wrong, 0));
            }
            checks.refusesIndex("ofBlock(5, 0)", works, () -> works.ofBlock(5, 0));
        });
        edges.edge("Throws IllegalArgumentException if what is not 0 to 5", checks -> {
            ClinkerWorks works = new ClinkerWorks();
            works.block(1, 1, 1, 1, 1);
            for (int wrong : beside(0, 5)) {
                checks.refusesArgument("ofBlock(0, " + wrong + ")", works, () -> works.ofBlock(0, wrong));
                works.drill(0);
            }
        });
    }

    private static void ofLayer(Edges edges) {
        edges.of("Promise 16");
        edges.edge("a LAYER, the bottom one 0", checks -> {
            ClinkerWorks works = Fixtures.pile(Fixtures.stone(3, 1, 1, 1, 1), Fixtures.stone(5, 1, 1, 1, 1));
            checks.same("the BLOCK of the bottom one", works.ofLayer(0, 0), 0);
            checks.same("its PARTS", works.ofLayer(0, 1), 3);
            checks.same("the BLOCK of the top one", works.ofLayer(1, 0), 1);
            checks.same("its PARTS", works.ofLayer(1, 1), 5);
        });
        edges.edge("Throws IndexOutOfBoundsException if there is no such LAYER", checks -> {
            ClinkerWorks works = new ClinkerWorks();
            works.block(200, 1, 1, 1, 1);
            checks.refusesIndex("0 of none", works, () -> works.ofLayer(0, 0));
            works.blast(0, 9);
            for (int wrong : beside(0, 0)) {
                checks.refusesIndex("ofLayer(" + wrong + ", 0)", works, () -> works.ofLayer(wrong, 0));
            }
            for (int i = 1; i < 8; i++) {
                works.blast(0, 1);
            }
            checks.same("the eighth", works.ofLayer(7, 1), 1);
            checks.refusesIndex("no ninth", works, () -> works.ofLayer(8, 0));
            works.charge(8, 0, 0, 0);
            works.charge(8, 0, 0, 0);
            checks.refusesIndex("all are gone", works, () -> works.ofLayer(0, 0));
        });
        edges.edge("Throws IllegalArgumentException if what is not 0 or 1", checks -> {
            ClinkerWorks works = Fixtures.pile(Fixtures.stone(3, 1, 1, 1, 1));
            for (int wrong : beside(0, 1)) {
                checks.refusesArgument("ofLayer(0, " + wrong + ")", works, () -> works.ofLayer(0, wrong));
            }
        });
    }

    private static void ofCell(Edges edges) {
        edges.of("Promise 17");
        edges.edge("1 1 if it has a CHARGE, otherwise 0; of that (0 without one)", checks -> {
            // 3 and 5 are FREE; 1 and 2 are BELITE, which is all SAND; 1 is ALITE.
            ClinkerWorks works = Fixtures.burnt(new int[] {0, 0, 0, 8, 2}, Fixtures.stone(1, 9, 3, 2, 1),
                Fixtures.stone(1, 9, 0, 0, 0));
            int[] due = {9, 1, 10, 1, 0, 2, 1, 3};
            for (int what = 0; what <= 7; what++) {
                checks.same("a CHARGE, what " + what, works.ofCell(4, what), due[what]);
            }
            works.run(1);
            for (int cell = 0; cell < 5; cell++) {
                for (int what = 1; what <= 7; what++) {
                    checks.same("none, ofCell(" + cell + ", " + what + ")", works.ofCell(cell, what), 0);
                }
            }
            checks.yes("WARMTH without one", works.ofCell(4, 0) > 0);
            ClinkerWorks bare = Fixtures.charged(Fixtures.stone(1, 0, 0, 0, 0));
            bare.run(1);
            checks.same("a CHARGE that has nothing", bare.ofCell(0, 1), 1);
        });
        edges.edge("Throws IndexOutOfBoundsException if cell is not 0 to 4", checks -> {
            ClinkerWorks works = new ClinkerWorks();
            for (int wrong : beside(0, 4)) {
                checks.refusesIndex("ofCell(" + wrong + ", 0)", works, () -> works.ofCell(wrong, 0));
            }
        });
        edges.edge("Throws IllegalArgumentException if what is not 0 to 7", checks -> {
            ClinkerWorks works = Fixtures.charged(Fixtures.stone(1, 1, 1, 1, 1));
            works.run(1);
            for (int wrong : beside(0, 7)) {
                checks.refusesArgument("with a CHARGE, " + wrong, works, () -> works.ofCell(0, wrong));
                checks.refusesArgument("without one, " + wrong, works, () -> works.ofCell(4, wrong));
            }
        });
    }

    private static void ofLot(Edges edges) {
        edges.of("Promise 18");
        edges.edge("(9 to 11: NONE, if it was not ground; they stay as it is sold out)", checks -> {
            ClinkerWorks works = Fixtures.coldLots(5);
            int[] due = {7, 3, 1};
            for (int what = 9; what <= 11; what++) {
                checks.same("not ground, " + what, works.ofLot(0, what), -1);
            }
            works.grind(0, 7, 3, 1);
            for (int what = 9; what <= 11; what++) {
                checks.same("ground, " + what, works.ofLot(0, what), due[what - 9]);
            }
            works.sell(1, 5);
            for (int what = 9; what <= 11; what++) {
                checks.same("sold out, " + what, works.ofLot(0, what), due[what - 9]);
            }
        });
        edges.edge("12 SACKS that are left (0, if it was not ground)", checks -> {
            ClinkerWorks works = Fixtures.coldLots(5);
            checks.same("not ground", works.ofLot(0, 12), 0);
            works.grind(0, 7, 3, 1);
            checks.same("ground", works.ofLot(0, 12), 5);
            works.sell(1, 4);
            checks.same("one is left", works.ofLot(0, 12), 1);
            works.sell(1, 1);
            checks.same("sold out", works.ofLot(0, 12), 0);
        });
        edges.edge("13 to 15 what was FOUND at the AGES 0 to 2 (NONE)", checks -> {
            int[] due = {18, 9, 0};
            for (int age = 0; age < 3; age++) {
                ClinkerWorks works = Fixtures.coldLots(5);
                works.grind(0, 9, 2, 1);
                works.cube(0, age);
                for (int other = 0; other < 3; other++) {
                    checks.same("BROKEN at " + age + ", FOUND at " + other, works.ofLot(0, 13 + other),
                        other == age ? due[age] : -1);
                }
            }
        });
        edges.edge("16 to 21 PARTS of the BLOCKS 0 to 5", checks -> {
            ClinkerWorks works = Fixtures.charged(Fixtures.stone(1, 1, 1, 1, 1), Fixtures.stone(2, 1, 1, 1, 1),
                Fixtures.stone(3, 1, 1, 1, 1));
            works.run(6);
            int[] due = {1, 2, 3, 0, 0, 0};
            for (int block = 0; block < 6; block++) {
                checks.same("PARTS of the BLOCK " + block, works.ofLot(0, 16 + block), due[block]);
            }
        });
    }

    private static void ofLotRefuses(Edges edges) {
        edges.edge("Throws IndexOutOfBoundsException if there is no such LOT", checks -> {
            ClinkerWorks works = Fixtures.charged(Fixtures.stone(1, 1, 1, 1, 1));
            works.run(5);
            checks.refusesIndex("it is in the kiln still", works, () -> works.ofLot(0, 0));
            works.run(1);
            checks.same("it came out", works.ofLot(0, 0), 1);
            for (int wrong : beside(0, 0)) {
                checks.refusesIndex("ofLot(" + wrong + ", 0)", works, () -> works.ofLot(wrong, 0));
            }
            checks.refusesIndex("ofLot(11, 0)", works, () -> works.ofLot(11, 0));
        });
        edges.edge("Throws IllegalArgumentException if what is not 0 to 21", checks -> {
            ClinkerWorks works = Fixtures.coldLots(5);
            for (int wrong : beside(0, 21)) {
                checks.refusesArgument("ofLot(0, " + wrong + ")", works, () -> works.ofLot(0, wrong));
            }
        });
    }

    // ---- promises 19 to 21

    private static void modulus(Edges edges) {
        edges.of("Promise 19");
        edges.edge("one that waits, the first one 0", checks -> {
            ClinkerWorks works = Fixtures.pile(Fixtures.stone(9, 9, 1, 0, 0));
            for (int i = 0; i < 3; i++) {
                works.charge(1, i, 0, 0);
            }
            checks.same("the first", works.modulus(0, 0), 300);
            checks.same("the second", works.modulus(1, 0), 30);
            checks.same("the third", works.modulus(2, 0), 15);
            works.run(1);
            checks.same("the second is the first now", works.modulus(0, 0), 30);
        });
        edges.edge("Throws IndexOutOfBoundsException if there is no such one", checks -> {
            ClinkerWorks works = Fixtures.pile(Fixtures.stone(9, 9, 1, 0, 0));
            for (int waiting = 0; waiting <= 3; waiting++) {
                for (int wrong : beside(0, waiting - 1)) {
                    checks.refusesIndex(waiting + " wait, " + wrong, works, () -> works.modulus(wrong, 0));
                }
                if (waiting < 3) {
                    works.charge(1, 0, 0, 0);
                }
            }
            works.run(3);
            checks.refusesIndex("all are in the kiln", works, () -> works.modulus(0, 0));
        });
        edges.edge("Throws IllegalArgumentException if what is not 0 to 3", checks -> {
            ClinkerWorks works = Fixtures.charged(Fixtures.stone(1, 1, 1, 1, 1));
            for (int wrong : beside(0, 3)) {
                checks.refusesArgument("modulus(0, " + wrong + ")", works, () -> works.modulus(0, wrong));
            }
        });
    }

    private static void row(Edges edges) {
        edges.of("Promise 20");
        edges.edge("Returns that LOT; NONE without one.", checks -> {
            ClinkerWorks works = Fixtures.coldLots(1, 2, 3, 4, 5, 6, 7, 8, 9, 1, 2, 3);
            checks.same("of an empty SILO", works.row(0, 0), -1);
            for (int lot = 0; lot < 12; lot++) {
                works.grind(lot, 5, 2, 0);
                checks.same("the last one", works.row(0, lot), lot);
                checks.same("none behind it", works.row(0, lot + 1), -1);
            }
            checks.same("far behind", works.row(0, Integer.MAX_VALUE), -1);
            checks.same("the other SILO", works.row(1, 0), -1);
            works.sell(0, 3);
            checks.same("the third is the first now", works.row(0, 0), 2);
            checks.same("the last one", works.row(0, 9), 11);
            checks.same("none behind it", works.row(0, 10), -1);
        });
        edges.edge("Throws IndexOutOfBoundsException if silo is not 0 or 1", checks -> {
            ClinkerWorks works = new ClinkerWorks();
            for (int wrong : beside(0, 1)) {
                checks.refusesIndex("row(" + wrong + ", 0)", works, () -> works.row(wrong, 0));
            }
        });
        edges.edge("Throws IllegalArgumentException if k is below 0", checks -> {
            ClinkerWorks works = Fixtures.coldLots(5);
            works.grind(0, 5, 2, 0);
            for (int wrong : new int[] {-1, -2, Integer.MIN_VALUE}) {
                checks.refusesArgument("row(0, " + wrong + ")", works, () -> works.row(0, wrong));
                checks.refusesArgument("row(1, " + wrong + ")", works, () -> works.row(1, wrong));
            }
            checks.same("0", works.row(0, 0), 0);
        });
    }

    private static void many(Edges edges) {
        edges.of("Promise 21");
        edges.edge("16 1 if the SILO 0 is SHUT, and 2 if the SILO 1 is, together", checks -> {
            int[][] shut = {{}, {0}, {1}, {0, 1}};
            for (int due = 0; due < 4; due++) {
                ClinkerWorks works = Fixtures.coldLots(5, 5);
                for (int silo : shut[due]) {
                    works.grind(silo, 5, 2, silo);
                    works.cube(silo, 2);
                }
                checks.same("SHUT", works.many(16), due);
            }
        });
        edges.edge("15 how many are in the WINDOW", checks -> {
            ClinkerWorks works = Fixtures.coldLots(1, 1, 1, 1, 1, 1, 1);
            int[] due = {1, 2, 3, 4, 5, 6, 6};
            checks.same("none", works.many(15), 0);
            for (int lot = 0; lot < 7; lot++) {
                works.grind(lot, 5, 2, 0);
                works.cube(lot, 2);
                checks.same("behind the LOT " + lot, works.many(15), due[lot]);
            }
        });
        edges.edge("Throws IllegalArgumentException if what is not 0 to 17", checks -> {
            ClinkerWorks works = new ClinkerWorks();
            for (int wrong : beside(0, 17)) {
                checks.refusesArgument("many(" + wrong + ")", works, () -> works.many(wrong));
            }
            checks.same("0", works.many(0), 0);
            checks.same("17", works.many(17), 6);
        });
    }

    // ---- promises 22 to 24

    private static void theWindow(Edges edges) {
        edges.of("Promise 22");
        edges.edge("Returns the mean of the WINDOW, not rounded; 0 without any.", checks -> {
            ClinkerWorks works = Fixtures.burntLots(2, 3, 9, 2, 2, 5, 9);
            checks.same("without any", works.meanFound(), 0.0);
            // FOUND are 10, 7, 0, 10, 10, 1 and 0; the seventh pushes the first out.
            double[] due = {10, 8.5, 17 / 3.0, 27 / 4.0, 37 / 5.0, 38 / 6.0, 28 / 6.0};
            for (int lot = 0; lot < 7; lot++) {
                works.cube(lot, 2);
                checks.same("behind the LOT " + lot, works.meanFound(), due[lot]);
            }
            ClinkerWorks none = Fixtures.coldLots(1);
            none.grind(0, 5, 2, 0);
            none.cube(0, 2);
            checks.same("of 0 alone", none.meanFound(), 0.0);
        });
        edges.of("Promise 23");
        edges.edge("Returns whether it is CONFORM.", checks -> {
            ClinkerWorks works = Fixtures.burntLots(2);
            checks.yes("without any", works.isConform());
            works.cube(0, 2);
            works.standard(10);
            checks.yes("10 by 10", works.isConform());
            works.standard(11);
            checks.no("10 by 11", works.isConform());
        });
    }

    private static void thought(Edges edges) {
        edges.of("Promise 24");
        edges.edge("Returns what is THOUGHT of its AGE 2 (it can be below 0).", checks -> {
            ClinkerWorks works = Fixtures.coldLots(1, 1, 1);
            int[] fineness = {9, 8, 9};
            for (int lot = 0; lot < 3; lot++) {
                works.grind(lot, fineness[lot], lot == 1 ? 4 : 2, 0);
                works.cube(lot, 1);
            }
            checks.same("without any other", works.thought(1), 2 + 10);
            works.cube(0, 2);
            checks.same("below 0", works.thought(1), 2 - 9);
            checks.same("just 0", works.thought(2), 0);
            checks.same("its AGE 2 is not FOUND by that", works.ofLot(1, 15), -1);
        });
        edges.edge("Throws IndexOutOfBoundsException if there is no such LOT", checks -> {
            ClinkerWorks none = new ClinkerWorks();
            checks.refusesIndex("0 of none", none, () -> none.thought(0));
            ClinkerWorks works = Fixtures.coldLots(1);
            works.grind(0, 5, 2, 0);
            works.cube(0, 1);
            for (int wrong : beside(0, 0)) {
                checks.refusesIndex("thought(" + wrong + ")", works, () -> works.thought(wrong));
            }
        });
        edges.edge("Throws IllegalStateException if nothing was FOUND at its AGE 1", checks -> {
            ClinkerWorks works = Fixtures.coldLots(1, 1);
            checks.refusesState("not ground", works, () -> works.thought(0));
            works.grind(0, 1, 9, 0);
            checks.refusesState("nothing was BROKEN", works, () -> works.thought(0));
            works.cube(0, 0);
            works.cube(0, 2);
            checks.refusesState("the AGES 0 and 2 alone", works, () -> works.thought(0));
            checks.same("FOUND of 0", works.cube(0, 1), 0);
            checks.same("that, and 10", works.thought(0), 10);
        });
    }

    // ---- promise 25

    private static int best(int... oxides) {
        return Fixtures.pile(Fixtures.having(oxides)).bestCharge(9);
    }

    private static void bestCharge(Edges edges) {
        edges.of("Promise 25");
        edges.edge("with the fewest PARTS of BINS (whether or not 3 wait)", checks -> {
            checks.same("none, or one of 2", best(61, 14, 5, 3), 0);
            checks.same("one of 1, or one of both", best(61, 5, 5, 3), 100);
            checks.same("two, or three", best(65, 3, 0, 3), 110);
            checks.same("three, or four", best(69, 0, 0, 2), 210);
            checks.same("three of one BIN", best(75, 0, 5, 2), 300);
            checks.same("four", best(68, 0, 0, 0), 211);
            ClinkerWorks works = Fixtures.pile(Fixtures.stone(40, 9, 0, 0, 0));
            for (int waiting = 0; waiting <= 3; waiting++) {
                checks.same(waiting + " wait", works.many(3), waiting);
                checks.same("LIME alone", works.bestCharge(9), 211);
                if (waiting < 3) {
                    works.charge(1, 0, 0, 0);
                }
            }
            checks.same("nothing is CUT by that", works.many(2), 37);
        });
        edges.edge("of several the smallest number", checks -> {
            checks.same("10 and 100", best(54, 11, 2, 3), 10);
            checks.same("20 and 110", best(70, 12, 0, 3), 20);
            checks.same("110 and 200", best(54, 2, 2, 3), 110);
            checks.same("120 and 210", best(70, 3, 0, 3), 120);
            checks.same("210 and 300", best(73, 0, 3, 4), 210);
        });
        edges.edge("NONE without one", checks -> {
            checks.same("no LIME", best(0, 9, 9, 9), -1);
            checks.same("nothing at all", best(0, 0, 0, 0), -1);
            checks.same("a PART of the BIN 1 too much as it is", best(36, 16, 0, 2), -1);
            checks.same("a PART of the BIN 2 too much as it is", best(30, 1, 8, 3), -1);
            checks.same("a PART of the BIN 3 too much as it is", best(30, 0, 1, 11), -1);
            ClinkerWorks works = Fixtures.pile(Fixtures.stone(9, 9, 0, 0, 0));
            checks.same("too little LIME for additions", works.bestCharge(1), -1);
            checks.same("with additions", works.bestCharge(9), 211);
        });
    }

    private static void bestChargeRefuses(Edges edges) {
        edges.edge("Throws IllegalArgumentException if cut is not 1 to 9", checks -> {
            ClinkerWorks works = Fixtures.pile(Fixtures.stone(40, 9, 0, 0, 0));
            for (int wrong : beside(1, 9)) {
                checks.refusesArgument("bestCharge(" + wrong + ")", works, () -> works.bestCharge(wrong));
            }
        });
        edges.edge("Throws IllegalStateException if the PILE has not so many", checks -> {
            ClinkerWorks works = new ClinkerWorks();
            checks.refusesState("no PILE", works, () -> works.bestCharge(1));
            works.block(9, 9, 0, 0, 0);
            works.blast(0, 4);
            works.blast(0, 4);
            checks.refusesState("9 of 8", works, () -> works.bestCharge(9));
            works.blast(0, 1);
            checks.same("9 of 9", works.bestCharge(9), 211);
        });
    }

    // ---- promises 26 and 27

    /** A hot kiln with two CHARGES, the first one in the CELL 0: they would come out by the STEPS 5 and 6 from now on. */
    private static ClinkerWorks twoInTheKiln() {
        ClinkerWorks works = Fixtures.pile(Fixtures.stone(20, 9, 0, 0, 0));
        works.coal(999);
        works.flame(9);
        works.run(3);
        works.charge(9, 0, 0, 0);
        works.charge(8, 0, 0, 0);
        works.flame(1);
        works.run(1);
        return works;
    }

    private static int freeByRun(int steps, int flame) {
        ClinkerWorks works = twoInTheKiln();
        works.flame(flame);
        works.run(steps);
        return works.many(10) == 0 ? -1 : works.ofLot(works.many(10) - 1, 5);
    }

    private static void freeAfter(Edges edges) {
        edges.of("Promise 26");
        edges.edge("Returns the FREE lime of the last CHARGE that would come out in these STEPS with that FLAME from now "
            + "on; NONE without one.", checks -> {
                ClinkerWorks works = twoInTheKiln();
                for (int steps = 1; steps <= 12; steps++) {
                    for (int flame = 0; flame <= 9; flame++) {
                        int due = freeByRun(steps, flame);
                        checks.yes("some come out, by " + steps, (due != -1) == (steps >= 5));
                        checks.same("freeAfter(" + steps + ", " + flame + ")", works.freeAfter(steps, flame), due);
                    }
                }
                checks.yes("the last one differs", freeByRun(5, 9) != freeByRun(6, 9));
                checks.yes("the FLAME tells", freeByRun(6, 8) != freeByRun(6, 9));
                checks.same("the FLAME stays", works.many(4), 1);
                checks.same("NOW stays", works.many(6), 4);
                checks.same("none in an empty kiln", new ClinkerWorks().freeAfter(12, 9), -1);
                checks.same("none, as the RING has BLOCKED", Fixtures.withRing(6).freeAfter(12, 9), -1);
                ClinkerWorks full = Fixtures.coldLots(1, 1, 1, 1, 1, 1, 1, 1, 1, 1, 1, 1);
                full.charge(1, 0, 0, 0);
                checks.same("one that would be DUMPED", full.freeAfter(6, 0), 0);
                checks.same("a STEP too few", full.freeAfter(5, 0), -1);
            });
        edges.edge("Throws IllegalArgumentException if steps is not 1 to 12, or flame not 0 to 9", checks -> {
            ClinkerWorks works = twoInTheKiln();
            for (int wrong : beside(1, 12)) {
                checks.refusesArgument("steps " + wrong, works, () -> works.freeAfter(wrong, 5));
            }
            for (int wrong : beside(0, 9)) {
                checks.refusesArgument("flame " + wrong, works, () -> works.freeAfter(5, wrong));
            }
        });
    }

    /** In how many STEPS the RING will FALL, by a FLAME of 0; the works goes on by that. */
    private static int stepsToFall(ClinkerWorks works) {
        int before = works.many(8);
        works.flame(0);
        for (int steps = 1; steps <= 12; steps++) {
            works.run(1);
            if (works.many(8) > before) {
                return steps;
            }
        }
        return -1;
    }

    private static void letFall(Edges edges) {
        edges.of("Promise 27");
        edges.edge("Returns the smallest FLAME with which the RING would FALL in so many STEPS; NONE without one (or without "
            + "a RING).", checks -> {
                int falls = stepsToFall(Fixtures.withRing(6));
                checks.yes("it takes some STEPS: " + falls, falls > 1 && falls < 12);
                ClinkerWorks works = Fixtures.withRing(6);
                for (int steps = 1; steps <= 12; steps++) {
                    checks.same("letFall(" + steps + ")", works.letFall(steps), steps < falls ? -1 : 0);
                }
                checks.same("a STEP too few, once more", works.letFall(falls - 1), -1);
                checks.same("nothing FELL by that", works.many(8), 0);
                checks.same("the RING stays", works.many(7), 6);
                checks.same("the FLAME stays", works.many(4), 9);
                checks.same("without a RING", new ClinkerWorks().letFall(12), -1);
                ClinkerWorks noCoal = Fixtures.inCellThree(0, 3, 3);
                noCoal.flame(9);
                for (int i = 0; i < 4; i++) {
                    noCoal.run(30);
                }
                checks.same("a hot kiln without a RING", noCoal.letFall(12), -1);
            });
        edges.edge("NONE without one (or without a RING)", checks -> {
            ClinkerWorks again = Fixtures.withRing(2);
            checks.same("the first RING", again.letFall(12), 0);
            again.flame(0);
            again.run(12);
            checks.same("it FELL", again.many(8), 1);
            checks.same("without a RING", again.letFall(12), -1);
            again.flame(9);
            again.charge(1, 0, 0, 0);
            again.run(4);
            checks.same("the second RING", again.many(7), 1);
            checks.same("within one STEP", again.letFall(1), -1);
            checks.same("within twelve", again.letFall(12), 0);
        });
        edges.edge("(or without a RING)", checks -> {
            // One would grow by the next CHARGE, and FALL; but now there is none.
            checks.yes("it would FALL", stepsToFall(hammeredAheadOfACharge()) > 0);
            checks.same("letFall(12)", hammeredAheadOfACharge().letFall(12), -1);
        });
        edges.edge("Throws IllegalArgumentException if steps is not 1 to 12", checks -> {
            ClinkerWorks works = Fixtures.withRing(1);
            ClinkerWorks none = new ClinkerWorks();
            for (int wrong : beside(1, 12)) {
                checks.refusesArgument("letFall(" + wrong + ")", works, () -> works.letFall(wrong));
                checks.refusesArgument("without a RING, letFall(" + wrong + ")", none, () -> none.letFall(wrong));
            }
        });
    }

    private static ClinkerWorks hammeredAheadOfACharge() {
        ClinkerWorks works = Fixtures.withRing(1);
        works.charge(1, 0, 0, 0);
        works.run(3);
        works.hammer();
        return works;
    }

    // ---- promise 28

    private static void digestIsDue(Checks checks, String when, ClinkerWorks works) {
        long got = works.digest();
        checks.same(when, got, DueDigest.of(works));
        checks.same(when + ", once more", works.digest(), got);
    }

    private static void digestOfEdges(Edges edges) {
        edges.edge("A number d starts with 5407", checks -> {
            digestIsDue(checks, "a new object", new ClinkerWorks());
            checks.same("a new object", new ClinkerWorks().digest(), -9215206241319516356L);
        });
        edges.edge("(a boolean as 1 or 0), which wraps around as a 64-bit integer", checks -> {
            ClinkerWorks works = Fixtures.burntLots(2, 5);
            checks.yes("far beyond 64 bits", DueDigest.unbounded(works).bitLength() > 128);
            digestIsDue(checks, "CONFORM", works);
            works.cube(1, 2);
            checks.no("not CONFORM", works.isConform());
            digestIsDue(checks, "not CONFORM", works);
        });
        edges.edge("BLOCK by BLOCK ofBlock() of 0 to 5; LAYER by LAYER ofLayer() of 0 and 1", checks -> {
            for (int count = 0; count <= 6; count++) {
                ClinkerWorks works = new ClinkerWorks();
                for (int i = 0; i < count; i++) {
                    works.block(10 + i, i, 9 - i, i / 2, i % 2);
                    works.blast(i, 1 + i);
                }
                digestIsDue(checks, count + " BLOCKS and LAYERS", works);
            }
        });
        edges.edge("CELL by CELL ofCell() of 0 to 7; each that waits modulus() of 0 to 3", checks -> {
            for (int count = 1; count <= 8; count++) {
                ClinkerWorks works = Fixtures.pile(Fixtures.stone(99, 9, 2, 1, 1));
                works.coal(99);
                works.flame(4);
                for (int i = 0; i < count; i++) {
                    works.run(i < 3 ? 1 + i : 1);
                    works.charge(1 + i, i % 3, i % 2, 0);
                }
                digestIsDue(checks, count + " CHARGES", works);
                works.charge(1, 0, 0, 1);
                works.charge(1, 1, 0, 1);
                checks.same("three wait", works.many(3), 3);
                digestIsDue(checks, count + " CHARGES, and three wait", works);
            }
        });
        edges.edge("LOT by LOT ofLot() of 0 to 21, and thought(), if its AGE 1 was FOUND", checks -> {
            for (int age = 0; age < 3; age++) {
                ClinkerWorks works = Fixtures.burntLots(2, 3, 5);
                works.cube(0, 1);
                works.cube(0, 2);
                works.cube(1, age);
                digestIsDue(checks, "of one the AGE " + age, works);
            }
            ClinkerWorks below = Fixtures.coldLots(1, 1);
            for (int lot = 0; lot < 2; lot++) {
                below.grind(lot, 9 - 8 * lot, 2, 0);
                below.cube(lot, 1);
            }
            below.cube(0, 2);
            checks.same("THOUGHT is below 0", below.thought(1), -8);
            digestIsDue(checks, "THOUGHT below 0", below);
        });
        edges.edge("SILO by SILO row() of 0, 1 and 2", checks -> {
            for (int count = 0; count <= 4; count++) {
                ClinkerWorks works = Fixtures.coldLots(1, 1, 1, 1, 1);
                works.grind(4, 5, 2, 1);
                for (int lot = 0; lot < count; lot++) {
                    works.grind(lot, 5, 2, 0);
                }
                digestIsDue(checks, "so many in the SILO 0: " + count, works);
            }
        });
    }

    private static void digestAhead(Edges edges) {
        edges.edge("if the PILE has 3 PARTS or more, bestCharge() of 3", checks -> {
            for (int parts = 1; parts <= 9; parts++) {
                ClinkerWorks works = new ClinkerWorks();
                works.block(9, 9, 2, 1, 1);
                works.blast(0, parts);
                digestIsDue(checks, "PARTS " + parts, works);
            }
        });
        edges.edge("freeAfter() of 5 STEPS and the FLAME 6", checks -> {
            ClinkerWorks works = twoInTheKiln();
            int due = works.freeAfter(5, 6);
            checks.yes("other STEPS tell", works.freeAfter(4, 6) != due && works.freeAfter(6, 6) != due);
            checks.yes("other FLAMES tell", works.freeAfter(5, 5) != due && works.freeAfter(5, 7) != due);
            digestIsDue(checks, "ahead of what comes out", works);
        });
        edges.edge("letFall() of 5", checks -> {
            // No kiln is so hot that it takes more than 4 STEPS, so 5 is told from 3 alone.
            for (int steps = 0; steps <= 5; steps++) {
                ClinkerWorks works = Fixtures.withRing(6);
                works.run(12);
                works.flame(0);
                if (steps > 0) {
                    works.run(steps);
                }
                checks.same("cooler by " + steps + ", within 3", works.letFall(3), steps == 0 || steps > 3 ? -1 : 0);
                checks.same("cooler by " + steps + ", within 5", works.letFall(5), steps > 3 ? -1 : 0);
                digestIsDue(checks, "cooler by " + steps, works);
            }
        });
    }
}

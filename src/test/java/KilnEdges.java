/** The edges of the document's part 3, and of the promises 6 to 9: the kiln. */
final class KilnEdges {
    private static final int FREE = 3;
    private static final int SAND = 4;
    private static final int BELITE = 5;
    private static final int ALITE = 6;

    private KilnEdges() {
    }

    static void all(Edges edges) {
        edges.of("3. The kiln");
        atFirst(edges);
        coalBurns(edges);
        goesOn(edges);
        warms(edges);
        limeIsFree(edges);
        beliteIsMade(edges);
        aliteIsMade(edges);
        theRing(edges);
        carbon(edges);
        edges.of("Promise 6");
        flame(edges);
        edges.of("Promise 7");
        coal(edges);
        edges.of("Promise 8");
        run(edges);
        edges.of("Promise 9");
        hammer(edges);
    }

    // ---- part 3

    private static void atFirst(Edges edges) {
        edges.edge("CELLS 0 to 4 each have a CHARGE or none, and WARMTH (0 at first).", checks -> {
            ClinkerWorks works = new ClinkerWorks();
            for (int cell = 0; cell < 5; cell++) {
                checks.same("WARMTH", works.ofCell(cell, 0), 0);
                checks.same("no CHARGE", works.ofCell(cell, 1), 0);
            }
            checks.refusesIndex("no CELL 5", works, () -> works.ofCell(5, 0));
        });
        edges.edge("There is a FLAME (0 to 9; 0 at first)", checks -> {
            ClinkerWorks works = new ClinkerWorks();
            checks.same("at first", works.many(4), 0);
            works.flame(9);
            checks.same("the most", works.many(4), 9);
            works.flame(0);
            checks.same("the least", works.many(4), 0);
        });
        edges.edge("COAL (0 to 999; 0 at first)", checks -> {
            ClinkerWorks works = new ClinkerWorks();
            checks.same("at first", works.many(5), 0);
            works.coal(999);
            checks.same("the most", works.many(5), 999);
            works.flame(9);
            for (int i = 0; i < 4; i++) {
                works.run(30);
            }
            checks.same("all has burnt", works.many(5), 0);
        });
        edges.edge("a RING (0 at first) in the CELL 3", checks -> {
            ClinkerWorks works = new ClinkerWorks();
            checks.same("at first", works.many(7), 0);
            ClinkerWorks grown = Fixtures.withRing(1);
            checks.same("a CHARGE in the CELL 3", grown.many(7), 1);
            checks.yes("the CELL 4 is hot, too", grown.ofCell(4, 0) >= 8);
            grown.run(1);
            checks.same("a CHARGE in the CELL 4 alone", grown.many(7), 1);
        });
        edges.edge("NOW is 1 more (0 at first)", checks -> {
            ClinkerWorks works = new ClinkerWorks();
            checks.same("at first", works.many(6), 0);
            works.run(1);
            checks.same("a STEP", works.many(6), 1);
            works.run(30);
            checks.same("30 more", works.many(6), 31);
            ClinkerWorks blocked = Fixtures.withRing(6);
            int now = blocked.many(6);
            blocked.run(2);
            checks.same("BLOCKED ones count, too", blocked.many(6), now + 2);
        });
    }

    private static void coalBurns(Edges edges) {
        edges.edge("If there is COAL no less than the FLAME, it is less by the FLAME, and that much BURNS", checks -> {
            for (int coal = 5; coal <= 6; coal++) {
                ClinkerWorks works = new ClinkerWorks();
                works.coal(coal);
                works.flame(5);
                works.run(1);
                checks.same("COAL left of " + coal, works.many(5), coal - 5);
                checks.same("WARMTH by " + coal, works.ofCell(4, 0), 7);
                checks.same("CO2 by " + coal, works.many(12), 10);
            }
        });
        edges.edge("otherwise nothing BURNS, and COAL stays", checks -> {
            for (int coal = 0; coal <= 4; coal++) {
                ClinkerWorks works = new ClinkerWorks();
                if (coal > 0) {
                    works.coal(coal);
                }
                works.flame(5);
                works.run(1);
                checks.same("COAL left of " + coal, works.many(5), coal);
                checks.same("WARMTH by " + coal, works.ofCell(4, 0), 0);
                checks.same("CO2 by " + coal, works.many(12), 0);
            }
        });
    }

    /** Charges of 1, 2, 3 and more SAND, so that one sees which is where. */
    private static ClinkerWorks behindOneAnother(int charges) {
        ClinkerWorks works = Fixtures.pile(Fixtures.stone(99, 0, 1, 3, 3));
        for (int i = 1; i <= charges; i++) {
            works.charge(i, 0, 0, 0);
            works.run(1);
        }
        return works;
    }

    private static void sandIs(Checks checks, String when, ClinkerWorks works, int... due) {
        for (int cell = 0; cell < 5; cell++) {
            checks.same(when + ", a CHARGE in the CELL " + cell, works.ofCell(cell, 1), due[cell] > 0 ? 1 : 0);
            checks.same(when + ", SAND in the CELL " + cell, works.ofCell(cell, SAND), due[cell]);
        }
    }

    private static void goesOn(Edges edges) {
        edges.edge("If the RING is below 6: what is in the CELL 4 comes out; each CHARGE goes a CELL on; the one that "
            + "waits first comes into the CELL 0.", checks -> {
                ClinkerWorks works = behindOneAnother(5);
                sandIs(checks, "a full kiln", works, 5, 4, 3, 2, 1);
                works.charge(6, 0, 0, 0);
                works.charge(7, 0, 0, 0);
                checks.same("one comes out", works.run(1), 1);
                sandIs(checks, "the first that waited", works, 6, 5, 4, 3, 2);
                checks.same("the LOT", works.ofLot(0, 6), 1);
                works.run(1);
                sandIs(checks, "the second that waited", works, 7, 6, 5, 4, 3);
                works.run(1);
                sandIs(checks, "none waited", works, 0, 7, 6, 5, 4);
                checks.same("the rest comes out", works.run(5), 4);
                sandIs(checks, "empty", works, 0, 0, 0, 0, 0);
                checks.same("nothing comes out of none", works.run(1), 0);
                ClinkerWorks five = Fixtures.withRing(5);
                checks.same("a RING of 5", five.many(7), 5);
                checks.same("comes out", five.run(1), 1);
                checks.same("is not BLOCKED", five.many(9), 0);
                checks.same("the CELL 3 is empty", five.ofCell(3, 1), 0);
            });
        edges.edge("With a RING of 6 or more all stay (it is BLOCKED).", checks -> {
            ClinkerWorks works = Fixtures.withRing(6);
            checks.same("a RING of 6", works.many(7), 6);
            checks.same("not BLOCKED yet", works.many(9), 0);
            works.charge(1, 0, 0, 0);
            for (int blocked = 1; blocked <= 3; blocked++) {
                checks.same("nothing comes out", works.run(1), 0);
                checks.same("BLOCKED", works.many(9), blocked);
                checks.same("in the CELL 4", works.ofCell(4, 1), 1);
                checks.same("in the CELL 3", works.ofCell(3, 1), 1);
                checks.same("not in the CELL 0", works.ofCell(0, 1), 0);
                checks.same("it waits", works.many(3), 1);
                checks.same("the RING", works.many(7), 6 + blocked);
            }
        });
    }

    private static void warms(Edges edges) {
        edges.edge("of the CELL 4 it becomes the sum of that and 3 times what BURNS, divided by 2", checks -> {
            ClinkerWorks works = new ClinkerWorks();
            works.coal(99);
            int[] flames = {0, 1, 1, 1, 0, 0, 0, 9, 9};
            int[] due = {0, 1, 2, 2, 1, 0, 0, 13, 20};
            for (int i = 0; i < flames.length; i++) {
                works.flame(flames[i]);
                works.run(1);
                checks.same("behind STEP " + i, works.ofCell(4, 0), due[i]);
            }
            ClinkerWorks raw = Fixtures.heated(4, Fixtures.stone(1, 9, 0, 0, 0));
            checks.same("RAW does not cool it", raw.ofCell(4, 0), 4);
        });
        edges.edge("it becomes that of the CELL and 2 times that of the next one (as that is by now), divided by 3",
            checks -> {
                ClinkerWorks works = new ClinkerWorks();
                works.coal(99);
                works.flame(9);
                works.run(1);
                // 13; 26 / 3; 16 / 3; 10 / 3; 6 / 3
                warmthIs(checks, works, 2, 3, 5, 8, 13);
                works.run(1);
                // 40 / 2; 48 / 3; 37 / 3; 27 / 3; 20 / 3
                warmthIs(checks, works, 6, 9, 12, 16, 20);
            });
        edges.edge("less 1, if the CHARGE there has RAW (0 at least)", checks -> {
            // The CELL 4 has 0, 1, 3, 4 and 6; two thirds of that are 0, 0, 2, 2 and 4.
            int[] withRaw = {0, 0, 1, 1, 3};
            int[] without = {0, 0, 2, 2, 4};
            for (int flame = 0; flame <= 4; flame++) {
                int[] flames = {0, 0, 0, flame};
                checks.same("RAW, FLAME " + flame,
                    Fixtures.burnt(flames, Fixtures.stone(1, 1, 0, 0, 0)).ofCell(3, 0), withRaw[flame]);
                checks.same("no RAW, FLAME " + flame,
                    Fixtures.burnt(flames, Fixtures.stone(1, 0, 9, 0, 0)).ofCell(3, 0), without[flame]);
                checks.same("no CHARGE, FLAME " + flame,
                    Fixtures.burnt(new int[] {0, flame}, Fixtures.stone(1, 9, 0, 0, 0)).ofCell(3, 0), without[flame]);
            }
            // 1 LIME is FREE in the CELL 0, 81 are not; the CELLS behind it are as warm for both.
            checks.same("RAW that is left", secondCellBehind(9), secondCellBehind(1) - 1);
        });
    }

    private static void warmthIs(Checks checks, ClinkerWorks works, int... due) {
        for (int cell = 0; cell < 5; cell++) {
            checks.same("WARMTH of the CELL " + cell, works.ofCell(cell, 0), due[cell]);
        }
    }

    /** The WARMTH of the CELL 1 of a hot kiln, as a CHARGE has come there with so much LIME at first. */
    private static int secondCellBehind(int lime) {
        ClinkerWorks works = Fixtures.pile(Fixtures.stone(9, lime, 0, 0, 0));
        works.coal(999);
        works.flame(9);
        works.run(9);
        works.charge(lime, 0, 0, 0);
        works.run(2);
        return works.ofCell(1, 0);
    }

    private static void limeIsFree(Edges edges) {
        edges.edge("with a WARMTH of 5 or more as much RAW as WARMTH less 4 (all, if it has less) is FREE", checks -> {
            for (int warmth = 0; warmth <= 14; warmth++) {
                for (int lime = 0; lime <= 9; lime++) {
                    ClinkerWorks works = Fixtures.heated(warmth, Fixtures.stone(1, lime, 0, 0, 0));
                    int due = Math.min(lime, Math.max(0, warmth - 4));
                    checks.same("WARMTH", works.ofCell(4, 0), warmth);
                    checks.same("FREE at " + warmth + " of " + lime, works.ofCell(4, FREE), due);
                    checks.same("RAW at " + warmth + " of " + lime, works.ofCell(4, 2), lime - due);
                }
            }
        });
    }

    /** FREE, SAND, BELITE and ALITE of what is in the CELL 4. */
    private static void burntIs(Checks checks, String when, ClinkerWorks works, int... due) {
        for (int what = FREE; what <= ALITE; what++) {
            checks.same(when + ", ofCell(4, " + what + ")", works.ofCell(4, what), due[what - FREE]);
        }
    }

    private static void beliteIsMade(Edges edges) {
        edges.edge("then, of 7 or more", checks -> {
            int[] one = Fixtures.stone(1, 9, 9, 0, 0);
            burntIs(checks, "WARMTH 6", Fixtures.heated(6, one), 2, 9, 0, 0);
            burntIs(checks, "WARMTH 7", Fixtures.heated(7, one), 1, 8, 1, 0);
        });
        edges.edge("as often as WARMTH less 6", checks -> {
            // The CELL 3 has a WARMTH of 6, so that 2 are FREE ahead; 3 and 4 more are.
            int[] one = Fixtures.stone(1, 9, 9, 0, 0);
            burntIs(checks, "once", Fixtures.burnt(new int[] {0, 0, 1, 7, 1}, one), 3, 8, 1, 0);
            burntIs(checks, "twice", Fixtures.burnt(new int[] {0, 0, 1, 7, 2}, one), 2, 7, 2, 0);
        });
        edges.edge("as long as there are 2 FREE and 1 SAND: these are 1 BELITE", checks -> {
            burntIs(checks, "1 FREE", Fixtures.heated(8, Fixtures.stone(1, 1, 9, 0, 0)), 1, 9, 0, 0);
            burntIs(checks, "2 FREE", Fixtures.heated(8, Fixtures.stone(1, 2, 9, 0, 0)), 0, 8, 1, 0);
            burntIs(checks, "3 FREE", Fixtures.heated(8, Fixtures.stone(1, 3, 9, 0, 0)), 1, 8, 1, 0);
            burntIs(checks, "4 FREE", Fixtures.heated(8, Fixtures.stone(1, 4, 9, 0, 0)), 0, 7, 2, 0);
            burntIs(checks, "no SAND", Fixtures.heated(8, Fixtures.stone(1, 9, 0, 0, 0)), 4, 0, 0, 0);
            burntIs(checks, "1 SAND", Fixtures.heated(8, Fixtures.stone(1, 9, 1, 0, 0)), 2, 0, 1, 0);
            burntIs(checks, "2 SAND", Fixtures.heated(8, Fixtures.stone(1, 9, 2, 0, 0)), 0, 0, 2, 0);
        });
    }

    private static void aliteIsMade(Edges edges) {
        edges.edge("then, of 9 or more", checks -> {
            burntIs(checks, "WARMTH 8", Fixtures.heated(8, Fixtures.stone(1, 9, 1, 0, 0)), 2, 0, 1, 0);
            burntIs(checks, "WARMTH 8, much MELT", Fixtures.heated(8, Fixtures.stone(1, 9, 1, 9, 9)), 2, 0, 1, 0);
            burntIs(checks, "WARMTH 9", Fixtures.heated(9, Fixtures.stone(1, 9, 1, 0, 0)), 2, 0, 0, 1);
        });
        edges.edge("as often as WARMTH less 8, and a quarter of the MELT, together", checks -> {
            // In the CELL 3, at 7, 1 is FREE and 1 is BELITE; at 9 there are 4 FREE and 2 BELITE ahead of that.
            int[] flames = {0, 0, 0, 8, 2};
            burntIs(checks, "MELT 0", Fixtures.burnt(flames, Fixtures.stone(1, 9, 2, 0, 0)), 3, 0, 1, 1);
            burntIs(checks, "MELT 3", Fixtures.burnt(flames, Fixtures.stone(1, 9, 2, 2, 1)), 3, 0, 1, 1);
            burntIs(checks, "MELT 4", Fixtures.burnt(flames, Fixtures.stone(1, 9, 2, 2, 2)), 2, 0, 0, 2);
            burntIs(checks, "IRON alone", Fixtures.burnt(flames, Fixtures.stone(1, 9, 2, 0, 4)), 2, 0, 0, 2);
            burntIs(checks, "ALUMINA alone", Fixtures.burnt(flames, Fixtures.stone(1, 9, 2, 4, 0)), 2, 0, 0, 2);
            // At 10, by a FLAME of 3, 6 more are FREE: 5 with 2 BELITE, and all of that becomes ALITE.
            flames[4] = 3;
            burntIs(checks, "twice by WARMTH", Fixtures.burnt(flames, Fixtures.stone(1, 9, 2, 0, 0)), 3, 0, 0, 2);
        });
        edges.edge("as long as there are 1 FREE and 1 BELITE: these are 1 ALITE", checks -> {
            burntIs(checks, "no FREE", Fixtures.heated(9, Fixtures.stone(1, 2, 1, 0, 0)), 0, 0, 1, 0);
            burntIs(checks, "1 FREE", Fixtures.heated(9, Fixtures.stone(1, 3, 1, 0, 0)), 0, 0, 0, 1);
            burntIs(checks, "1 FREE, 2 BELITE", Fixtures.heated(9, Fixtures.stone(1, 9, 2, 9, 9)), 0, 0, 1, 1);
            burntIs(checks, "no BELITE", Fixtures.heated(9, Fixtures.stone(1, 9, 0, 9, 9)), 5, 0, 0, 0);
            burntIs(checks, "1 BELITE", Fixtures.heated(9, Fixtures.stone(1, 9, 1, 9, 9)), 2, 0, 0, 1);
        });
    }

    private static void theRing(Edges edges) {
        edges.edge("1 more, if the CELL 3 has a CHARGE with a MELT of 6 or more, and a WARMTH of 8 or more", checks -> {
            checks.same("WARMTH 8", Fixtures.inCellThree(0, 3, 3).ofCell(3, 0), 8);
            checks.same("MELT 6 at 8", Fixtures.inCellThree(0, 3, 3).many(7), 1);
            checks.same("MELT 6 of ALUMINA", Fixtures.inCellThree(0, 6, 0).many(7), 1);
            checks.same("MELT 6 of IRON", Fixtures.inCellThree(0, 0, 6).many(7), 1);
            checks.same("MELT 7", Fixtures.inCellThree(0, 3, 4).many(7), 1);
            checks.same("MELT 18", Fixtures.inCellThree(0, 9, 9).many(7), 1);
            checks.same("MELT 5 at 8", Fixtures.inCellThree(0, 3, 2).many(7), 0);
            checks.same("WARMTH 7", Fixtures.inCellThree(9, 3, 3).ofCell(3, 0), 7);
            checks.same("MELT 6 at 7", Fixtures.inCellThree(9, 3, 3).many(7), 0);
            ClinkerWorks empty = new ClinkerWorks();
            empty.coal(99);
            empty.flame(9);
            empty.run(9);
            checks.same("no CHARGE", empty.many(7), 0);
        });
        edges.edge("it FALLS (0), if its WARMTH is below 5, and it is above 0", checks -> {
            ClinkerWorks five = Fixtures.inCellThree(0, 3, 3);
            five.flame(1);
            five.run(2);
            checks.same("WARMTH 5", five.ofCell(3, 0), 5);
            checks.same("the RING stays", five.many(7), 1);
            checks.same("it did not FALL", five.many(8), 0);
            ClinkerWorks four = Fixtures.inCellThree(0, 3, 3);
            four.flame(1);
            four.run(1);
            four.flame(0);
            four.run(1);
            checks.same("WARMTH 4", four.ofCell(3, 0), 4);
            checks.same("the RING", four.many(7), 0);
            checks.same("it FELL", four.many(8), 1);
            four.run(9);
            checks.same("it FELL once", four.many(8), 1);
            ClinkerWorks cold = new ClinkerWorks();
            cold.run(9);
            checks.same("there was none to FALL", cold.many(8), 0);
            ClinkerWorks great = Fixtures.withRing(6);
            great.flame(0);
            great.run(12);
            checks.same("one of 6 FALLS as one", great.many(8), 1);
            checks.same("to 0", great.many(7), 0);
        });
    }

    private static void carbon(Edges edges) {
        edges.edge("each RAW that is FREE is one, and each COAL that BURNS is two", checks -> {
            checks.same("no CO2 at first", new ClinkerWorks().many(12), 0);
            // A FLAME of 4 has a WARMTH of 6, one of 1 and then 3 one of 5.
            checks.same("2 FREE", Fixtures.heated(6, Fixtures.stone(1, 9, 9, 0, 0)).many(12), 2 + 8);
            checks.same("1 FREE", Fixtures.heated(5, Fixtures.stone(1, 9, 9, 0, 0)).many(12), 1 + 8);
            checks.same("none FREE", Fixtures.heated(4, Fixtures.stone(1, 9, 9, 0, 0)).many(12), 6);
            // What is BELITE or ALITE was FREE once.
            checks.same("6 FREE", Fixtures.heated(10, Fixtures.stone(1, 9, 2, 0, 0)).many(12), 6 + 14);
        });
    }

    // ---- promises 6 to 9

    private static void flame(Edges edges) {
        edges.edge("Returns that before.", checks -> {
            ClinkerWorks works = new ClinkerWorks();
            checks.same("before the first", works.flame(9), 0);
            checks.same("before the second", works.flame(0), 9);
            checks.same("before the third", works.flame(0), 0);
        });
        edges.edge("Throws IllegalArgumentException if flame is not 0 to 9", checks -> {
            ClinkerWorks works = new ClinkerWorks();
            works.flame(4);
            for (int wrong : new int[] {-1, 10, Integer.MIN_VALUE, Integer.MAX_VALUE}) {
                checks.refusesArgument("flame(" + wrong + ")", works, () -> works.flame(wrong));
            }
            checks.same("it stays", works.flame(5), 4);
        });
    }

    private static void coal(Edges edges) {
        edges.edge("Returns how much there is.", checks -> {
            ClinkerWorks works = new ClinkerWorks();
            checks.same("1", works.coal(1), 1);
            checks.same("998 more", works.coal(998), 999);
        });
        edges.edge("Throws IllegalArgumentException if coal is not 1 to 999, or there would be more than 999", checks -> {
            ClinkerWorks works = new ClinkerWorks();
            for (int wrong : new int[] {0, -1, 1000, Integer.MIN_VALUE, Integer.MAX_VALUE}) {
                checks.refusesArgument("coal(" + wrong + ")", works, () -> works.coal(wrong));
            }
            checks.same("998", works.coal(998), 998);
            for (int wrong : new int[] {2, 999, -998, Integer.MAX_VALUE, Integer.MAX_VALUE - 998}) {
                checks.refusesArgument("by 998, coal(" + wrong + ")", works, () -> works.coal(wrong));
            }
            checks.same("999", works.coal(1), 999);
            checks.refusesArgument("by 999, coal(1)", works, () -> works.coal(1));
            checks.refusesArgument("by 999, coal(0)", works, () -> works.coal(0));
            works.flame(9);
            works.run(1);
            checks.refusesArgument("by 990, coal(10)", works, () -> works.coal(10));
            checks.same("room again", works.coal(9), 999);
        });
    }

    private static void run(Edges edges) {
        edges.edge("Returns how many CHARGES came out (DUMPED ones, too).", checks -> {
            ClinkerWorks works = Fixtures.coldLots(1, 1, 1, 1, 1, 1, 1, 1, 1, 1, 1);
            for (int i = 0; i < 3; i++) {
                works.charge(1, 0, 0, 0);
            }
            checks.same("none", works.run(5), 0);
            checks.same("a LOT, and two that are DUMPED", works.run(30), 3);
            checks.same("LOTS", works.many(10), 12);
            checks.same("DUMPED", works.many(11), 2);
        });
        edges.edge("Throws IllegalArgumentException if steps is not 1 to 30", checks -> {
            ClinkerWorks works = new ClinkerWorks();
            for (int wrong : new int[] {0, -1, 31, Integer.MIN_VALUE, Integer.MAX_VALUE}) {
                checks.refusesArgument("run(" + wrong + ")", works, () -> works.run(wrong));
            }
            checks.same("no STEP by that", works.many(6), 0);
            works.run(1);
            works.run(30);
            checks.same("1 and 30", works.many(6), 31);
        });
    }

    private static void hammer(Edges edges) {
        edges.edge("The RING is broken by hand: it is 0 (and did not FALL by that).", checks -> {
            ClinkerWorks works = Fixtures.withRing(6);
            works.hammer();
            checks.same("the RING", works.many(7), 0);
            checks.same("it did not FALL", works.many(8), 0);
            checks.same("nothing is BLOCKED any more", works.run(1), 1);
            works.flame(0);
            works.run(20);
            checks.same("there is none to FALL", works.many(8), 0);
        });
        edges.edge("Returns how great it was.", checks -> {
            checks.same("none", new ClinkerWorks().hammer(), 0);
            ClinkerWorks works = Fixtures.withRing(6);
            works.run(2);
            checks.same("one that BLOCKED", works.hammer(), 8);
            checks.same("none any more", works.hammer(), 0);
        });
    }
}

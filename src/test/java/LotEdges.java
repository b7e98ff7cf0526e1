import java.util.Arrays;

/** The edges of the document's parts 4 and 5, and of the promises 10 to 14: LOTS, SILOS, CUBES and the STANDARD. */
final class LotEdges {
    private static final int[] NEITHER = {-1, 2, Integer.MIN_VALUE, Integer.MAX_VALUE};

    private LotEdges() {
    }

    static void all(Edges edges) {
        edges.of("4. Grinding, silos");
        lots(edges);
        grinding(edges);
        sacks(edges);
        strength(edges);
        strengthTerms(edges);
        thought(edges);
        edges.of("5. Cubes, the standard");
        cubes(edges);
        conform(edges);
        claims(edges);
        money(edges);
        edges.of("Promise 10");
        grind(edges);
        edges.of("Promise 11");
        sell(edges);
        edges.of("Promise 12");
        open(edges);
        edges.of("Promise 13");
        cube(edges);
        edges.of("Promise 14");
        standard(edges);
    }

    // ---- part 4

    private static void lots(Edges edges) {
        edges.edge("(at most 12 ever, numbered from 0; behind that what comes out is DUMPED, and that is all)", checks -> {
            ClinkerWorks works = Fixtures.coldLots(1, 2, 3, 4, 5, 6, 7, 8, 9, 1, 2, 3);
            checks.same("LOTS", works.many(10), 12);
            checks.same("none is DUMPED yet", works.many(11), 0);
            for (int lot = 0; lot < 12; lot++) {
                checks.same("SILICA of the LOT " + lot, works.ofLot(lot, 1), 1 + lot % 9);
            }
            // A LOT that is sold out is one for ever.
            works.grind(0, 5, 2, 0);
            works.sell(0, 999);
            for (int more = 1; more <= 2; more++) {
                works.charge(9, 0, 0, 0);
                works.run(6);
                checks.same("LOTS", works.many(10), 12);
                checks.same("DUMPED", works.many(11), more);
            }
            checks.same("the last LOT is as it was", works.ofLot(11, 1), 3);
            checks.same("the first one, too", works.ofLot(0, 1), 1);
            checks.refusesIndex("no LOT 12", works, () -> works.ofLot(12, 0));
            checks.refusesIndex("none to GRIND", works, () -> works.grind(12, 5, 2, 0));
        });
        edges.edge("with what its CHARGE has, not ground", checks -> {
            ClinkerWorks works = Fixtures.charged(Fixtures.stone(2, 9, 2, 1, 3));
            works.run(6);
            int[] due = {18, 4, 2, 6, 18, 0, 4, 0, 0, -1, -1, -1, 0, -1, -1, -1, 2, 0, 0, 0, 0, 0};
            for (int what = 0; what < due.length; what++) {
                checks.same("ofLot(0, " + what + ")", works.ofLot(0, what), due[what]);
            }
        });
    }

    private static void grinding(Edges edges) {
        edges.edge("by a FINENESS (1 to 9), with GYPSUM (0 to 9), puts it behind all others into a SILO (0 or 1)",
            checks -> {
                ClinkerWorks works = Fixtures.coldLots(1, 2, 3, 4);
                works.grind(3, 1, 0, 0);
                works.grind(1, 9, 9, 1);
                works.grind(0, 5, 5, 0);
                works.grind(2, 5, 5, 0);
                int[][] rows = {{3, 0, 2, -1}, {1, -1, -1, -1}};
                for (int silo = 0; silo < 2; silo++) {
                    for (int k = 0; k < 4; k++) {
                        checks.same("row(" + silo + ", " + k + ")", works.row(silo, k), rows[silo][k]);
                    }
                }
                int[] least = {1, 0, 0};
                int[] most = {9, 9, 1};
                for (int what = 0; what < 3; what++) {
                    checks.same("the least", works.ofLot(3, 9 + what), least[what]);
                    checks.same("the most", works.ofLot(1, 9 + what), most[what]);
                }
            });
        edges.edge("SACKS: all its OXIDES together (no less than 1).", checks -> {
            checks.same("none", sacksOf(Fixtures.stone(1, 0, 0, 0, 0)), 1);
            checks.same("one", sacksOf(Fixtures.stone(1, 0, 0, 0, 1)), 1);
            checks.same("two", sacksOf(Fixtures.stone(1, 0, 0, 1, 1)), 2);
            checks.same("of all four", sacksOf(Fixtures.stone(9, 9, 8, 7, 6)), 9 * 30);
        });
    }

    private static int sacksOf(int[] row) {
        ClinkerWorks works = Fixtures.charged(row);
        works.run(6);
        return works.grind(0, 5, 2, 0);
    }

    private static void sacks(Edges edges) {
        edges.edge("SACKS are taken from the first one on (the lot without SACKS is out).", checks -> {
            int[] sold = {4, 5, 6, 10, 11};
            int[][] left = {{1, 5, 1}, {0, 5, 1}, {0, 4, 1}, {0, 0, 1}, {0, 0, 0}};
            int[][] rows = {{0, 1, 2}, {1, 2, -1}, {1, 2, -1}, {2, -1, -1}, {-1, -1, -1}};
            for (int i = 0; i < sold.length; i++) {
                ClinkerWorks works = Fixtures.coldLots(5, 5, 1);
                for (int lot = 0; lot < 3; lot++) {
                    works.grind(lot, 5, 2, 1);
                }
                checks.same("sold " + sold[i], works.sell(1, sold[i]), 3 * sold[i]);
                for (int lot = 0; lot < 3; lot++) {
                    checks.same("sold " + sold[i] + ", left of " + lot, works.ofLot(lot, 12), left[i][lot]);
                    checks.same("sold " + sold[i] + ", row(1, " + lot + ")", works.row(1, lot), rows[i][lot]);
                }
            }
            ClinkerWorks twelve = Fixtures.coldLots(1, 1, 1, 1, 1, 1, 1, 1, 1, 1, 1, 2);
            for (int lot = 0; lot < 12; lot++) {
                twelve.grind(lot, 5, 2, 0);
            }
            checks.same("of twelve LOTS at once", twelve.sell(0, 12), 3 * 12);
            checks.same("the last one has one left", twelve.row(0, 0), 11);
            ClinkerWorks empty = Fixtures.coldLots(2, 3);
            checks.same("of an empty SILO", empty.sell(0, 9), 0);
            empty.grind(0, 5, 2, 0);
            checks.same("more than it has", empty.sell(0, 9), 6);
            empty.grind(1, 5, 2, 0);
            checks.same("the first one behind one that is out", empty.row(0, 0), 1);
        });
    }

    /** FOUND of a LOT that never was warm, without ALUMINA: all of it comes by FINENESS and GYPSUM. */
    private static int cold(int fineness, int gypsum, int age) {
        ClinkerWorks works = Fixtures.coldLots(5);
        works.grind(0, fineness, gypsum, 0);
        return works.cube(0, age);
    }

    private static void strength(Edges edges) {
        edges.edge("0 at least", checks -> {
            checks.same("3", cold(9, 7, 0), 3);
            checks.same("18 less 18", cold(9, 8, 0), 0);
            checks.same("18 less 21", cold(9, 9, 0), 0);
            checks.same("nothing less 21", cold(1, 9, 2), 0);
        });
        edges.edge("divided by the SACKS that it had as it was ground", checks -> {
            for (int sold = 0; sold <= 12; sold += 6) {
                ClinkerWorks works = Fixtures.burntLots(2);
                if (sold > 0) {
                    works.sell(0, sold);
                }
                checks.same("ALITE", works.ofLot(0, 8), 3);
                checks.same("SACKS left", works.ofLot(0, 12), 12 - sold);
                // 60, 90 and 120 by 12, and FINENESS 5
                checks.same("AGE 0", works.cube(0, 0), 5 + 10);
                checks.same("AGE 1", works.cube(0, 1), 7 + 5);
                checks.same("AGE 2", works.cube(0, 2), 10);
            }
            ClinkerWorks none = Fixtures.charged(Fixtures.stone(1, 0, 0, 0, 0));
            none.run(6);
            none.grind(0, 9, 2, 0);
            checks.same("without OXIDES", none.cube(0, 0), 18);
        });
    }

    private static void strengthTerms(Edges edges) {
        edges.edge("ALITE counts 2, 3 and 4, BELITE 0, 1 and 3", checks -> {
            // 2 BELITE, 12 SACKS and a FINENESS of 9: 0, 20 and 60 by 12
            ClinkerWorks works = Fixtures.heated(8, Fixtures.stone(1, 9, 3, 0, 0));
            works.run(1);
            checks.same("BELITE", works.ofLot(0, 7), 2);
            checks.same("SACKS", works.grind(0, 9, 2, 0), 12);
            int[] due = {18, 9 + 1, 5};
            // 3 ALITE, 12 SACKS and a FINENESS of 5: 60, 90 and 120 by 12
            ClinkerWorks alite = Fixtures.burntLots(2);
            int[] dueOfAlite = {10 + 5, 5 + 7, 10};
            for (int age = 0; age < 3; age++) {
                checks.same("BELITE at the AGE " + age, works.cube(0, age), due[age]);
                checks.same("ALITE at the AGE " + age, alite.cube(0, age), dueOfAlite[age]);
            }
        });
        edges.edge("less 2 times FREE", checks -> {
            int[] due = {18 - 6, 9 - 6, 0};
            ClinkerWorks works = Fixtures.heated(7, Fixtures.stone(1, 9, 0, 0, 0));
            works.run(1);
            checks.same("FREE", works.ofLot(0, 5), 3);
            works.grind(0, 9, 2, 0);
            for (int age = 0; age < 3; age++) {
                checks.same("at the AGE " + age, works.cube(0, age), due[age]);
            }
        });
        edges.edge("FINENESS more, times 2, 1, 0", checks -> {
            int[] least = {2, 1, 0};
            int[] most = {18, 9, 0};
            for (int age = 0; age < 3; age++) {
                checks.same("the least at the AGE " + age, cold(1, 2, age), least[age]);
                checks.same("the most at the AGE " + age, cold(9, 2, age), most[age]);
            }
        });
        edges.edge("less 3 for each that GYPSUM differs from its ALUMINA / 4 and 2 more", checks -> {
            int[] alumina = {0, 3, 4, 7, 8};
            int[] best = {2, 2, 3, 3, 4};
            for (int i = 0; i < alumina.length; i++) {
                for (int gypsum = 0; gypsum <= 9; gypsum++) {
                    ClinkerWorks works = Fixtures.charged(Fixtures.stone(1, 0, 0, alumina[i], 0));
                    works.run(6);
                    works.grind(0, 9, gypsum, 0);
                    int due = Math.max(0, 18 - 3 * Math.abs(gypsum - best[i]));
                    checks.same("ALUMINA " + alumina[i] + ", GYPSUM " + gypsum, works.cube(0, 0), due);
                }
            }
        });
    }

    private static void thought(Edges edges) {
        edges.edge("rounded down (also below 0)", checks -> {
            // Without ALITE what is FOUND is the FINENESS at the AGE 1, and 0 at the AGE 2.
            checks.same("-4 by 1", thoughtOf(9, 4), 9 - 4);
            checks.same("-4 and -5 by 2 is -4.5", thoughtOf(9, 4, 5), 9 - 5);
            checks.same("-4, -4 and -5 by 3 is -4.3", thoughtOf(9, 4, 4, 5), 9 - 5);
            checks.same("-4, -5 and -6 by 3", thoughtOf(9, 4, 5, 6), 9 - 5);
            checks.same("THOUGHT is below 0 itself", thoughtOf(1, 9), 1 - 9);
            // 10 at the AGE 2, and 8 and 9 at the AGE 1, by a FINENESS of 1 and of 2
            ClinkerWorks hot = Fixtures.hotLots(3);
            for (int lot = 0; lot < 3; lot++) {
                hot.grind(lot, 1 + lot, 2, 0);
                hot.cube(lot, 1);
                hot.cube(lot, 2);
            }
            checks.same("2 and 1 by 2 is 1.5", hot.thought(2), 10 + 1);
        });
        edges.edge("without any such LOT that, and 10", checks -> {
            ClinkerWorks works = Fixtures.coldLots(1, 2);
            works.grind(0, 9, 2, 0);
            works.cube(0, 1);
            checks.same("alone", works.thought(0), 19);
            works.cube(0, 2);
            checks.same("its own CUBES do not count", works.thought(0), 19);
            works.grind(1, 5, 2, 0);
            works.cube(1, 0);
            works.cube(1, 2);
            checks.same("another one without the AGE 1", works.thought(0), 19);
        });
        edges.edge("over all other LOTS of which CUBES of both AGES were BROKEN", checks -> {
            ClinkerWorks works = Fixtures.coldLots(1, 2, 3, 4);
            for (int lot = 0; lot < 4; lot++) {
                works.grind(lot, 2 + 2 * lot, 2, 0);
                works.cube(lot, 1);
            }
            checks.same("the AGE 1 alone", works.thought(3), 8 + 10);
            works.cube(0, 2);
            checks.same("by the LOT 0", works.thought(3), 8 - 2);
            works.cube(2, 2);
            checks.same("by the LOTS 0 and 2", works.thought(3), 8 - 4);
            works.cube(3, 2);
            checks.same("not by itself", works.thought(3), 8 - 4);
            checks.same("by the LOTS 2 and 3", works.thought(0), 2 - 7);
            checks.same("by all three others", works.thought(1), 4 - 6);
            checks.same("by eleven others", thoughtOf(9, 4, 5, 4, 5, 4, 5, 4, 5, 4, 5, 4), 9 - 5);
        });
    }

    /** What is THOUGHT of the LOT 0, of the first FINENESS, by the others, of the others. */
    private static int thoughtOf(int... fineness) {
        int[] silica = new int[fineness.length];
        Arrays.fill(silica, 1);
        ClinkerWorks works = Fixtures.coldLots(silica);
        for (int lot = 0; lot < fineness.length; lot++) {
            works.grind(lot, fineness[lot], 2, 0);
            works.cube(lot, 1);
            if (lot > 0) {
                works.cube(lot, 2);
            }
        }
        return works.thought(0);
    }

    // ---- part 5

    private static void cubes(Edges edges) {
        edges.edge("A CUBE of a LOT that was ground is BROKEN at an AGE, once at each: its STRENGTH is FOUND.", checks -> {
            ClinkerWorks works = Fixtures.coldLots(5);
            for (int age = 0; age < 3; age++) {
                int each = age;
                checks.refusesState("not ground", works, () -> works.cube(0, each));
            }
            works.grind(0, 9, 2, 0);
            int[] due = {18, 9, 0};
            for (int age = 2; age >= 0; age--) {
                int each = age;
                checks.same("not FOUND yet", works.ofLot(0, 13 + age), -1);
                checks.same("at the AGE " + age, works.cube(0, age), due[age]);
                checks.same("FOUND at the AGE " + age, works.ofLot(0, 13 + age), due[age]);
                checks.refusesState("once more", works, () -> works.cube(0, each));
            }
        });
        edges.edge("The WINDOW has the last 6 that were FOUND at the AGE 2.", checks -> {
            ClinkerWorks works = Fixtures.burntLots(5, 2, 2, 2, 2, 2, 2, 3);
            works.cube(0, 0);
            works.cube(0, 1);
            checks.same("other AGES do not count", works.many(15), 0);
            int[] sums = {1, 11, 21, 31, 41, 51, 60, 57};
            for (int lot = 0; lot < 8; lot++) {
                works.cube(lot, 2);
                int size = Math.min(6, lot + 1);
                checks.same("in the WINDOW", works.many(15), size);
                checks.same("its mean", works.meanFound(), (double) sums[lot] / size);
            }
        });
    }

    /** CONFORM by a STANDARD, as one LOT each was FOUND of 10 less 3 for each GYPSUM more than 2. */
    private static boolean conforms(int standard, int... gypsum) {
        ClinkerWorks works = Fixtures.burntLots(gypsum);
        works.standard(standard);
        for (int lot = 0; lot < gypsum.length; lot++) {
            works.cube(lot, 2);
        }
        return works.isConform();
    }

    private static void conform(Edges edges) {
        edges.edge("of these none is below the STANDARD (6 at first) less 4", checks -> {
            checks.same("at first", new ClinkerWorks().many(17), 6);
            // The mean of five of 10 and one of 4 is 9.
            checks.yes("8 less 4 is 4", conforms(8, 2, 2, 2, 2, 2, 4));
            checks.no("9 less 4 is above 4", conforms(9, 2, 2, 2, 2, 2, 4));
            checks.no("the first one of six", conforms(9, 4, 2, 2, 2, 2, 2));
            checks.yes("the first one of seven is out", conforms(9, 4, 2, 2, 2, 2, 2, 2));
        });
        edges.edge("their mean, not rounded, is no less than the STANDARD", checks -> {
            checks.yes("10 by 10", conforms(10, 2, 2));
            checks.no("10 by 11", conforms(11, 2, 2));
            checks.yes("8.5 by 8", conforms(8, 2, 3));
            checks.no("8.5 by 9", conforms(9, 2, 3));
            checks.yes("9 by 9", conforms(9, 2, 2, 3));
            checks.no("9.5 by 10", conforms(10, 2, 2, 2, 2, 2, 3));
        });
        edges.edge("without any it is so", checks -> {
            ClinkerWorks works = new ClinkerWorks();
            checks.yes("at first", works.isConform());
            works.standard(99);
            checks.yes("by 99", works.isConform());
            ClinkerWorks other = Fixtures.coldLots(1);
            other.grind(0, 1, 9, 0);
            other.cube(0, 0);
            other.cube(0, 1);
            checks.yes("by other AGES", other.isConform());
            checks.same("no CLAIM", other.many(14), 0);
        });
    }

    private static void claims(Edges edges) {
        edges.edge("is a CLAIM, if it is not CONFORM behind it (whether it was ahead of it or not)", checks -> {
            // FOUND are 10, 1, 1, 10, 10, 10, 10, 10, 10
            ClinkerWorks works = Fixtures.burntLots(2, 5, 5, 2, 2, 2, 2, 2, 2);
            int[] due = {0, 1, 2, 3, 4, 5, 6, 7, 7};
            for (int lot = 0; lot < 9; lot++) {
                works.cube(lot, 2);
                checks.same("CLAIMS behind the LOT " + lot, works.many(14), due[lot]);
                checks.yes("CONFORM behind the LOT " + lot, works.isConform() == (lot == 0 || lot == 8));
            }
            works.standard(99);
            checks.no("not CONFORM by the STANDARD", works.isConform());
            works.cube(8, 0);
            works.cube(8, 1);
            checks.same("no CLAIM by that, or by other AGES", works.many(14), 7);
        });
        edges.edge("a SILO is SHUT by that, if it has SACKS of that LOT", checks -> {
            for (int sold = 4; sold <= 5; sold++) {
                ClinkerWorks works = Fixtures.coldLots(5, 5);
                works.grind(0, 5, 2, 1);
                works.grind(1, 5, 2, 1);
                works.sell(1, sold);
                works.cube(0, 2);
                checks.same("a CLAIM", works.many(14), 1);
                checks.same("SHUT, as " + (5 - sold) + " are left", works.many(16), sold == 4 ? 2 : 0);
            }
            ClinkerWorks both = Fixtures.coldLots(5, 5);
            both.grind(0, 5, 2, 0);
            both.grind(1, 5, 2, 1);
            both.cube(0, 2);
            checks.same("the SILO 0 alone", both.many(16), 1);
            both.cube(1, 2);
            checks.same("the SILO 1, too", both.many(16), 3);
        });
        edges.edge("it has to be opened by hand", checks -> {
            ClinkerWorks works = Fixtures.burntLots(5, 2, 2, 2, 2, 2, 2);
            works.cube(0, 2);
            works.open(1);
            checks.same("SHUT by the LOT 0", works.many(16), 1);
            for (int lot = 1; lot < 7; lot++) {
                works.cube(lot, 2);
                works.open(1);
            }
            checks.yes("CONFORM again", works.isConform());
            works.standard(0);
            works.run(30);
            checks.same("SHUT all the same", works.many(16), 1);
            checks.refusesState("nothing is sold", works, () -> works.sell(0, 1));
            works.open(0);
            checks.same("opened", works.many(16), 0);
            checks.same("sold", works.sell(0, 1), 3);
        });
    }

    private static void money(Edges edges) {
        edges.edge("MONEY is 0 at first.", checks -> {
            ClinkerWorks works = new ClinkerWorks();
            checks.same("at first", works.many(13), 0);
            works.sell(0, 999);
            checks.same("by nothing", works.many(13), 0);
        });
        edges.edge("3, and 1 more, if it is of a LOT with a FINENESS of 6 or more", checks -> {
            int[] price = {3, 3, 3, 3, 3, 4, 4, 4, 4};
            for (int fineness = 1; fineness <= 9; fineness++) {
                ClinkerWorks works = Fixtures.coldLots(5);
                works.grind(0, fineness, 2, 0);
                checks.same("one of FINENESS " + fineness, works.sell(0, 1), price[fineness - 1]);
                checks.same("four more", works.sell(0, 4), 4 * price[fineness - 1]);
                checks.same("MONEY", works.many(13), 5 * price[fineness - 1]);
            }
            ClinkerWorks both = Fixtures.coldLots(2, 2);
            both.grind(0, 6, 2, 0);
            both.grind(1, 5, 2, 0);
            checks.same("one more of the first LOT alone", both.sell(0, 3), 4 + 4 + 3);
        });
    }

    // ---- promises 10 to 14

    private static void grind(Edges edges) {
        edges.edge("Throws IndexOutOfBoundsException if there is no such LOT, or silo is not 0 or 1", checks -> {
            ClinkerWorks none = new ClinkerWorks();
            checks.refusesIndex("0 of none", none, () -> none.grind(0, 5, 2, 0));
            ClinkerWorks works = Fixtures.coldLots(5, 5);
            for (int wrong : NEITHER) {
                checks.refusesIndex("the LOT " + wrong, works, () -> works.grind(wrong, 5, 2, 0));
                checks.refusesIndex("the SILO " + wrong, works, () -> works.grind(0, 5, 2, wrong));
            }
            checks.same("the last LOT, the last SILO", works.grind(1, 5, 2, 1), 5);
        });
        edges.edge("Throws IllegalArgumentException if fineness is not 1 to 9, or gypsum not 0 to 9", checks -> {
            ClinkerWorks works = Fixtures.coldLots(5);
            for (int wrong : new int[] {0, -1, 10, Integer.MIN_VALUE, Integer.MAX_VALUE}) {
                checks.refusesArgument("fineness " + wrong, works, () -> works.grind(0, wrong, 2, 0));
            }
            for (int wrong : new int[] {-1, 10, Integer.MIN_VALUE, Integer.MAX_VALUE}) {
                checks.refusesArgument("gypsum " + wrong, works, () -> works.grind(0, 5, wrong, 0));
            }
            checks.same("not ground by that", works.grind(0, 1, 0, 0), 5);
        });
        edges.edge("Throws IllegalStateException if it was ground", checks -> {
            ClinkerWorks works = Fixtures.coldLots(5, 5);
            works.grind(0, 5, 2, 1);
            checks.refusesState("the same again", works, () -> works.grind(0, 5, 2, 1));
            checks.refusesState("into the other SILO", works, () -> works.grind(0, 9, 0, 0));
            works.sell(1, 5);
            checks.refusesState("sold out", works, () -> works.grind(0, 5, 2, 1));
            checks.same("another one", works.grind(1, 5, 2, 1), 5);
        });
    }

    private static void sell(Edges edges) {
        edges.edge("Returns what one gets.", checks -> {
            ClinkerWorks works = Fixtures.coldLots(5);
            checks.same("of an empty SILO", works.sell(0, 1), 0);
            works.grind(0, 5, 2, 0);
            checks.same("of the other one", works.sell(1, 1), 0);
            checks.same("of more than there is", works.sell(0, 6), 15);
            checks.same("of a SILO that is sold out", works.sell(0, 1), 0);
        });
        edges.edge("Throws IndexOutOfBoundsException if silo is not 0 or 1", checks -> {
            ClinkerWorks works = new ClinkerWorks();
            for (int wrong : NEITHER) {
                checks.refusesIndex("sell(" + wrong + ", 1)", works, () -> works.sell(wrong, 1));
            }
        });
        edges.edge("Throws IllegalArgumentException if sacks is not 1 to 999", checks -> {
            ClinkerWorks works = Fixtures.coldLots(5);
            works.grind(0, 5, 2, 0);
            for (int wrong : new int[] {0, -1, 1000, Integer.MIN_VALUE, Integer.MAX_VALUE}) {
                checks.refusesArgument("sacks " + wrong, works, () -> works.sell(0, wrong));
                checks.refusesArgument("of an empty SILO, sacks " + wrong, works, () -> works.sell(1, wrong));
            }
            checks.same("1", works.sell(0, 1), 3);
            checks.same("999", works.sell(0, 999), 12);
        });
        edges.edge("Throws IllegalStateException if it is SHUT", checks -> {
            ClinkerWorks works = Fixtures.coldLots(5, 5);
            works.grind(0, 5, 2, 1);
            works.grind(1, 5, 2, 0);
            works.cube(0, 2);
            checks.refusesState("SHUT", works, () -> works.sell(1, 1));
            checks.same("the other one is not", works.sell(0, 1), 3);
            works.open(1);
            checks.same("opened", works.sell(1, 1), 3);
        });
    }

    private static void open(Edges edges) {
        edges.edge("Returns whether it was SHUT.", checks -> {
            ClinkerWorks works = Fixtures.coldLots(5);
            checks.no("never", works.open(0));
            works.grind(0, 5, 2, 0);
            works.cube(0, 2);
            checks.no("the other one", works.open(1));
            checks.yes("SHUT", works.open(0));
            checks.no("opened", works.open(0));
        });
        edges.edge("Throws IndexOutOfBoundsException if silo is not 0 or 1", checks -> {
            ClinkerWorks works = new ClinkerWorks();
            for (int wrong : NEITHER) {
                checks.refusesIndex("open(" + wrong + ")", works, () -> works.open(wrong));
            }
        });
    }

    private static void cube(Edges edges) {
        edges.edge("Throws IndexOutOfBoundsException if there is no such LOT", checks -> {
            ClinkerWorks none = new ClinkerWorks();
            checks.refusesIndex("0 of none", none, () -> none.cube(0, 0));
            ClinkerWorks works = Fixtures.coldLots(5, 5);
            works.grind(1, 5, 2, 0);
            for (int wrong : NEITHER) {
                checks.refusesIndex("the LOT " + wrong, works, () -> works.cube(wrong, 0));
            }
            checks.same("the last LOT", works.cube(1, 0), 10);
        });
        edges.edge("Throws IllegalArgumentException if age is not 0 to 2", checks -> {
            ClinkerWorks works = Fixtures.coldLots(5, 5);
            works.grind(0, 5, 2, 0);
            for (int wrong : new int[] {-1, 3, Integer.MIN_VALUE, Integer.MAX_VALUE}) {
                checks.refusesArgument("age " + wrong, works, () -> works.cube(0, wrong));
                checks.refusesArgument("not ground, age " + wrong, works, () -> works.cube(1, wrong));
            }
        });
        edges.edge("Throws IllegalStateException if it was not ground, or it was done", checks -> {
            ClinkerWorks works = Fixtures.coldLots(5);
            for (int age = 0; age < 3; age++) {
                int each = age;
                checks.refusesState("not ground, at " + age, works, () -> works.cube(0, each));
            }
            // All that is FOUND is 0, which is FOUND all the same.
            works.grind(0, 1, 9, 0);
            for (int age = 0; age < 3; age++) {
                int each = age;
                checks.same("at " + age, works.cube(0, age), 0);
                checks.refusesState("done at " + age, works, () -> works.cube(0, each));
            }
            checks.same("one in the WINDOW", works.many(15), 1);
            checks.same("one CLAIM", works.many(14), 1);
        });
    }

    private static void standard(Edges edges) {
        edges.edge("Returns that before.", checks -> {
            ClinkerWorks works = new ClinkerWorks();
            checks.same("before the first", works.standard(99), 6);
            checks.same("before the second", works.standard(0), 99);
            checks.same("before the third", works.standard(1), 0);
        });
        edges.edge("Throws IllegalArgumentException if standard is not 0 to 99", checks -> {
            ClinkerWorks works = new ClinkerWorks();
            for (int wrong : new int[] {-1, 100, Integer.MIN_VALUE, Integer.MAX_VALUE}) {
                checks.refusesArgument("standard(" + wrong + ")", works, () -> works.standard(wrong));
            }
            checks.same("it stays", works.many(17), 6);
        });
    }
}

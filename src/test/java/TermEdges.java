import java.util.ArrayList;
import java.util.List;

/** What binds every call, and promise 1. */
final class TermEdges {
    private static final int MOST_CALLS = 512;

    private TermEdges() {
    }

    static void all(Edges edges) {
        edges.of("What it is");
        mostCalls(edges);
        edges.of("Terms");
        wholeNumbers(edges);
        edges.of("5. Cubes, the standard");
        refusalsChangeNothing(edges);
        theFirstNamedIsThrown(edges);
        nothingIsChangedByWhatWouldBe(edges);
        edges.of("Promise 1");
        aNewObject(edges);
    }

    private static void mostCalls(Edges edges) {
        edges.edge("An object is used for at most 512 calls after it has been made", checks -> {
            ClinkerWorks works = new ClinkerWorks();
            works.block(200, 9, 9, 9, 9);
            int calls = 1;
            while (calls < MOST_CALLS - 2) {
                works.run(30);
                calls++;
            }
            checks.same("NOW, by the most STEPS", works.many(6), 30 * (calls - 1));
            checks.same("the last call", works.blast(0, 9), 9);
        });
    }

    private static void wholeNumbers(Edges edges) {
        edges.edge("All numbers are whole; what is divided is rounded down.", checks -> {
            // 900 by 8 is 112.5, 20 by 1 is 20, and 10 by 0; with 1 of IRON 30 by 4 is 7.5.
            checks.same("SATURATION", Fixtures.charged(Fixtures.stone(1, 9, 2, 1, 0)).modulus(0, 0), 112);
            checks.same("SILICA MODULUS", Fixtures.charged(Fixtures.stone(1, 9, 3, 3, 1)).modulus(0, 1), 7);
            checks.same("ALUMINA MODULUS", Fixtures.charged(Fixtures.stone(1, 9, 3, 5, 3)).modulus(0, 2), 16);
            ClinkerWorks kiln = new ClinkerWorks();
            kiln.coal(9);
            kiln.flame(3);
            kiln.run(1);
            checks.same("9 by 2", kiln.ofCell(4, 0), 4);
            checks.same("8 by 3", kiln.ofCell(3, 0), 2);
        });
        edges.edge("NONE is -1.", checks -> {
            ClinkerWorks works = Fixtures.coldLots(1);
            checks.same("row()", works.row(0, 0), -1);
            checks.same("ofLot()", works.ofLot(0, 11), -1);
            checks.same("bestCharge()", works.bestCharge(1), -1);
            checks.same("freeAfter()", works.freeAfter(1, 0), -1);
            checks.same("letFall()", works.letFall(1), -1);
        });
    }

    // ---- refusals

    /** Something of all: BLOCKS, 8 LAYERS, three that wait, a full kiln, a RING, LOTS of all kinds, a SHUT SILO. */
    private static ClinkerWorks midway() {
        ClinkerWorks works = Fixtures.burntLots(5, 2, 3);
        for (int block = 1; block < 6; block++) {
            works.block(20 * block, 9, block % 3, 3, 4);
        }
        works.charge(9, 1, 0, 0);
        works.run(6);
        for (int layer = 1; layer < 8; layer++) {
            works.blast(1 + layer % 2, 2 * layer - 1);
        }
        for (int i = 0; i < 8; i++) {
            works.charge(4 + i % 3, i % 2, 0, i % 3);
            works.run(1);
        }
        for (int i = 0; i < 3; i++) {
            works.charge(2 + i, 0, i, 0);
        }
        while (works.many(1) < 8) {
            works.blast(2, 1);
        }
        works.cube(0, 2);
        works.cube(0, 1);
        works.cube(1, 1);
        works.cube(2, 0);
        return works;
    }

    private static void refusalsChangeNothing(Edges edges) {
        edges.edge("A method that throws an exception changes nothing.", checks -> {
            ClinkerWorks spared = midway();
            ClinkerWorks refusing = midway();
            checks.same("8 LAYERS", refusing.many(1), 8);
            checks.same("three wait", refusing.many(3), 3);
            checks.same("the SILO 0 is SHUT", refusing.many(16), 1);
            int refused = 0;
            for (Runnable call : allRefusals(refusing)) {
                refused += isRefused(call) ? 1 : 0;
            }
            checks.same("all are refused", refused, allRefusals(refusing).size());
            List<Long> due = lateAnswers(spared);
            List<Long> got = lateAnswers(refusing);
            for (int i = 0; i < due.size(); i++) {
                checks.same("the answer " + i + " behind all refusals", got.get(i), due.get(i));
            }
        });
    }

    private static boolean isRefused(Runnable call) {
        try {
            call.run();
            return false;
        } catch (IndexOutOfBoundsException | IllegalArgumentException | IllegalStateException thrown) {
            return true;
        }
    }

    private static List<Runnable> allRefusals(ClinkerWorks works) {
        List<Runnable> calls = new ArrayList<>();
        calls.add(() -> works.block(1, 1, 1, 1, 1));
        calls.add(() -> works.block(201, 1, 1, 1, 1));
        calls.add(() -> works.block(1, 1, 1, 1, 10));
        calls.add(() -> works.drill(6));
        calls.add(() -> works.blast(6, 1));
        calls.add(() -> works.blast(5, 100));
        calls.add(() -> works.blast(5, 1));
        calls.add(() -> works.charge(10, 0, 0, 0));
        calls.add(() -> works.charge(1, 0, 0, 4));
        calls.add(() -> works.charge(1, 1, 1, 1));
        calls.add(() -> works.flame(10));
        calls.add(() -> works.coal(0));
        calls.add(() -> works.coal(999));
        calls.add(() -> works.run(31));
        calls.add(() -> works.run(0));
        calls.add(() -> works.grind(99, 5, 2, 0));
        calls.add(() -> works.grind(3, 5, 2, 2));
        calls.add(() -> works.grind(3, 0, 2, 1));
        calls.add(() -> works.grind(3, 5, 10, 1));
        calls.add(() -> works.grind(2, 9, 9, 1));
        calls.add(() -> works.sell(2, 1));
        calls.add(() -> works.sell(1, 1000));
        calls.add(() -> works.sell(1, 0));
        calls.add(() -> works.sell(0, 1));
        calls.add(() -> works.open(2));
        calls.add(() -> works.cube(99, 2));
        calls.add(() -> works.cube(1, 3));
        calls.add(() -> works.cube(3, 2));
        calls.add(() -> works.cube(0, 2));
        calls.add(() -> works.standard(100));
        calls.add(() -> works.ofBlock(0, 6));
        calls.add(() -> works.ofLayer(0, 2));
        calls.add(() -> works.ofCell(0, 8));
        calls.add(() -> works.ofLot(0, 22));
        calls.add(() -> works.modulus(0, 4));
        calls.add(() -> works.row(0, -1));
        calls.add(() -> works.many(18));
        calls.add(() -> works.thought(2));
        calls.add(() -> works.bestCharge(10));
        calls.add(() -> works.freeAfter(13, 0));
        calls.add(() -> works.freeAfter(12, 10));
        calls.add(() -> works.letFall(13));
        return calls;
    }

    /** What is hidden now comes to light as it goes on: what waits comes out, is ground, and sold. */
    private static List<Long> lateAnswers(ClinkerWorks works) {
        List<Long> answers = new ArrayList<>();
        answers.add(works.digest());
        for (int i = 0; i < 12; i++) {
            answers.add((long) works.run(1));
            answers.add(works.digest());
        }
        works.open(0);
        for (int lot = 0; lot < works.many(10); lot++) {
            if (works.ofLot(lot, 11) < 0) {
                answers.add((long) works.grind(lot, 6, 3, lot % 2));
                answers.add((long) works.cube(lot, 2));
            }
            works.open(lot % 2);
            answers.add(works.digest());
        }
        answers.add((long) works.sell(0, 999));
        answers.add((long) works.sell(1, 999));
        answers.add((long) (works.meanFound() * 60));
        answers.add((long) works.charge(9, 0, 0, 0));
        answers.add((long) works.run(30));
        answers.add(works.digest());
        return answers;
    }

    private static void theFirstNamedIsThrown(Edges edges) {
        edges.edge("If several exceptions apply, the one that is named first is thrown.", checks -> {
            ClinkerWorks works = midway();
            argumentsAheadOfStates(checks, works);
            indexesAheadOfAll(checks, works);
            indexesAheadOfQuestions(checks, works);
            ClinkerWorks none = new ClinkerWorks();
            checks.refusesArgument("charge, no PILE", none, () -> none.charge(0, 0, 0, 0));
            checks.refusesArgument("bestCharge, no PILE", none, () -> none.bestCharge(0));
            checks.refusesArgument("bestCharge, no PILE", none, () -> none.bestCharge(10));
        });
    }

    private static void argumentsAheadOfStates(Checks checks, ClinkerWorks works) {
        checks.refusesArgument("block, there are 6", works, () -> works.block(-1, 1, 1, 1, 1));
        checks.refusesArgument("block, there are 6", works, () -> works.block(1, 1, 1, 1, 10));
        checks.refusesArgument("blast, 8 LAYERS", works, () -> works.blast(5, 0));
        checks.refusesArgument("charge, 3 wait", works, () -> works.charge(1, 4, 0, 0));
        checks.refusesArgument("charge, 3 wait", works, () -> works.charge(10, 0, 0, 0));
        checks.refusesArgument("grind, ground", works, () -> works.grind(0, 10, 2, 0));
        checks.refusesArgument("grind, ground", works, () -> works.grind(0, 5, -1, 0));
        checks.refusesArgument("sell, SHUT", works, () -> works.sell(0, 0));
        checks.refusesArgument("cube, not ground", works, () -> works.cube(3, 3));
    }

    private static void indexesAheadOfAll(Checks checks, ClinkerWorks works) {
        checks.refusesIndex("blast, parts 0", works, () -> works.blast(6, 0));
        checks.refusesIndex("blast, 8 LAYERS", works, () -> works.blast(6, 1));
        checks.refusesIndex("grind, fineness 0", works, () -> works.grind(99, 0, 2, 0));
        checks.refusesIndex("grind, gypsum 10", works, () -> works.grind(3, 5, 10, 2));
        checks.refusesIndex("grind, fineness 0", works, () -> works.grind(3, 0, 2, 2));
        checks.refusesIndex("grind, ground", works, () -> works.grind(0, 5, 2, 2));
        checks.refusesIndex("sell, sacks 0", works, () -> works.sell(2, 0));
        checks.refusesIndex("cube, age 3", works, () -> works.cube(99, 3));
    }

    private static void indexesAheadOfQuestions(Checks checks, ClinkerWorks works) {
        checks.refusesIndex("ofBlock", works, () -> works.ofBlock(6, 6));
        checks.refusesIndex("ofLayer", works, () -> works.ofLayer(8, 2));
        checks.refusesIndex("ofCell", works, () -> works.ofCell(5, 8));
        checks.refusesIndex("ofLot", works, () -> works.ofLot(99, 22));
        checks.refusesIndex("modulus", works, () -> works.modulus(3, 4));
        checks.refusesIndex("row", works, () -> works.row(2, -1));
    }

    private static void nothingIsChangedByWhatWouldBe(Edges edges) {
        edges.edge("---- what would be (nothing is changed).", checks -> {
            ClinkerWorks asked = midway();
            ClinkerWorks spared = midway();
            for (int steps = 1; steps <= 12; steps++) {
                asked.freeAfter(steps, steps % 10);
                asked.letFall(steps);
            }
            for (int cut = 1; cut <= 9; cut++) {
                asked.bestCharge(cut);
            }
            asked.thought(0);
            asked.digest();
            List<Long> due = lateAnswers(spared);
            List<Long> got = lateAnswers(asked);
            for (int i = 0; i < due.size(); i++) {
                checks.same("the answer " + i + " behind all questions", got.get(i), due.get(i));
            }
        });
    }

    // ---- promise 1

    private static void aNewObject(Edges edges) {
        edges.edge("Creates a works without BLOCKS.", checks -> {
            ClinkerWorks works = new ClinkerWorks();
            for (int what = 0; what < 17; what++) {
                checks.same("many(" + what + ")", works.many(what), 0);
            }
            checks.same("the STANDARD", works.many(17), 6);
            checks.refusesIndex("no BLOCK 0", works, () -> works.ofBlock(0, 0));
            checks.same("the first BLOCK", works.block(1, 1, 1, 1, 1), 0);
            checks.same("another works has none", new ClinkerWorks().many(0), 0);
        });
    }
}

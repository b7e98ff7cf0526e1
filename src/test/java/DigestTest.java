/** Promises 21 and 28: many(), each number by itself, and the digest by what the other calls answer. */
public final class DigestTest {
    private static final Checks checks = new Checks("DigestTest");

    public static void main(String[] args) {
        checks.same("digest of a new object", new ClinkerWorks().digest(), -9215206241319516356L);
        eachStateHasItsDigest();
        manyTellsEach();
        checks.finish();
    }

    /** Each state by an object of its own: to tell what is due takes hundreds of calls, and 512 are promised. */
    private static void eachStateHasItsDigest() {
        for (int moves = 0; moves <= 60; moves++) {
            ClinkerWorks works = new ClinkerWorks();
            for (int move = 0; move < moves; move++) {
                doMove(works, move);
            }
            checks.same("digest() behind " + moves + " moves", works.digest(), DueDigest.of(works));
        }
    }

    private static void doMove(ClinkerWorks works, int move) {
        if (move < 6) {
            begin(works, move);
        } else if (move < 30) {
            burn(works, move - 6);
        } else if (move == 30) {
            works.run(20);
        } else {
            use(works, move - 31);
        }
    }

    private static void begin(ClinkerWorks works, int move) {
        switch (move) {
            case 0: works.block(200, 9, 3, 1, 1); break;
            case 1: works.block(100, 9, 1, 2, 0); break;
            case 2: works.blast(0, 2); break;
            case 3: works.blast(1, 1); break;
            case 4: works.blast(0, 90); break;
            default:
                works.coal(999);
                works.flame(9);
                break;
        }
    }

    private static void burn(ClinkerWorks works, int move) {
        int round = move / 3;
        if (move % 3 == 0) {
            works.charge(6, round % 3, round % 2, 0);
            works.charge(3, 0, 0, round % 3);
        } else if (move % 3 == 1) {
            works.run(4);
        } else {
            works.hammer();
        }
    }

    private static void use(ClinkerWorks works, int move) {
        int lot = move / 3;
        if (lot >= works.many(10)) {
            works.run(1);
        } else if (move % 3 == 0) {
            works.grind(lot, 1 + lot % 9, 2, lot % 3 / 2);
        } else if (move % 3 == 1) {
            works.cube(lot, (lot + 1) % 3);
        } else {
            works.cube(lot, (lot + 2) % 3);
            works.open(1);
            works.sell(1, 9);
        }
    }

    private static void manyTellsEach() {
        ClinkerWorks works = new ClinkerWorks();
        works.block(60, 0, 2, 3, 3);
        works.block(60, 1, 0, 3, 4);
        works.block(60, 1, 1, 1, 1);
        works.blast(0, 40);
        works.blast(1, 7);
        works.coal(500);
        works.flame(9);
        works.run(6);
        for (int i = 0; i < 4; i++) {
            works.charge(1, 0, 0, 0);
            works.run(1);
        }
        works.charge(1, 0, 0, 0);
        works.run(4);
        works.charge(1, 0, 0, 0);
        works.charge(1, 0, 0, 0);
        works.grind(0, 6, 2, 0);
        works.grind(1, 5, 2, 1);
        works.sell(0, 3);
        works.cube(1, 2);
        works.flame(8);
        works.standard(17);
        int[] due = {3, 2, 40, 2, 8, 374, 14, 5, 0, 0, 3, 0, 252, 12, 1, 1, 2, 17};
        for (int what = 0; what < due.length; what++) {
            checks.same("many(" + what + ")", works.many(what), due[what]);
        }
        works.flame(0);
        works.run(30);
        checks.same("how often a RING FELL", works.many(8), 1);
        checks.same("no RING", works.many(7), 0);
    }
}

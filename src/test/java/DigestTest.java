/** Promises 21 and 28: many(), each number by itself, and the digest by what the other calls answer. */
public final class DigestTest {
    private static final Checks checks = new Checks("DigestTest");

    public static void main(String[] args) {
        checks.same("digest of a new object", new ClinkerWorks().digest(), -9215206241319516356L);
        eachStateHasItsDigest();
        manyTellsEach();
        checks.finish();
    }

    private static void eachStateHasItsDigest() {
        ClinkerWorks works = new ClinkerWorks();
        works.block(200, 9, 3, 1, 1);
        works.block(100, 9, 1, 2, 0);
        digestIsDue(works);
        works.blast(0, 2);
        digestIsDue(works);
        works.blast(1, 1);
        digestIsDue(works);
        works.blast(0, 90);
        works.coal(999);
        works.flame(9);
        for (int lot = 0; lot < 8; lot++) {
            works.charge(6, lot % 3, lot % 2, 0);
            works.charge(3, 0, 0, lot % 3);
            digestIsDue(works);
            works.run(4);
            digestIsDue(works);
            works.hammer();
        }
        works.run(20);
        for (int lot = 0; lot < works.many(10); lot++) {
            works.grind(lot, 1 + lot % 9, 2, lot % 3 / 2);
            digestIsDue(works);
            works.cube(lot, (lot + 1) % 3);
            digestIsDue(works);
            works.cube(lot, (lot + 2) % 3);
            works.open(1);
            works.sell(1, 9);
            digestIsDue(works);
        }
    }

    private static void digestIsDue(ClinkerWorks works) {
        long d = 5407;
        for (int what = 0; what <= 17; what++) {
            d = d * 31 + works.many(what);
        }
        for (int block = 0; block < works.many(0); block++) {
            for (int what = 0; what <= 5; what++) {
                d = d * 31 + works.ofBlock(block, what);
            }
        }
        for (int layer = 0; layer < works.many(1); layer++) {
            d = (d * 31 + works.ofLayer(layer, 0)) * 31 + works.ofLayer(layer, 1);
        }
        for (int cell = 0; cell < 5; cell++) {
            for (int what = 0; what <= 7; what++) {
                d = d * 31 + works.ofCell(cell, what);
            }
        }
        for (int charge = 0; charge < works.many(3); charge++) {
            for (int what = 0; what <= 3; what++) {
                d = d * 31 + works.modulus(charge, what);
            }
        }
        for (int lot = 0; lot < works.many(10); lot++) {
            for (int what = 0; what <= 21; what++) {
                d = d * 31 + works.ofLot(lot, what);
            }
            if (works.ofLot(lot, 14) != -1) {
                d = d * 31 + works.thought(lot);
            }
        }
        for (int silo = 0; silo <= 1; silo++) {
            for (int k = 0; k <= 2; k++) {
                d = d * 31 + works.row(silo, k);
            }
        }
        d = d * 31 + (works.isConform() ? 1 : 0);
        if (works.many(2) >= 3) {
            d = d * 31 + works.bestCharge(3);
        }
        d = d * 31 + works.freeAfter(5, 6);
        d = d * 31 + works.letFall(5);
        checks.same("digest()", works.digest(), d);
    }

    private static void manyTellsEach() {
        ClinkerWorks works = new ClinkerWorks();
        works.block(60, 0, 2, 3, 3);
        works.block(60, 1, 0, 3, 4);
        works.block(60, 1, 1, 1, 1);
        works.blast(0, 40);
        works.blast(1, 7);
        works.coal(500);
        works.flame(9);
        works.run(6);
        for (int i = 0; i < 4; i++) {
            works.charge(1, 0, 0, 0);
            works.run(1);
        }
        works.charge(1, 0, 0, 0);
        works.run(4);
        works.charge(1, 0, 0, 0);
        works.charge(1, 0, 0, 0);
        works.grind(0, 6, 2, 0);
        works.grind(1, 5, 2, 1);
        works.sell(0, 3);
        works.cube(1, 2);
        works.flame(8);
        works.standard(17);
        int[] due = {3, 2, 40, 2, 8, 374, 14, 5, 0, 0, 3, 0, 252, 12, 1, 1, 2, 17};
        for (int what = 0; what < due.length; what++) {
            checks.same("many(" + what + ")", works.many(what), due[what]);
        }
        works.flame(0);
        works.run(30);
        checks.same("how often a RING FELL", works.many(8), 1);
        checks.same("no RING", works.many(7), 0);
    }
}

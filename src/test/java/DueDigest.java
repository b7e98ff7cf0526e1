import java.math.BigInteger;
import java.util.ArrayList;
import java.util.List;

/** The digest by what the other calls answer, reckoned without a bound and cut to 64 bits behind all. */
final class DueDigest {
    private DueDigest() {
    }

    static long of(ClinkerWorks works) {
        return unbounded(works).longValue();
    }

    static BigInteger unbounded(ClinkerWorks works) {
        BigInteger d = BigInteger.valueOf(5407);
        for (int value : values(works)) {
            d = d.multiply(BigInteger.valueOf(31)).add(BigInteger.valueOf(value));
        }
        return d;
    }

    private static List<Integer> values(ClinkerWorks works) {
        List<Integer> all = new ArrayList<>();
        for (int what = 0; what <= 17; what++) {
            all.add(works.many(what));
        }
        addStone(works, all);
        addKiln(works, all);
        addLots(works, all);
        for (int silo = 0; silo <= 1; silo++) {
            for (int k = 0; k <= 2; k++) {
                all.add(works.row(silo, k));
            }
        }
        all.add(works.isConform() ? 1 : 0);
        if (works.many(2) >= 3) {
            all.add(works.bestCharge(3));
        }
        all.add(works.freeAfter(5, 6));
        all.add(works.letFall(5));
        return all;
    }

    private static void addStone(ClinkerWorks works, List<Integer> all) {
        for (int block = 0; block < works.many(0); block++) {
            for (int what = 0; what <= 5; what++) {
                all.add(works.ofBlock(block, what));
            }
        }
        for (int layer = 0; layer < works.many(1); layer++) {
            all.add(works.ofLayer(layer, 0));
            all.add(works.ofLayer(layer, 1));
        }
    }

    private static void addKiln(ClinkerWorks works, List<Integer> all) {
        for (int cell = 0; cell < 5; cell++) {
            for (int what = 0; what <= 7; what++) {
                all.add(works.ofCell(cell, what));
            }
        }
        for (int charge = 0; charge < works.many(3); charge++) {
            for (int what = 0; what <= 3; what++) {
                all.add(works.modulus(charge, what));
            }
        }
    }

    private static void addLots(ClinkerWorks works, List<Integer> all) {
        for (int lot = 0; lot < works.many(10); lot++) {
            for (int what = 0; what <= 21; what++) {
                all.add(works.ofLot(lot, what));
            }
            if (works.ofLot(lot, 14) != -1) {
                all.add(works.thought(lot));
            }
        }
    }
}

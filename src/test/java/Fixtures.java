/** Works as the tests of edges need them; a row of stone is its PARTS, LIME, SILICA, ALUMINA and IRON. */
final class Fixtures {
    private Fixtures() {
    }

    static int[] stone(int parts, int lime, int silica, int alumina, int iron) {
        return new int[] {parts, lime, silica, alumina, iron};
    }

    /** Rows of 9 PARTS in all, which together have so much LIME, SILICA, ALUMINA and IRON (81 each at most). */
    static int[][] having(int... oxides) {
        int[][] rows = new int[6][];
        int[] left = oxides.clone();
        for (int i = 0; i < 6; i++) {
            rows[i] = stone(i < 3 ? 2 : 1, 0, 0, 0, 0);
            for (int oxide = 0; oxide < 4; oxide++) {
                rows[i][1 + oxide] = Math.min(9, left[oxide] / rows[i][0]);
                left[oxide] -= rows[i][1 + oxide] * rows[i][0];
            }
        }
        return rows;
    }

    /** Each row is a BLOCK, and all of it a LAYER. */
    static ClinkerWorks pile(int[]... rows) {
        ClinkerWorks works = new ClinkerWorks();
        for (int[] row : rows) {
            int block = works.block(row[0], row[1], row[2], row[3], row[4]);
            works.blast(block, row[0]);
        }
        return works;
    }

    /** All of the PILE is CUT, so that the CHARGE has all that the rows have. */
    static ClinkerWorks charged(int[]... rows) {
        ClinkerWorks works = pile(rows);
        works.charge(works.many(2), 0, 0, 0);
        return works;
    }

    /** That CHARGE goes on by a STEP for each FLAME, so it is in the CELL 4 behind five of them. */
    static ClinkerWorks burnt(int[] flames, int[]... rows) {
        ClinkerWorks works = charged(rows);
        works.coal(99);
        for (int flame : flames) {
            works.flame(flame);
            works.run(1);
        }
        return works;
    }

    /** That CHARGE is in the CELL 4, at that WARMTH, and was cold in all CELLS ahead of it. */
    static ClinkerWorks heated(int warmth, int[]... rows) {
        // A WARMTH of 1 in the CELL 4 leaves the CELL 3 at 0, and with it all from 0 to 14 can be met.
        int before = flameFor(0, warmth) < 0 ? 1 : 0;
        return burnt(new int[] {0, 0, 0, before, flameFor(before, warmth)}, rows);
    }

    private static int flameFor(int before, int due) {
        for (int flame = 0; flame <= 9; flame++) {
            if ((before + 3 * flame) / 2 == due) {
                return flame;
            }
        }
        return -1;
    }

    /** LOTS that have so much SILICA each, which never were warm. */
    static ClinkerWorks coldLots(int... silicaOfLots) {
        ClinkerWorks works = pile(stone(99, 0, 1, 0, 0));
        for (int silica : silicaOfLots) {
            works.charge(silica, 0, 0, 0);
            works.run(6);
        }
        return works;
    }

    /** LOTS that would have 12 SACKS, and have 3 ALITE and no FREE lime. */
    static ClinkerWorks hotLots(int count) {
        ClinkerWorks works = pile(stone(99, 9, 3, 0, 0));
        works.coal(999);
        works.flame(9);
        works.run(6);
        for (int lot = 0; lot < count; lot++) {
            works.charge(1, 0, 0, 0);
            works.run(6);
        }
        return works;
    }

    /** Those, ground into the SILOS in turn: 10 at the AGE 2, if GYPSUM is 2, and 3 less for each more. */
    static ClinkerWorks burntLots(int... gypsumOfLots) {
        ClinkerWorks works = hotLots(gypsumOfLots.length);
        for (int lot = 0; lot < gypsumOfLots.length; lot++) {
            works.grind(lot, 5, gypsumOfLots[lot], lot % 2);
        }
        return works;
    }

    /** The first CHARGE of them comes into the CELL 3, which has a WARMTH of 8 (7, if it has RAW), by a FLAME of 5. */
    static ClinkerWorks inCellThree(int lime, int alumina, int iron) {
        ClinkerWorks works = charged(stone(1, lime, 0, alumina, iron));
        works.run(2);
        works.coal(999);
        works.flame(5);
        works.run(2);
        return works;
    }

    /** As many CHARGES with a MELT of 6 as the RING is to be went into the hot CELL 3, the last one just now. */
    static ClinkerWorks withRing(int ring) {
        ClinkerWorks works = pile(stone(99, 0, 0, 3, 3));
        works.coal(999);
        works.flame(9);
        works.run(6);
        for (int i = 0; i < ring; i++) {
            works.charge(1, 0, 0, 0);
            works.run(1);
        }
        works.run(3);
        return works;
    }
}

import java.util.ArrayList;
import java.util.List;

/** The document once more, as slow and plain lists: what the class answers is held against it. */
final class Shadow {
    private static final int[][] BINS = {{0, 9, 0, 0}, {0, 3, 6, 0}, {0, 0, 0, 9}};
    private static final int[] UNKNOWN = {5, 2, 1, 0};

    /** A CHARGE, and as it came out a LOT. */
    private static final class Batch {
        final int[] has = new int[4];
        final int[] of = new int[6];
        int raw, free, sand, belite, alite;
        int fineness = -1, gypsum = -1, silo = -1, sacks = 0, sacksAtFirst = 0;
        final int[] found = {-1, -1, -1};

        int melt() {
            return has[2] + has[3];
        }

        Batch copy() {
            Batch other = new Batch();
            System.arraycopy(has, 0, other.has, 0, 4);
            System.arraycopy(of, 0, other.of, 0, 6);
            other.raw = raw;
            other.free = free;
            other.sand = sand;
            other.belite = belite;
            other.alite = alite;
            return other;
        }
    }

    private static final class Fire {
        final Batch[] cells = new Batch[5];
        final int[] warmth = new int[5];
        final List<Batch> queue = new ArrayList<>();
        final List<Batch> cameOut = new ArrayList<>();
        int flame, coal, ring, now, fell, stuck, gas;

        Fire copy() {
            Fire other = new Fire();
            for (int i = 0; i < 5; i++) {
                other.cells[i] = cells[i] == null ? null : cells[i].copy();
                other.warmth[i] = warmth[i];
            }
            for (Batch each : queue) {
                other.queue.add(each.copy());
            }
            other.flame = flame;
            other.coal = coal;
            other.ring = ring;
            other.now = now;
            other.fell = fell;
            other.stuck = stuck;
            other.gas = gas;
            return other;
        }

        void step() {
            now += 1;
            int burns = 0;
            if (coal >= flame) {
                burns = flame;
                coal -= flame;
            }
            gas += burns * 2;
            if (ring < 6) {
                if (cells[4] != null) {
                    cameOut.add(cells[4]);
                }
                for (int i = 4; i >= 1; i--) {
                    cells[i] = cells[i - 1];
                }
                cells[0] = queue.isEmpty() ? null : queue.remove(0);
            } else {
                stuck++;
            }
            warmth[4] = (warmth[4] + burns * 3) / 2;
            for (int i = 3; i >= 0; i--) {
                warmth[i] = (warmth[i] + warmth[i + 1] + warmth[i + 1]) / 3;
                if (cells[i] != null && cells[i].raw > 0 && warmth[i] > 0) {
                    warmth[i]--;
                }
            }
            for (int i = 0; i < 5; i++) {
                if (cells[i] != null) {
                    react(cells[i], warmth[i]);
                }
            }
            if (cells[3] != null && cells[3].melt() > 5 && warmth[3] > 7) {
                ring++;
            } else if (warmth[3] <= 4 && ring != 0) {
                ring = 0;
                fell++;
            }
        }

        /** One by one, as the document tells it. */
        private void react(Batch in, int warm) {
            for (int i = 5; i <= warm; i++) {
                if (in.raw > 0) {
                    in.raw--;
                    in.free++;
                    gas++;
                }
            }
            for (int i = 7; i <= warm; i++) {
                if (in.free >= 2 && in.sand >= 1) {
                    in.free -= 2;
                    in.sand--;
                    in.belite++;
                }
            }
            int often = warm >= 9 ? warm - 8 + in.melt() / 4 : 0;
            for (int i = 0; i < often; i++) {
                if (in.free >= 1 && in.belite >= 1) {
                    in.free--;
                    in.belite--;
                    in.alite++;
                }
            }
        }
    }

    /** STONE, KNOWN, and the OXIDES. */
    private final List<int[]> blocks = new ArrayList<>();
    /** BLOCK and PARTS. */
    private final List<int[]> pile = new ArrayList<>();
    private Fire fire = new Fire();
    private final List<Batch> lots = new ArrayList<>();
    private final List<List<Integer>> silos = List.of(new ArrayList<>(), new ArrayList<>());
    private final boolean[] shut = new boolean[2];
    private final List<Integer> window = new ArrayList<>();
    private int dumped, money, claims, standard = 6;

    private static void index(boolean fits) {
        if (!fits) {
            throw new IndexOutOfBoundsException();
        }
    }

    private static void argument(int value, int least, int most) {
        if (value < least || value > most) {
            throw new IllegalArgumentException();
        }
    }

    private static void state(boolean fits) {
        if (!fits) {
            throw new IllegalStateException();
        }
    }

    private static boolean in(int value, int size) {
        return 0 <= value && value < size;
    }

    private static boolean between(int value, int least, int most) {
        return least <= value && value <= most;
    }

    private int onPile() {
        int sum = 0;
        for (int[] layer : pile) {
            sum += layer[1];
        }
        return sum;
    }

    int block(int stone, int lime, int silica, int alumina, int iron) {
        argument(stone, 0, 200);
        for (int each : new int[] {lime, silica, alumina, iron}) {
            argument(each, 0, 9);
        }
        state(blocks.size() < 6);
        blocks.add(new int[] {stone, 0, lime, silica, alumina, iron});
        return blocks.size() - 1;
    }

    boolean drill(int block) {
        index(in(block, blocks.size()));
        boolean was = blocks.get(block)[1] == 0;
        blocks.get(block)[1] = 1;
        return was;
    }

    int blast(int block, int parts) {
        index(in(block, blocks.size()));
        argument(parts, 1, 99);
        int[] of = blocks.get(block);
        state(of[0] > 0 && pile.size() < 8);
        int all = Math.min(parts, of[0]);
        of[0] -= all;
        of[1] = 1;
        pile.add(new int[] {block, all});
        return all;
    }

    /** How many PARTS of each LAYER would be CUT. */
    private int[] cutOf(int cut) {
        int[] taken = new int[pile.size()];
        int lacks = cut;
        for (int i = 0; i < taken.length; i++) {
            taken[i] = (int) Math.floor((double) pile.get(i)[1] * cut / onPile());
            lacks -= taken[i];
        }
        for (int i = 0; lacks > 0; i = (i + 1) % taken.length) {
            if (pile.get(i)[1] > taken[i]) {
                taken[i]++;
                lacks--;
            }
        }
        return taken;
    }

    private Batch mixed(int[] taken, int one, int two, int three, boolean really) {
        Batch batch = new Batch();
        for (int i = 0; i < taken.length; i++) {
            int[] of = blocks.get(pile.get(i)[0]);
            batch.of[pile.get(i)[0]] += taken[i];
            for (int oxide = 0; oxide < 4; oxide++) {
                batch.has[oxide] += taken[i] * (really || of[1] == 1 ? of[2 + oxide] : UNKNOWN[oxide]);
            }
        }
        int[] added = {one, two, three};
        for (int bin = 0; bin < 3; bin++) {
            for (int oxide = 0; oxide < 4; oxide++) {
                batch.has[oxide] += added[bin] * BINS[bin][oxide];
            }
        }
        batch.raw = batch.has[0];
        batch.sand = batch.has[1];
        return batch;
    }

    private static int of(int has, int by) {
        return by == 0 ? 999 : has / by;
    }

    private static int modulusOf(int[] has, int what) {
        int saturation = of(has[0] * 100, has[1] * 3 + has[2] * 2 + has[3]);
        int silica = of(has[1] * 10, has[2] + has[3]);
        int alumina = of(has[2] * 10, has[3]);
        boolean right = between(saturation, 80, 110) && between(silica, 12, 40) && between(alumina, 5, 40);
        return new int[] {saturation, silica, alumina, right ? 1 : 0}[what];
    }

    int charge(int cut, int one, int two, int three) {
        argument(cut, 1, 9);
        argument(one, 0, 3);
        argument(two, 0, 3);
        argument(three, 0, 3);
        state(onPile() >= cut && fire.queue.size() < 3);
        int[] taken = cutOf(cut);
        Batch batch = mixed(taken, one, two, three, true);
        for (int i = taken.length - 1; i >= 0; i--) {
            pile.get(i)[1] -= taken[i];
            if (pile.get(i)[1] == 0) {
                pile.remove(i);
            }
        }
        fire.queue.add(batch);
        return modulusOf(batch.has, 0);
    }

    int flame(int flame) {
        argument(flame, 0, 9);
        int was = fire.flame;
        fire.flame = flame;
        return was;
    }

    int coal(int coal) {
        argument(coal, 1, 999);
        argument(coal + fire.coal, 1, 999);
        fire.coal += coal;
        return fire.coal;
    }

    int run(int steps) {
        argument(steps, 1, 30);
        fire.cameOut.clear();
        for (int i = 0; i < steps; i++) {
            fire.step();
        }
        for (Batch each : fire.cameOut) {
            if (lots.size() < 12) {
                lots.add(each);
            } else {
                dumped++;
            }
        }
        return fire.cameOut.size();
    }

    int hammer() {
        int was = fire.ring;
        fire.ring = 0;
        return was;
    }

    int grind(int lot, int fineness, int gypsum, int silo) {
        index(in(lot, lots.size()) && in(silo, 2));
        argument(fineness, 1, 9);
        argument(gypsum, 0, 9);
        Batch of = lots.get(lot);
        state(of.silo == -1);
        of.fineness = fineness;
        of.gypsum = gypsum;
        of.silo = silo;
        of.sacks = of.has[0] + of.has[1] + of.has[2] + of.has[3];
        if (of.sacks == 0) {
            of.sacks = 1;
        }
        of.sacksAtFirst = of.sacks;
        silos.get(silo).add(lot);
        return of.sacks;
    }

    int sell(int silo, int sacks) {
        index(in(silo, 2));
        argument(sacks, 1, 999);
        state(!shut[silo]);
        List<Integer> row = silos.get(silo);
        int gets = 0;
        for (int i = 0; i < sacks && !row.isEmpty(); i++) {
            Batch first = lots.get(row.get(0));
            gets += first.fineness > 5 ? 4 : 3;
            first.sacks--;
            if (first.sacks == 0) {
                row.remove(0);
            }
        }
        money += gets;
        return gets;
    }

    boolean open(int silo) {
        index(in(silo, 2));
        boolean was = shut[silo];
        shut[silo] = false;
        return was;
    }

    private static int strength(Batch of, int age) {
        int counts = of.alite * new int[] {2, 3, 4}[age] + of.belite * new int[] {0, 1, 3}[age];
        int result = counts * 10 / of.sacksAtFirst;
        result += of.fineness * (2 - age);
        result -= of.free + of.free;
        result -= 3 * Math.abs(of.has[2] / 4 + 2 - of.gypsum);
        return result < 0 ? 0 : result;
    }

    int cube(int lot, int age) {
        index(in(lot, lots.size()));
        argument(age, 0, 2);
        Batch of = lots.get(lot);
        state(of.silo != -1 && of.found[age] == -1);
        of.found[age] = strength(of, age);
        if (age == 2) {
            window.add(of.found[age]);
            if (window.size() == 7) {
                window.remove(0);
            }
            if (!isConform()) {
                claims++;
                shut[of.silo] |= of.sacks > 0;
            }
        }
        return of.found[age];
    }

    int standard(int told) {
        argument(told, 0, 99);
        int was = standard;
        standard = told;
        return was;
    }

    int ofBlock(int block, int what) {
        index(in(block, blocks.size()));
        argument(what, 0, 5);
        int[] of = blocks.get(block);
        return what < 2 || of[1] == 1 ? of[what] : UNKNOWN[what - 2];
    }

    int ofLayer(int layer, int what) {
        index(in(layer, pile.size()));
        argument(what, 0, 1);
        return pile.get(layer)[what];
    }

    int ofCell(int cell, int what) {
        index(in(cell, 5));
        argument(what, 0, 7);
        Batch of = fire.cells[cell];
        if (what == 0) {
            return fire.warmth[cell];
        }
        return of == null ? 0
            : new int[] {0, 1, of.raw, of.free, of.sand, of.belite, of.alite, of.melt()}[what];
    }

    int ofLot(int lot, int what) {
        index(in(lot, lots.size()));
        argument(what, 0, 21);
        Batch of = lots.get(lot);
        return new int[] {of.has[0], of.has[1], of.has[2], of.has[3], of.raw, of.free, of.sand, of.belite,
            of.alite, of.fineness, of.gypsum, of.silo, of.sacks, of.found[0], of.found[1], of.found[2],
            of.of[0], of.of[1], of.of[2], of.of[3], of.of[4], of.of[5]}[what];
    }

    int modulus(int charge, int what) {
        index(in(charge, fire.queue.size()));
        argument(what, 0, 3);
        return modulusOf(fire.queue.get(charge).has, what);
    }

    int row(int silo, int k) {
        index(in(silo, 2));
        argument(k, 0, Integer.MAX_VALUE);
        return k < silos.get(silo).size() ? silos.get(silo).get(k) : -1;
    }

    int many(int what) {
        argument(what, 0, 17);
        return new int[] {blocks.size(), pile.size(), onPile(), fire.queue.size(), fire.flame, fire.coal, fire.now,
            fire.ring, fire.fell, fire.stuck, lots.size(), dumped, fire.gas, money, claims, window.size(),
            (shut[0] ? 1 : 0) + (shut[1] ? 2 : 0), standard}[what];
    }

    double meanFound() {
        double sum = 0;
        for (int each : window) {
            sum += each;
        }
        return window.isEmpty() ? 0 : sum / window.size();
    }

    boolean isConform() {
        for (int each : window) {
            if (each < standard - 4) {
                return false;
            }
        }
        return window.isEmpty() || meanFound() >= standard;
    }

    int thought(int lot) {
        index(in(lot, lots.size()));
        state(lots.get(lot).found[1] != -1);
        double sum = 0;
        int others = 0;
        for (int i = 0; i < lots.size(); i++) {
            int[] found = lots.get(i).found;
            if (i != lot && found[1] != -1 && found[2] != -1) {
                sum += found[2] - found[1];
                others++;
            }
        }
        return lots.get(lot).found[1] + (others == 0 ? 10 : (int) Math.floor(sum / others));
    }

    int bestCharge(int cut) {
        argument(cut, 1, 9);
        state(onPile() >= cut);
        int best = -1;
        int fewest = 99;
        for (int number = 0; number < 334; number++) {
            int one = number / 100;
            int two = number / 10 % 10;
            int three = number % 10;
            if (two < 4 && three < 4 && one + two + three < fewest
                && modulusOf(mixed(cutOf(cut), one, two, three, false).has, 3) == 1) {
                best = number;
                fewest = one + two + three;
            }
        }
        return best;
    }

    int freeAfter(int steps, int flame) {
        argument(steps, 1, 12);
        argument(flame, 0, 9);
        Fire tried = fire.copy();
        tried.flame = flame;
        for (int i = 0; i < steps; i++) {
            tried.step();
        }
        return tried.cameOut.isEmpty() ? -1 : tried.cameOut.get(tried.cameOut.size() - 1).free;
    }

    int letFall(int steps) {
        argument(steps, 1, 12);
        for (int flame = 0; flame < 10 && fire.ring > 0; flame++) {
            Fire tried = fire.copy();
            tried.flame = flame;
            for (int i = 0; i < steps; i++) {
                tried.step();
            }
            if (tried.fell > fire.fell) {
                return flame;
            }
        }
        return -1;
    }

    long digest() {
        List<Integer> all = new ArrayList<>();
        for (int what = 0; what < 18; what++) {
            all.add(many(what));
        }
        for (int i = 0; i < blocks.size() * 6; i++) {
            all.add(ofBlock(i / 6, i % 6));
        }
        for (int i = 0; i < pile.size() * 2; i++) {
            all.add(ofLayer(i / 2, i % 2));
        }
        for (int i = 0; i < 40; i++) {
            all.add(ofCell(i / 8, i % 8));
        }
        for (int i = 0; i < fire.queue.size() * 4; i++) {
            all.add(modulus(i / 4, i % 4));
        }
        for (int lot = 0; lot < lots.size(); lot++) {
            for (int what = 0; what < 22; what++) {
                all.add(ofLot(lot, what));
            }
            if (lots.get(lot).found[1] >= 0) {
                all.add(thought(lot));
            }
        }
        for (int i = 0; i < 6; i++) {
            all.add(row(i / 3, i % 3));
        }
        all.add(isConform() ? 1 : 0);
        if (onPile() > 2) {
            all.add(bestCharge(3));
        }
        all.add(freeAfter(5, 6));
        all.add(letFall(5));
        long d = 5407;
        for (int each : all) {
            d = 31 * d + each;
        }
        return d;
    }
}

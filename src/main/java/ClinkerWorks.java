/** A works of cement. */
public final class ClinkerWorks {

    private static final int NONE = -1;

    private static final int LIME = 0;
    private static final int SILICA = 1;
    private static final int ALUMINA = 2;
    private static final int IRON = 3;
    private static final int OXIDES = 4;

    private static final int MOST_BLOCKS = 6;
    private static final int MOST_STONE = 200;
    private static final int MOST_BLASTED = 99;
    private static final int MOST_CUT = 9;
    private static final int MOST_OF_BIN = 3;
    private static final int MOST_FLAME = 9;
    private static final int MOST_COAL = 999;
    private static final int MOST_STEPS = 30;
    private static final int MOST_STEPS_AHEAD = 12;
    private static final int MOST_LOTS = 12;
    private static final int SILOS = 2;
    private static final int MOST_SOLD = 999;
    private static final int MOST_STANDARD = 99;
    private static final int AGES = 3;

    private static final int QUESTIONS_OF_BLOCK = 6;
    private static final int QUESTIONS_OF_LAYER = 2;
    private static final int QUESTIONS_OF_CELL = 8;
    private static final int QUESTIONS_OF_LOT = 22;
    private static final int QUESTIONS_OF_MODULUS = 4;
    private static final int QUESTIONS_OF_MANY = 18;

    private static final int DIGEST_START = 5407;
    private static final int DIGEST_ROW = 3;
    private static final int DIGEST_CUT = 3;
    private static final int DIGEST_STEPS = 5;
    private static final int DIGEST_FLAME = 6;

    private final Block[] blocks = new Block[MOST_BLOCKS];
    private int blockCount = 0;
    private final Pile pile = new Pile();
    private final Mix cutMix = new Mix();
    private final Mix triedMix = new Mix();
    private final Kiln kiln = new Kiln();
    private final Kiln trial = new Kiln();
    private final Lot[] lots = new Lot[MOST_LOTS];
    private int lotCount = 0;
    private int dumped = 0;
    private final Silo[] silos = new Silo[SILOS];
    private int money = 0;
    private final Window window = new Window();
    private int claims = 0;

    public ClinkerWorks() {
        for (int i = 0; i < MOST_BLOCKS; i++) {
            blocks[i] = new Block();
        }
        for (int i = 0; i < MOST_LOTS; i++) {
            lots[i] = new Lot();
        }
        for (int i = 0; i < SILOS; i++) {
            silos[i] = new Silo();
        }
    }

    // ---- stone and charges

    public int block(int stone, int lime, int silica, int alumina, int iron)
            throws IllegalArgumentException, IllegalStateException {
        needArgument(stone, 0, MOST_STONE);
        needArgument(lime, 0, 9);
        needArgument(silica, 0, 9);
        needArgument(alumina, 0, 9);
        needArgument(iron, 0, 9);
        if (blockCount >= MOST_BLOCKS) {
            throw new IllegalStateException("no more BLOCKS can be told");
        }
        blocks[blockCount].tell(stone, lime, silica, alumina, iron);
        blockCount++;
        return blockCount - 1;
    }

    public boolean drill(int block) throws IndexOutOfBoundsException {
        needIndex(block, blockCount);
        boolean wasUnknown = !blocks[block].known;
        blocks[block].known = true;
        return wasUnknown;
    }

    public int blast(int block, int parts)
            throws IndexOutOfBoundsException, IllegalArgumentException, IllegalStateException {
        needIndex(block, blockCount);
        needArgument(parts, 1, MOST_BLASTED);
        Block blasted = blocks[block];
        if (blasted.stone == 0 || pile.isFull()) {
            throw new IllegalStateException("no STONE in the BLOCK, or no room for a LAYER");
        }
        int loose = Math.min(parts, blasted.stone);
        blasted.stone -= loose;
        blasted.known = true;
        pile.addLayer(block, loose);
        return loose;
    }

    public int charge(int cut, int one, int two, int three)
            throws IllegalArgumentException, IllegalStateException {
        needArgument(cut, 1, MOST_CUT);
        needArgument(one, 0, MOST_OF_BIN);
        needArgument(two, 0, MOST_OF_BIN);
        needArgument(three, 0, MOST_OF_BIN);
        if (pile.total() < cut || kiln.isQueueFull()) {
            throw new IllegalStateException("too few PARTS on the PILE, or too many CHARGES wait");
        }
        mixCut(cut);
        cutMix.addBins(one, two, three);
        Charge made = kiln.addWaiting(cutMix);
        pile.takeShares(made.partsOfBlocks);
        return made.mix.saturation();
    }

    // ---- the kiln

    public int flame(int flame) throws IllegalArgumentException {
        needArgument(flame, 0, MOST_FLAME);
        int before = kiln.flame;
        kiln.flame = flame;
        return before;
    }

    public int coal(int coal) throws IllegalArgumentException {
        needArgument(coal, 1, MOST_COAL - kiln.coal);
        kiln.coal += coal;
        return kiln.coal;
    }

    public int run(int steps) throws IllegalArgumentException {
        needArgument(steps, 1, MOST_STEPS);
        int cameOut = 0;
        for (int i = 0; i < steps; i++) {
            if (kiln.step()) {
                cameOut++;
                storeLot(kiln.out);
            }
        }
        return cameOut;
    }

    public int hammer() {
        int before = kiln.ring;
        kiln.ring = 0;
        return before;
    }

    // ---- lots and silos

    public int grind(int lot, int fineness, int gypsum, int silo)
            throws IndexOutOfBoundsException, IllegalArgumentException, IllegalStateException {
        needIndex(lot, lotCount);
        needIndex(silo, SILOS);
        needArgument(fineness, 1, 9);
        needArgument(gypsum, 0, 9);
        if (lots[lot].isGround()) {
            throw new IllegalStateException("the LOT was ground");
        }
        lots[lot].setGround(fineness, gypsum, silo);
        silos[silo].addLot(lot);
        return lots[lot].sacks;
    }

    public int sell(int silo, int sacks)
            throws IndexOutOfBoundsException, IllegalArgumentException, IllegalStateException {
        needIndex(silo, SILOS);
        needArgument(sacks, 1, MOST_SOLD);
        if (silos[silo].shut) {
            throw new IllegalStateException("the SILO is SHUT");
        }
        int gain = takeSacks(silos[silo], sacks);
        money += gain;
        return gain;
    }

    public boolean open(int silo) throws IndexOutOfBoundsException {
        needIndex(silo, SILOS);
        boolean wasShut = silos[silo].shut;
        silos[silo].shut = false;
        return wasShut;
    }

    public int cube(int lot, int age)
            throws IndexOutOfBoundsException, IllegalArgumentException, IllegalStateException {
        needIndex(lot, lotCount);
        needArgument(age, 0, AGES - 1);
        Lot broken = lots[lot];
        if (!broken.isGround() || broken.isFound(age)) {
            throw new IllegalStateException("the LOT was not ground, or its CUBE was BROKEN");
        }
        int strength = broken.strength(age);
        broken.found[age] = strength;
        if (age == AGES - 1) {
            testFound(broken, strength);
        }
        return strength;
    }

    public int standard(int standard) throws IllegalArgumentException {
        needArgument(standard, 0, MOST_STANDARD);
        int before = window.standard;
        window.standard = standard;
        return before;
    }

    // ---- what one asks

    public int ofBlock(int block, int what) throws IndexOutOfBoundsException, IllegalArgumentException {
        needIndex(block, blockCount);
        needArgument(what, 0, QUESTIONS_OF_BLOCK - 1);
        if (what == 0) {
            return blocks[block].stone;
        }
        if (what == 1) {
            return asNumber(blocks[block].known);
        }
        return blocks[block].believed(what - 2);
    }

    public int ofLayer(int layer, int what) throws IndexOutOfBoundsException, IllegalArgumentException {
        needIndex(layer, pile.layers);
        needArgument(what, 0, QUESTIONS_OF_LAYER - 1);
        return what == 0 ? pile.blockOf[layer] : pile.parts[layer];
    }

    public int ofCell(int cell, int what) throws IndexOutOfBoundsException, IllegalArgumentException {
        needIndex(cell, Kiln.CELLS);
        needArgument(what, 0, QUESTIONS_OF_CELL - 1);
        Charge inside = kiln.cells[cell];
        if (what == 0) {
            return kiln.warmth[cell];
        }
        if (!inside.present) {
            return 0;
        }
        switch (what) {
            case 1: return 1;
            case 2: return inside.raw;
            case 3: return inside.free;
            case 4: return inside.sand;
            case 5: return inside.belite;
            case 6: return inside.alite;
            default: return inside.melt();
        }
    }

    public int ofLot(int lot, int what) throws IndexOutOfBoundsException, IllegalArgumentException {
        needIndex(lot, lotCount);
        needArgument(what, 0, QUESTIONS_OF_LOT - 1);
        Lot asked = lots[lot];
        Charge burnt = asked.burnt;
        if (what < 4) {
            return burnt.mix.amounts[what];
        }
        if (what >= 16) {
            return burnt.partsOfBlocks[what - 16];
        }
        if (what >= 13) {
            return asked.found[what - 13];
        }
        switch (what) {
            case 4: return burnt.raw;
            case 5: return burnt.free;
            case 6: return burnt.sand;
            case 7: return burnt.belite;
            case 8: return burnt.alite;
            case 9: return asked.fineness;
            case 10: return asked.gypsum;
            case 11: return asked.silo;
            default: return asked.sacks;
        }
    }

    public int modulus(int charge, int what) throws IndexOutOfBoundsException, IllegalArgumentException {
        needIndex(charge, kiln.waits);
        needArgument(what, 0, QUESTIONS_OF_MODULUS - 1);
        Mix asked = kiln.waiting[charge].mix;
        switch (what) {
            case 0: return asked.saturation();
            case 1: return asked.silicaModulus();
            case 2: return asked.aluminaModulus();
            default: return asNumber(asked.isRight());
        }
    }

    public int row(int silo, int k) throws IndexOutOfBoundsException, IllegalArgumentException {
        needIndex(silo, SILOS);
        if (k < 0) {
            throw new IllegalArgumentException("k is below 0");
        }
        return silos[silo].lotAt(k);
    }

    public int many(int what) throws IllegalArgumentException {
        needArgument(what, 0, QUESTIONS_OF_MANY - 1);
        switch (what) {
            case 0: return blockCount;
            case 1: return pile.layers;
            case 2: return pile.total();
            case 3: return kiln.waits;
            case 4: return kiln.flame;
            case 5: return kiln.coal;
            case 6: return kiln.now;
            case 7: return kiln.ring;
            case 8: return kiln.fallen;
            case 9: return kiln.blocked;
            case 10: return lotCount;
            case 11: return dumped;
            case 12: return kiln.carbon;
            case 13: return money;
            case 14: return claims;
            case 15: return window.count;
            case 16: return asNumber(silos[0].shut) + 2 * asNumber(silos[1].shut);
            default: return window.standard;
        }
    }

    public double meanFound() {
        return window.mean();
    }

    public boolean isConform() {
        return window.holds();
    }

    // ---- what would be (nothing is changed)

    public int thought(int lot) throws IndexOutOfBoundsException, IllegalStateException {
        needIndex(lot, lotCount);
        if (!lots[lot].isFound(1)) {
            throw new IllegalStateException("nothing was FOUND at the AGE 1");
        }
        return lots[lot].found[1] + usualGain(lot);
    }

    public int bestCharge(int cut) throws IllegalArgumentException, IllegalStateException {
        needArgument(cut, 1, MOST_CUT);
        if (pile.total() < cut) {
            throw new IllegalStateException("too few PARTS on the PILE");
        }
        mixCut(cut);
        for (int added = 0; added <= 3 * MOST_OF_BIN; added++) {
            int number = smallestRight(added);
            if (number != NONE) {
                return number;
            }
        }
        return NONE;
    }

    public int freeAfter(int steps, int flame) throws IllegalArgumentException {
        needArgument(steps, 1, MOST_STEPS_AHEAD);
        needArgument(flame, 0, MOST_FLAME);
        trial.copyFrom(kiln);
        trial.flame = flame;
        int free = NONE;
        for (int i = 0; i < steps; i++) {
            if (trial.step()) {
                free = trial.out.free;
            }
        }
        return free;
    }

    public int letFall(int steps) throws IllegalArgumentException {
        needArgument(steps, 1, MOST_STEPS_AHEAD);
        if (kiln.ring == 0) {
            return NONE;
        }
        for (int flame = 0; flame <= MOST_FLAME; flame++) {
            if (wouldFall(steps, flame)) {
                return flame;
            }
        }
        return NONE;
    }

    public long digest() {
        long d = digestStone(digestMany(DIGEST_START));
        d = digestLots(digestKiln(d));
        d = digestSilos(d);
        d = fold(d, asNumber(isConform()));
        if (pile.total() >= DIGEST_CUT) {
            d = fold(d, bestCharge(DIGEST_CUT));
        }
        d = fold(d, freeAfter(DIGEST_STEPS, DIGEST_FLAME));
        return fold(d, letFall(DIGEST_STEPS));
    }

    private long digestMany(long start) {
        long d = start;
        for (int what = 0; what < QUESTIONS_OF_MANY; what++) {
            d = fold(d, many(what));
        }
        return d;
    }

    private long digestStone(long start) {
        long d = start;
        for (int block = 0; block < blockCount; block++) {
            for (int what = 0; what < QUESTIONS_OF_BLOCK; what++) {
                d = fold(d, ofBlock(block, what));
            }
        }
        for (int layer = 0; layer < pile.layers; layer++) {
            for (int what = 0; what < QUESTIONS_OF_LAYER; what++) {
                d = fold(d, ofLayer(layer, what));
            }
        }
        return d;
    }

    private long digestKiln(long start) {
        long d = start;
        for (int cell = 0; cell < Kiln.CELLS; cell++) {
            for (int what = 0; what < QUESTIONS_OF_CELL; what++) {
                d = fold(d, ofCell(cell, what));
            }
        }
        for (int charge = 0; charge < kiln.waits; charge++) {
            for (int what = 0; what < QUESTIONS_OF_MODULUS; what++) {
                d = fold(d, modulus(charge, what));
            }
        }
        return d;
    }

    private long digestLots(long start) {
        long d = start;
        for (int lot = 0; lot < lotCount; lot++) {
            for (int what = 0; what < QUESTIONS_OF_LOT; what++) {
                d = fold(d, ofLot(lot, what));
            }
            if (lots[lot].isFound(1)) {
                d = fold(d, thought(lot));
            }
        }
        return d;
    }

    private long digestSilos(long start) {
        long d = start;
        for (int silo = 0; silo < SILOS; silo++) {
            for (int k = 0; k < DIGEST_ROW; k++) {
                d = fold(d, row(silo, k));
            }
        }
        return d;
    }

    private static long fold(long d, long v) {
        return d * 31 + v;
    }

    private static int asNumber(boolean holds) {
        return holds ? 1 : 0;
    }

    private static boolean isIndex(int index, int count) {
        return index >= 0 && index < count;
    }

    private static void needIndex(int index, int count) {
        if (!isIndex(index, count)) {
            throw new IndexOutOfBoundsException("there is no such one");
        }
    }

    private static void needArgument(int value, int least, int most) {
        if (value < least || value > most) {
            throw new IllegalArgumentException("a number is outside its bounds");
        }
    }

    /** What lies on the PILE was BLASTED, and so is KNOWN: what is THOUGHT of it is what it has. */
    private void mixCut(int cut) {
        pile.shareOut(cut);
        cutMix.clear();
        for (int layer = 0; layer < pile.layers; layer++) {
            int block = pile.blockOf[layer];
            if (isIndex(block, blockCount)) {
                cutMix.addStone(blocks[block], pile.shares[layer]);
            }
        }
    }

    private void storeLot(Charge burnt) {
        if (lotCount >= MOST_LOTS) {
            dumped++;
            return;
        }
        lots[lotCount].burnt.copyFrom(burnt);
        lotCount++;
    }

    private int takeSacks(Silo silo, int most) {
        int lacking = most;
        int gain = 0;
        // Each turn sells a LOT out, but for the last one.
        for (int turn = 0; turn < MOST_LOTS && lacking > 0; turn++) {
            int number = silo.lotAt(0);
            if (!isIndex(number, lotCount)) {
                break;
            }
            Lot first = lots[number];
            int taken = Math.min(lacking, first.sacks);
            gain += taken * first.price();
            first.sacks -= taken;
            lacking -= taken;
            if (first.sacks == 0) {
                silo.removeFirst();
            }
        }
        return gain;
    }

    private void testFound(Lot broken, int strength) {
        window.add(strength);
        if (window.holds()) {
            return;
        }
        claims++;
        if (broken.sacks > 0 && isIndex(broken.silo, SILOS)) {
            silos[broken.silo].shut = true;
        }
    }

    /** How much more is THOUGHT to be FOUND of a LOT at the AGE 2 than at the AGE 1. */
    private int usualGain(int lot) {
        int sum = 0;
        int known = 0;
        for (int other = 0; other < lotCount; other++) {
            if (other != lot && lots[other].isFound(1) && lots[other].isFound(2)) {
                sum += lots[other].found[2] - lots[other].found[1];
                known++;
            }
        }
        return known == 0 ? 10 : Math.floorDiv(sum, known);
    }

    /** The smallest number of BINS, with so many PARTS of them, that makes what was cut RIGHT. */
    private int smallestRight(int added) {
        for (int one = 0; one <= MOST_OF_BIN; one++) {
            for (int two = 0; two <= MOST_OF_BIN; two++) {
                int three = added - one - two;
                if (three >= 0 && three <= MOST_OF_BIN && isRightWith(one, two, three)) {
                    return 100 * one + 10 * two + three;
                }
            }
        }
        return NONE;
    }

    private boolean isRightWith(int one, int two, int three) {
        triedMix.copyFrom(cutMix);
        triedMix.addBins(one, two, three);
        return triedMix.isRight();
    }

    private boolean wouldFall(int steps, int flame) {
        trial.copyFrom(kiln);
        trial.flame = flame;
        for (int i = 0; i < steps; i++) {
            trial.step();
            if (trial.fallen > kiln.fallen) {
                return true;
            }
        }
        return false;
    }

    private static final class Block {
        private static final int[] BELIEVED = {5, 2, 1, 0};

        int stone = 0;
        boolean known = false;
        final int[] oxides = new int[OXIDES];

        void tell(int parts, int lime, int silica, int alumina, int iron) {
            stone = parts;
            oxides[LIME] = lime;
            oxides[SILICA] = silica;
            oxides[ALUMINA] = alumina;
            oxides[IRON] = iron;
        }

        int believed(int oxide) {
            if (!isIndex(oxide, OXIDES)) {
                return 0;
            }
            return known ? oxides[oxide] : BELIEVED[oxide];
        }
    }

    private static final class Pile {
        private static final int MOST_LAYERS = 8;

        int layers = 0;
        final int[] blockOf = new int[MOST_LAYERS];
        final int[] parts = new int[MOST_LAYERS];
        /** What the last cut takes of each LAYER. */
        final int[] shares = new int[MOST_LAYERS];

        boolean isFull() {
            return layers >= MOST_LAYERS;
        }

        int total() {
            int sum = 0;
            for (int layer = 0; layer < layers; layer++) {
                sum += parts[layer];
            }
            return sum;
        }

        void addLayer(int block, int loose) {
            if (isFull()) {
                return;
            }
            blockOf[layers] = block;
            parts[layers] = loose;
            layers++;
        }

        void shareOut(int cut) {
            int all = total();
            if (all == 0) {
                return;
            }
            int lacking = Math.min(cut, all);
            for (int layer = 0; layer < layers; layer++) {
                shares[layer] = parts[layer] * cut / all;
                lacking -= shares[layer];
            }
            // What lacks is below the cut, and a round takes at least one of it.
            for (int round = 0; round < cut && lacking > 0; round++) {
                lacking -= shareRound(lacking);
            }
        }

        private int shareRound(int lacking) {
            int taken = 0;
            for (int layer = 0; layer < layers && taken < lacking; layer++) {
                if (shares[layer] < parts[layer]) {
                    shares[layer]++;
                    taken++;
                }
            }
            return taken;
        }

        void takeShares(int[] partsOfBlocks) {
            int kept = 0;
            for (int layer = 0; layer < layers; layer++) {
                if (isIndex(blockOf[layer], partsOfBlocks.length)) {
                    partsOfBlocks[blockOf[layer]] += shares[layer];
                }
                int left = parts[layer] - shares[layer];
                if (left > 0) {
                    blockOf[kept] = blockOf[layer];
                    parts[kept] = left;
                    kept++;
                }
            }
            layers = kept;
        }
    }

    /** How much of each OXIDE is together. */
    private static final class Mix {
        private static final int NOT_DIVIDED = 999;

        final int[] amounts = new int[OXIDES];

        void clear() {
            for (int oxide = 0; oxide < OXIDES; oxide++) {
                amounts[oxide] = 0;
            }
        }

        void copyFrom(Mix other) {
            for (int oxide = 0; oxide < OXIDES; oxide++) {
                amounts[oxide] = other.amounts[oxide];
            }
        }

        void addStone(Block block, int parts) {
            for (int oxide = 0; oxide < OXIDES; oxide++) {
                amounts[oxide] += parts * block.believed(oxide);
            }
        }

        void addBins(int one, int two, int three) {
            amounts[SILICA] += 9 * one + 3 * two;
            amounts[ALUMINA] += 6 * two;
            amounts[IRON] += 9 * three;
        }

        int sum() {
            return amounts[LIME] + amounts[SILICA] + melt();
        }

        int melt() {
            return amounts[ALUMINA] + amounts[IRON];
        }

        int saturation() {
            return quotient(100 * amounts[LIME],
                    3 * amounts[SILICA] + 2 * amounts[ALUMINA] + amounts[IRON]);
        }

        int silicaModulus() {
            return quotient(10 * amounts[SILICA], melt());
        }

        int aluminaModulus() {
            return quotient(10 * amounts[ALUMINA], amounts[IRON]);
        }

        boolean isRight() {
            return isWithin(saturation(), 80, 110)
                    && isWithin(silicaModulus(), 12, 40)
                    && isWithin(aluminaModulus(), 5, 40);
        }

        private static boolean isWithin(int value, int least, int most) {
            return value >= least && value <= most;
        }

        private static int quotient(int number, int divisor) {
            return divisor == 0 ? NOT_DIVIDED : number / divisor;
        }
    }

    /** One object stands for many CHARGES, one behind the other: what is not present is a free place. */
    private static final class Charge {
        boolean present = false;
        final Mix mix = new Mix();
        final int[] partsOfBlocks = new int[MOST_BLOCKS];
        int raw = 0;
        int free = 0;
        int sand = 0;
        int belite = 0;
        int alite = 0;

        void begin(Mix mixed) {
            present = true;
            mix.copyFrom(mixed);
            for (int block = 0; block < MOST_BLOCKS; block++) {
                partsOfBlocks[block] = 0;
            }
            raw = mix.amounts[LIME];
            free = 0;
            sand = mix.amounts[SILICA];
            belite = 0;
            alite = 0;
        }

        void copyFrom(Charge other) {
            present = other.present;
            mix.copyFrom(other.mix);
            for (int block = 0; block < MOST_BLOCKS; block++) {
                partsOfBlocks[block] = other.partsOfBlocks[block];
            }
            raw = other.raw;
            free = other.free;
            sand = other.sand;
            belite = other.belite;
            alite = other.alite;
        }

        int melt() {
            return mix.melt();
        }

        /** Answers how much RAW is FREE by that. */
        int burn(int warmth) {
            int freed = 0;
            if (warmth >= 5) {
                freed = Math.min(raw, warmth - 4);
                raw -= freed;
                free += freed;
            }
            if (warmth >= 7) {
                int made = Math.min(warmth - 6, Math.min(free / 2, sand));
                free -= 2 * made;
                sand -= made;
                belite += made;
            }
            if (warmth >= 9) {
                int made = Math.min(warmth - 8 + melt() / 4, Math.min(free, belite));
                free -= made;
                belite -= made;
                alite += made;
            }
            return freed;
        }
    }

    private static final class Kiln {
        private static final int CELLS = 5;
        private static final int LAST = CELLS - 1;
        private static final int RING_CELL = 3;
        private static final int MOST_WAITING = 3;
        private static final int BLOCKING_RING = 6;

        final Charge[] cells = new Charge[CELLS];
        final int[] warmth = new int[CELLS];
        final Charge[] waiting = new Charge[MOST_WAITING];
        int waits = 0;
        /** What came out at the last step, if any did. */
        Charge out = new Charge();
        int flame = 0;
        int coal = 0;
        int ring = 0;
        int now = 0;
        int fallen = 0;
        int blocked = 0;
        int carbon = 0;

        Kiln() {
            for (int cell = 0; cell < CELLS; cell++) {
                cells[cell] = new Charge();
            }
            for (int place = 0; place < MOST_WAITING; place++) {
                waiting[place] = new Charge();
            }
        }

        void copyFrom(Kiln other) {
            for (int cell = 0; cell < CELLS; cell++) {
                cells[cell].copyFrom(other.cells[cell]);
                warmth[cell] = other.warmth[cell];
            }
            for (int place = 0; place < MOST_WAITING; place++) {
                waiting[place].copyFrom(other.waiting[place]);
            }
            waits = other.waits;
            flame = other.flame;
            coal = other.coal;
            ring = other.ring;
            now = other.now;
            fallen = other.fallen;
            blocked = other.blocked;
            carbon = other.carbon;
        }

        boolean isQueueFull() {
            return waits >= MOST_WAITING;
        }

        /** The caller has seen that there is room; a last place without any is used again. */
        Charge addWaiting(Mix mixed) {
            int place = Math.min(waits, MOST_WAITING - 1);
            waiting[place].begin(mixed);
            waits = place + 1;
            return waiting[place];
        }

        /** Answers whether a CHARGE came out. */
        boolean step() {
            now++;
            int burns = burnCoal();
            boolean cameOut = moveOn();
            warmCells(burns);
            for (int cell = 0; cell < CELLS; cell++) {
                if (cells[cell].present) {
                    carbon += cells[cell].burn(warmth[cell]);
                }
            }
            changeRing();
            return cameOut;
        }

        private int burnCoal() {
            if (coal < flame) {
                return 0;
            }
            coal -= flame;
            carbon += 2 * flame;
            return flame;
        }

        private boolean moveOn() {
            if (ring >= BLOCKING_RING) {
                blocked++;
                return false;
            }
            Charge spare = out;
            out = cells[LAST];
            for (int cell = LAST; cell > 0; cell--) {
                cells[cell] = cells[cell - 1];
            }
            cells[0] = nextWaiting(spare);
            return out.present;
        }

        /** Answers what comes into the first CELL; the spare object takes a place that gets free by that. */
        private Charge nextWaiting(Charge spare) {
            if (waits == 0) {
                spare.present = false;
                return spare;
            }
            Charge first = waiting[0];
            for (int place = 1; place < MOST_WAITING; place++) {
                waiting[place - 1] = waiting[place];
            }
            waiting[MOST_WAITING - 1] = spare;
            waits--;
            return first;
        }

        private void warmCells(int burns) {
            warmth[LAST] = (warmth[LAST] + 3 * burns) / 2;
            for (int cell = LAST - 1; cell >= 0; cell--) {
                int warm = (warmth[cell] + 2 * warmth[cell + 1]) / 3;
                if (cells[cell].present && cells[cell].raw > 0) {
                    warm--;
                }
                warmth[cell] = Math.max(0, warm);
            }
        }

        private void changeRing() {
            Charge inside = cells[RING_CELL];
            if (inside.present && inside.melt() >= 6 && warmth[RING_CELL] >= 8) {
                ring++;
            }
            if (warmth[RING_CELL] < 5 && ring > 0) {
                ring = 0;
                fallen++;
            }
        }
    }

    private static final class Lot {
        private static final int[] ALITE_COUNTS = {2, 3, 4};
        private static final int[] BELITE_COUNTS = {0, 1, 3};
        private static final int[] FINENESS_COUNTS = {2, 1, 0};

        final Charge burnt = new Charge();
        int fineness = NONE;
        int gypsum = NONE;
        int silo = NONE;
        int sacksAsGround = 0;
        int sacks = 0;
        final int[] found = {NONE, NONE, NONE};

        boolean isGround() {
            return silo != NONE;
        }

        boolean isFound(int age) {
            return isIndex(age, AGES) && found[age] != NONE;
        }

        void setGround(int fine, int gyps, int into) {
            fineness = fine;
            gypsum = gyps;
            silo = into;
            sacksAsGround = Math.max(1, burnt.mix.sum());
            sacks = sacksAsGround;
        }

        int price() {
            return fineness >= 6 ? 4 : 3;
        }

        int strength(int age) {
            if (!isIndex(age, AGES) || sacksAsGround <= 0) {
                return 0;
            }
            int grains = ALITE_COUNTS[age] * burnt.alite + BELITE_COUNTS[age] * burnt.belite;
            int fitting = burnt.mix.amounts[ALUMINA] / 4 + 2;
            int strength = 10 * grains / sacksAsGround
                    + FINENESS_COUNTS[age] * fineness
                    - 2 * burnt.free
                    - 3 * Math.abs(gypsum - fitting);
            return Math.max(0, strength);
        }
    }

    private static final class Silo {
        final int[] lots = new int[MOST_LOTS];
        int count = 0;
        boolean shut = false;

        int lotAt(int k) {
            return isIndex(k, count) ? lots[k] : NONE;
        }

        void addLot(int lot) {
            if (count >= MOST_LOTS) {
                return;
            }
            lots[count] = lot;
            count++;
        }

        void removeFirst() {
            if (count == 0) {
                return;
            }
            for (int k = 1; k < count; k++) {
                lots[k - 1] = lots[k];
            }
            count--;
        }
    }

    /** The last that were FOUND at the AGE 2, the oldest first, and what they are held against. */
    private static final class Window {
        private static final int SIZE = 6;

        final int[] strengths = new int[SIZE];
        int count = 0;
        int standard = 6;

        void add(int strength) {
            if (count >= SIZE) {
                for (int i = 1; i < SIZE; i++) {
                    strengths[i - 1] = strengths[i];
                }
                count--;
            }
            strengths[count] = strength;
            count++;
        }

        int sum() {
            int sum = 0;
            for (int i = 0; i < count; i++) {
                sum += strengths[i];
            }
            return sum;
        }

        double mean() {
            return count == 0 ? 0.0 : (double) sum() / count;
        }

        boolean holds() {
            for (int i = 0; i < count; i++) {
                if (strengths[i] < standard - 4) {
                    return false;
                }
            }
            return sum() >= standard * count;
        }
    }
}

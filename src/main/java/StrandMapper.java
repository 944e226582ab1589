/**
 * Finds all places of a genome at which a read stands, on either strand, with at most so many
 * mismatches, and writes them as lines of a map; beside that it shows the sorted suffixes.
 */
public final class StrandMapper {
    public static final int NONE = -1;
    public static final int BAD = -2;
    public static final int EMPTY = -3;
    public static final int OVERFLOW = -4;

    private static final int BASE_T = 3;
    private static final int BASE_N = 4;
    private static final int END = 5;
    private static final String LETTERS = "ACGTN";
    private static final int GENOME_LIMIT = 96;
    private static final int READ_LIMIT = 24;
    private static final int BOUND_LIMIT = 4;
    private static final int TEXT_LIMIT = 1500;
    // A read has at least one base, so that no more places than bases can have a hit.
    private static final int HIT_LIMIT = 2 * GENOME_LIMIT;

    private final Bases genome;
    private final SortedSuffixes suffixes;
    private Bases read;
    private Bases turned;
    private Mapping latest;
    private Mapping spare;
    private int mappingsDone;

    public StrandMapper() {
        genome = new Bases(GENOME_LIMIT);
        suffixes = new SortedSuffixes(genome);
        read = new Bases(READ_LIMIT);
        turned = new Bases(READ_LIMIT);
        latest = new Mapping();
        spare = new Mapping();
        mappingsDone = 0;
    }

    public boolean base(int b) {
        if (b < 0 || b > BASE_N || genome.isFull()) {
            return false;
        }
        genome.append(b);
        suffixes.forget();
        return true;
    }

    public void clear() {
        genome.empty();
        suffixes.forget();
    }

    public boolean read(int b) {
        if (b < 0 || b > BASE_T || read.isFull()) {
            return false;
        }
        read.append(b);
        return true;
    }

    public void wipe() {
        read.empty();
    }

    public void turn() {
        turned.becomeTurned(read);
        Bases before = read;
        read = turned;
        turned = before;
    }

    public int length(boolean ofRead) {
        return ofRead ? read.used : genome.used;
    }

    public int row(int i) {
        return suffixes.hasRow(i) ? suffixes.placeOfRow(i) : NONE;
    }

    public int last(int i) {
        return suffixes.hasRow(i) ? suffixes.symbolBefore(i) : NONE;
    }

    public int rank(int b, int i) {
        if (b < 0 || b > END || i < 0 || i > suffixes.rows()) {
            return BAD;
        }
        int found = 0;
        for (int earlier = 0; earlier < i; earlier++) {
            if (suffixes.symbolBefore(earlier) == b) {
                found++;
            }
        }
        return found;
    }

    public int first() {
        if (read.used == 0) {
            return NONE;
        }
        for (int i = 0; i < suffixes.rows(); i++) {
            if (genome.holdsAt(suffixes.placeOfRow(i), read)) {
                return i;
            }
        }
        return NONE;
    }

    public int count() {
        if (read.used == 0) {
            return 0;
        }
        int found = 0;
        for (int place = 0; place < genome.used; place++) {
            if (genome.holdsAt(place, read)) {
                found++;
            }
        }
        return found;
    }

    public int map(int k) {
        if (k < 0 || k > BOUND_LIMIT) {
            return BAD;
        }
        if (read.used == 0) {
            return EMPTY;
        }
        turned.becomeTurned(read);
        spare.findHits(genome, read, turned, k);
        spare.writeMap(genome, read, turned, mappingsDone + 1);
        if (spare.text.isOver()) {
            return OVERFLOW;
        }
        Mapping before = latest;
        latest = spare;
        spare = before;
        mappingsDone++;
        return latest.found.amount;
    }

    public int hits() {
        return latest.found.amount;
    }

    public int hit(int i, int what) {
        HitList found = latest.found;
        if (i < 0 || i >= found.amount) {
            return BAD;
        }
        switch (what) {
            case 0:
                return found.places[i];
            case 1:
                return found.strands[i];
            case 2:
                return found.mismatches[i];
            case 3:
                return i == found.primary ? 1 : 0;
            default:
                return BAD;
        }
    }

    public int size() {
        return latest.text.written;
    }

    public int at(int k) {
        MapText text = latest.text;
        return k < 0 || k >= text.written ? NONE : text.characters[k];
    }

    public int mappings() {
        return mappingsDone;
    }

    /** A row of bases with a limit that is set once. */
    private static final class Bases {
        private final int[] symbols;
        private int used;

        Bases(int limit) {
            symbols = new int[limit];
            used = 0;
        }

        boolean isFull() {
            return used >= symbols.length;
        }

        void append(int symbol) {
            if (!isFull()) {
                symbols[used] = symbol;
                used++;
            }
        }

        void empty() {
            used = 0;
        }

        void becomeTurned(Bases other) {
            empty();
            for (int i = other.used - 1; i >= 0; i--) {
                // The numbers of a base and its complement are together that of T.
                append(BASE_T - other.symbols[i]);
            }
        }

        boolean hasRoomAt(int place, Bases strand) {
            return place >= 0 && place + strand.used <= used;
        }

        boolean holdsAt(int place, Bases strand) {
            return hasRoomAt(place, strand) && mismatchesAt(place, strand, 0) == 0;
        }

        /** Counts to one above the bound at most, for then there is no hit. Wants room there. */
        int mismatchesAt(int place, Bases strand, int bound) {
            int mismatches = 0;
            for (int i = 0; i < strand.used && mismatches <= bound; i++) {
                if (symbols[place + i] != strand.symbols[i]) {
                    mismatches++;
                }
            }
            return mismatches;
        }
    }

    /** The suffixes of the genome in order, sorted only when asked for after a change. */
    private static final class SortedSuffixes {
        private final Bases genome;
        private final int[] rowOfPlace;
        private final int[] order;
        private boolean sorted;

        SortedSuffixes(Bases genome) {
            this.genome = genome;
            rowOfPlace = new int[GENOME_LIMIT + 1];
            order = new int[GENOME_LIMIT + 1];
            sorted = false;
        }

        void forget() {
            sorted = false;
        }

        int rows() {
            return genome.used + 1;
        }

        boolean hasRow(int i) {
            return i >= 0 && i < rows();
        }

        /** Wants a row that is there. */
        int placeOfRow(int i) {
            if (!sorted) {
                sort();
            }
            return order[i];
        }

        /** Wants a row that is there. */
        int symbolBefore(int i) {
            int place = placeOfRow(i);
            return place == 0 ? END : genome.symbols[place - 1];
        }

        // From the last place on, so that two suffixes with the same first symbol are told apart
        // by the rows that the suffixes behind that symbol already have.
        private void sort() {
            rowOfPlace[genome.used] = 0;
            for (int place = genome.used - 1; place >= 0; place--) {
                insert(place);
            }
            for (int place = 0; place <= genome.used; place++) {
                order[rowOfPlace[place]] = place;
            }
            sorted = true;
        }

        private void insert(int place) {
            int symbol = genome.symbols[place];
            int rowBehind = rowOfPlace[place + 1];
            // END alone keeps row 0 before all others.
            int row = 1;
            for (int other = place + 1; other < genome.used; other++) {
                int otherSymbol = genome.symbols[other];
                // Going upwards, the row behind the other one has not been moved yet.
                boolean otherIsLess = otherSymbol < symbol
                        || otherSymbol == symbol && rowOfPlace[other + 1] < rowBehind;
                if (otherIsLess) {
                    row++;
                } else {
                    rowOfPlace[other]++;
                }
            }
            rowOfPlace[place] = row;
        }
    }

    /** The hits of one mapping, in their order. */
    private static final class HitList {
        private final int[] places;
        private final int[] strands;
        private final int[] mismatches;
        private int amount;
        private int primary;
        private int asGoodAsPrimary;

        HitList() {
            places = new int[HIT_LIMIT];
            strands = new int[HIT_LIMIT];
            mismatches = new int[HIT_LIMIT];
            empty();
        }

        void empty() {
            amount = 0;
            primary = NONE;
            asGoodAsPrimary = 0;
        }

        void append(int place, int strand, int differing) {
            if (amount >= HIT_LIMIT) {
                return;
            }
            places[amount] = place;
            strands[amount] = strand;
            mismatches[amount] = differing;
            if (amount == 0 || differing < mismatches[primary]) {
                primary = amount;
                asGoodAsPrimary = 0;
            } else if (differing == mismatches[primary]) {
                asGoodAsPrimary++;
            }
            amount++;
        }

        int flagOf(int i) {
            return (strands[i] == 1 ? 16 : 0) + (i == primary ? 0 : 256);
        }

        int qualityOf(int i) {
            if (i != primary) {
                return 0;
            }
            if (amount == 1) {
                return 60;
            }
            if (asGoodAsPrimary == 0) {
                return 40;
            }
            return asGoodAsPrimary == 1 ? 3 : 0;
        }
    }

    /** The characters of a map; those above the limit are counted but not kept. */
    private static final class MapText {
        private final char[] characters;
        private int written;

        MapText() {
            characters = new char[TEXT_LIMIT];
            written = 0;
        }

        void empty() {
            written = 0;
        }

        boolean isOver() {
            return written > TEXT_LIMIT;
        }

        void put(char c) {
            if (written < TEXT_LIMIT) {
                characters[written] = c;
            }
            written++;
        }

        void putText(String text) {
            for (int i = 0; i < text.length(); i++) {
                put(text.charAt(i));
            }
        }

        void putNumber(int number) {
            boolean begun = false;
            for (int power = 1000000000; power > 0; power /= 10) {
                int digit = number / power % 10;
                begun = begun || digit > 0 || power == 1;
                if (begun) {
                    put((char) ('0' + digit));
                }
            }
        }

        void putBases(Bases bases) {
            for (int i = 0; i < bases.used; i++) {
                put(LETTERS.charAt(bases.symbols[i]));
            }
        }

        /** Wants room for the strand at the place. */
        void putDifferences(Bases genome, int place, Bases strand) {
            int agreeing = 0;
            for (int i = 0; i < strand.used; i++) {
                int symbol = genome.symbols[place + i];
                if (symbol == strand.symbols[i]) {
                    agreeing++;
                } else {
                    putNumber(agreeing);
                    put(LETTERS.charAt(symbol));
                    agreeing = 0;
                }
            }
            putNumber(agreeing);
        }
    }

    /** Hits and map, kept together so that a refused mapping can leave both as they were. */
    private static final class Mapping {
        private final HitList found;
        private final MapText text;

        Mapping() {
            found = new HitList();
            text = new MapText();
        }

        void findHits(Bases genome, Bases read, Bases turned, int bound) {
            found.empty();
            for (int place = 0; place < genome.used && genome.hasRoomAt(place, read); place++) {
                tryStrand(genome, place, read, 0, bound);
                tryStrand(genome, place, turned, 1, bound);
            }
        }

        private void tryStrand(Bases genome, int place, Bases strand, int number, int bound) {
            int differing = genome.mismatchesAt(place, strand, bound);
            if (differing <= bound) {
                found.append(place, number, differing);
            }
        }

        void writeMap(Bases genome, Bases read, Bases turned, int number) {
            text.empty();
            text.putText("@SQ\tSN:g\tLN:");
            text.putNumber(genome.used);
            text.putText("\n");
            if (found.amount == 0) {
                writeNoHit(read, number);
            }
            for (int i = 0; i < found.amount && !text.isOver(); i++) {
                writeHit(genome, found.strands[i] == 0 ? read : turned, number, i);
            }
        }

        private void writeNoHit(Bases read, int number) {
            text.putText("r");
            text.putNumber(number);
            text.putText("\t4\t*\t0\t0\t*\t*\t0\t0\t");
            text.putBases(read);
            text.putText("\t*\n");
        }

        private void writeHit(Bases genome, Bases strand, int number, int i) {
            text.putText("r");
            text.putNumber(number);
            text.putText("\t");
            text.putNumber(found.flagOf(i));
            text.putText("\tg\t");
            text.putNumber(found.places[i] + 1);
            text.putText("\t");
            text.putNumber(found.qualityOf(i));
            text.putText("\t");
            text.putNumber(strand.used);
            text.putText("M\t*\t0\t0\t");
            if (i == found.primary) {
                text.putBases(strand);
            } else {
                text.putText("*");
            }
            text.putText("\t*\tNM:i:");
            text.putNumber(found.mismatches[i]);
            text.putText("\tMD:Z:");
            text.putDifferences(genome, found.places[i], strand);
            text.putText("\n");
        }
    }
}

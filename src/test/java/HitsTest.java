/** A method for each sentence of the document's term HITS. */
public final class HitsTest {
    private static void dueHits(String genome, String read, int bound, String want) {
        Subject x = Subject.of(genome, read);
        x.map(bound);
        Check.due("map(" + bound + ") of " + read + " in " + genome, x.hitList(), want);
    }

    private static void placesBeginAt0() {
        Check.sentence("when p is at least 0");
        dueHits("AC", "AC", 0, "0:0:0:1");
        dueHits("CCTTT", "AACC", 0, "");
        dueHits("CCTTT", "AACC", 1, "");
        dueHits("GTTTT", "AC", 0, "0:1:0:1");
    }

    private static void placesEndWithTheGenome() {
        Check.sentence("p and the length of the read are together at most the length of the genome");
        dueHits("", "A", 4, "");
        dueHits("AAA", "AAAA", 4, "");
        dueHits("AAAA", "AAAA", 0, "0:0:0:1");
        dueHits("AAAAA", "AAAA", 0, "0:0:0:1 1:0:0:0");
        dueHits("TTT", "AAAA", 4, "");
        dueHits("TTTT", "AAAA", 0, "0:1:0:1");
        dueHits("TTTTT", "AAAA", 0, "0:1:0:1 1:1:0:0");
        dueHits("AAC", "CAA", 2, "0:0:2:1");
        dueHits("A".repeat(23), "A".repeat(24), 4, "");
        dueHits("A".repeat(24), "A".repeat(24), 4, "0:0:0:1");
        dueHits("C".repeat(72) + "A".repeat(24), "A".repeat(24), 0, "72:0:0:1");
        dueHits("C".repeat(73) + "A".repeat(23), "A".repeat(24), 0, "");
        dueHits("C".repeat(73) + "A".repeat(23), "A".repeat(24), 1, "72:0:1:1");
        dueHits("A".repeat(95) + "C", "C", 0, "95:0:0:1");
        dueHits("A".repeat(95) + "C", "G", 0, "95:1:0:1");
    }

    private static void mismatchesAreCounted() {
        Check.sentence("just m of the bases of the read differ from those of the genome from p on");
        for (int m = 0; m <= 4; m++) {
            dueHits("C".repeat(m) + "A".repeat(6 - m), "AAAAAA", 4, "0:0:" + m + ":1");
            dueHits("A".repeat(6 - m) + "C".repeat(m), "AAAAAA", 4, "0:0:" + m + ":1");
        }
        dueHits("CCCCCA", "AAAAAA", 4, "");
        dueHits("ACCCCC", "AAAAAA", 4, "");
        dueHits("CCCCCC", "AAAAAA", 4, "");
        dueHits("GCACAT", "ACA", 0, "2:0:0:1");
    }

    private static void anNDiffersFromEveryBase() {
        Check.sentence("(an N in the genome differs from every base)");
        for (String read : new String[] {"A", "C", "G", "T"}) {
            dueHits("N", read, 0, "");
            dueHits("N", read, 1, "0:0:1:1 0:1:1:0");
        }
        dueHits("NNNN", "ACGA", 3, "");
        dueHits("NNNN", "ACGA", 4, "0:0:4:1 0:1:4:0");
        dueHits("NNNNN", "ACGAC", 4, "");
    }

    private static void strand1HasTheTurnedRead() {
        Check.sentence("On strand 1 likewise, with the turned read in the read's stead.");
        dueHits("GTT", "AAC", 0, "0:1:0:1");
        dueHits("CAA", "AAC", 0, "");
        dueHits("TTG", "AAC", 0, "");
        dueHits("GTC", "AAC", 1, "0:1:1:1");
        dueHits("GTTT", "AAAC", 4, "0:0:4:0 0:1:0:1");
        dueHits("GTTA", "AAACA", 4, "");
    }

    private static void hitsAreAllWithinTheBound() {
        Check.sentence("The hits of a MAPPING with bound k are all those with at most k mismatches");
        for (int bound = 0; bound <= 4; bound++) {
            for (int m = 0; m <= 5; m++) {
                dueHits("A".repeat(6 - m) + "N".repeat(m), "AAAAAA", bound, m <= bound ? "0:0:" + m + ":1" : "");
                dueHits("T".repeat(6 - m) + "N".repeat(m), "AAAAAA", bound, m <= bound ? "0:1:" + m + ":1" : "");
            }
        }
        dueHits("CG", "A", 0, "");
        dueHits("CG", "A", 4, "0:0:1:1 0:1:1:0 1:0:1:0 1:1:1:0");
        dueHits("CGC", "ATT", 4, "0:0:3:1 0:1:3:0");
    }

    private static void hitsGoByPlaceAndStrand() {
        Check.sentence("by place, the one on strand 0 before the one on strand 1");
        dueHits("TATA", "A", 0, "0:1:0:1 1:0:0:0 2:1:0:0 3:0:0:0");
        dueHits("TA", "A", 1, "0:0:1:0 0:1:0:1 1:0:0:0 1:1:1:0");
        dueHits("ACGT", "ACGT", 0, "0:0:0:1 0:1:0:0");
    }

    private static void hitsAreNumberedFrom0() {
        Check.sentence("numbered from 0.");
        Subject x = Subject.of("CAC", "A");
        x.map(0);
        Check.due("hit(-1, 0)", x.hit(-1, 0), -2);
        Check.due("hit(0, 0)", x.hit(0, 0), 1);
        Check.due("hit(1, 0)", x.hit(1, 0), -2);
        x.newGenome("CACA");
        x.map(0);
        Check.due("hit(0, 0)", x.hit(0, 0), 1);
        Check.due("hit(1, 0)", x.hit(1, 0), 3);
        Check.due("hit(2, 0)", x.hit(2, 0), -2);
    }

    private static void primaryIsTheFirstOfTheBest() {
        Check.sentence("The PRIMARY hit is the first one of those with the least mismatches.");
        dueHits("AAAA", "AAA", 0, "0:0:0:1 1:0:0:0");
        dueHits("ACATAA", "AA", 1, "0:0:1:0 1:0:1:0 2:0:1:0 2:1:1:0 3:0:1:0 3:1:1:0 4:0:0:1");
        dueHits("CCACCC", "AAA", 2, "0:0:2:1 1:0:2:0 2:0:2:0");
        dueHits("CAACAAA", "AAA", 2, "0:0:1:0 1:0:1:0 2:0:1:0 3:0:1:0 4:0:0:1");
        dueHits("CAAACAAAC", "AAA", 1, "0:0:1:0 1:0:0:1 2:0:1:0 3:0:1:0 4:0:1:0 5:0:0:0 6:0:1:0");
        dueHits("TTTA", "AAAA", 4, "0:0:3:0 0:1:1:1");
        dueHits("TTAA", "AAAA", 4, "0:0:2:1 0:1:2:0");
        Subject x = Subject.of("CCC", "AAA");
        x.map(2);
        Check.due("hit(0, 3) without hits", x.hit(0, 3), -2);
    }

    public static void main(String[] args) {
        placesBeginAt0();
        placesEndWithTheGenome();
        mismatchesAreCounted();
        anNDiffersFromEveryBase();
        strand1HasTheTurnedRead();
        hitsAreAllWithinTheBound();
        hitsGoByPlaceAndStrand();
        hitsAreNumberedFrom0();
        primaryIsTheFirstOfTheBest();
        Check.end();
    }
}

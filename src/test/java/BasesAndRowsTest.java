/** A method for each sentence on objects, bases, genome, read and rows before the promises. */
public final class BasesAndRowsTest {
    private static final String LETTERS = "ACGTN";

    /** Maps to no place, so that the map tells the read; takes the genome away. */
    private static String lettersOfRead(Subject x) {
        x.clear();
        x.map(0);
        return x.field(1, 10);
    }

    private static void the512thCallIsAnswered() {
        Check.sentence("An object is used for at most 512 calls after it has been made");
        StrandMapper x = new StrandMapper();
        Check.due("call 1, base(0)", x.base(0), true);
        Check.due("call 2, read(1)", x.read(1), true);
        for (int call = 3; call <= 507; call++) {
            Check.due("call " + call + ", map(0)", x.map(0), 0);
        }
        Check.due("call 508, at(14)", x.at(14), 'r');
        Check.due("call 509, at(15)", x.at(15), '5');
        Check.due("call 510, at(16)", x.at(16), '0');
        Check.due("call 511, at(17)", x.at(17), '5');
        Check.due("call 512, mappings()", x.mappings(), 505);
    }

    private static void basesHaveNumbersAndLetters() {
        Check.sentence("BASES are 0 A, 1 C, 2 G, 3 T and 4 N.");
        for (int b = 0; b <= 4; b++) {
            StrandMapper genome = new StrandMapper();
            Check.due("base(" + b + ")", genome.base(b), true);
            Check.due("last(0)", genome.last(0), b);
        }
        Subject x = new Subject();
        for (int b = 0; b <= 3; b++) {
            Check.due("read(" + b + ")", x.read(b), true);
        }
        x.map(0);
        Check.due("the letters of 0 1 2 3", x.field(1, 10), "ACGT");
        x.newRead("CA");
        for (int b = 0; b <= 4; b++) {
            x.clear();
            x.base(1);
            x.base(b);
            x.map(1);
            Check.due("the letter of " + b + " in the genome", x.field(1, 13),
                    b == 0 ? "MD:Z:2" : "MD:Z:1" + LETTERS.charAt(b) + "0");
        }
    }

    private static void genomeHasAtMost96Bases() {
        Check.sentence("The GENOME is a row of at most 96 bases, at places 0, 1, ..");
        for (int b = 0; b <= 4; b++) {
            Subject x = new Subject();
            for (int i = 0; i < 96; i++) {
                Check.due("base(" + b + ") at place " + i, x.base(b), true);
            }
            Check.due("base(" + b + ") at place 96", x.base(b), false);
            Check.due("length(false)", x.length(false), 96);
            Check.due("row(96)", x.row(96), 0);
            Check.due("row(97)", x.row(97), -1);
        }
        Subject x = Subject.of("A" + "C".repeat(94) + "G", "A");
        x.map(0);
        Check.due("the first place", x.hitList(), "0:0:0:1");
        x.newRead("CCG");
        x.map(0);
        Check.due("the last places", x.hitList(), "93:0:0:1");
        Check.due("the row of the last places", x.first(), 94);
    }

    private static void readHasAtMost24Bases() {
        Check.sentence("the READ is a row of at most 24 bases");
        for (int b = 0; b <= 3; b++) {
            Subject x = new Subject();
            for (int i = 0; i < 24; i++) {
                Check.due("read(" + b + ") with " + i + " there", x.read(b), true);
                Check.due("length(true)", x.length(true), i + 1);
            }
            Check.due("read(" + b + ") with 24 there", x.read(b), false);
            Check.due("length(true)", x.length(true), 24);
        }
        Subject x = Subject.of("", "ACGTACGTACGTACGTACGTACGA");
        Check.due("the letters of 24 bases", lettersOfRead(x), "ACGTACGTACGTACGTACGTACGA");
    }

    private static void readHasNoN() {
        Check.sentence("bases other than N.");
        Subject x = new Subject();
        for (int i = 0; i <= 24; i++) {
            Check.due("read(4) with " + i + " there", x.read(4), false);
            Check.due("length(true)", x.length(true), i);
            x.read(i % 4);
        }
        Check.due("the letters of the read", lettersOfRead(x), "ACGT".repeat(6));
    }

    private static void complementsArePairs() {
        Check.sentence("The COMPLEMENT of A is T, of C is G, and the other way round");
        Subject x = new Subject();
        for (int b = 0; b <= 3; b++) {
            x.newRead(LETTERS.substring(b, b + 1));
            x.turn();
            Check.due("the complement of " + LETTERS.charAt(b), lettersOfRead(x),
                    "TGCA".substring(b, b + 1));
            x.turn();
            Check.due("its complement", lettersOfRead(x), LETTERS.substring(b, b + 1));
        }
    }

    private static void turnedReadGoesFromLastToFirst() {
        Check.sentence("the TURNED read is the complements of its bases from the last one to the first one.");
        String[] reads = {"AC", "AT", "AAC", "ACG", "GATTACA", "A".repeat(12) + "C".repeat(11) + "G"};
        String[] turned = {"GT", "AT", "GTT", "CGT", "TGTAATC", "C" + "G".repeat(11) + "T".repeat(12)};
        Subject x = new Subject();
        for (int i = 0; i < reads.length; i++) {
            x.newRead(reads[i]);
            x.turn();
            Check.due("the turned " + reads[i], lettersOfRead(x), turned[i]);
        }
    }

    private static void suffixesAreOneMoreThanBases() {
        Check.sentence("has as many SUFFIXES as bases and one more, one from each place on, and END alone.");
        Subject x = new Subject();
        for (int length = 0; length <= 96; length++) {
            boolean[] seen = new boolean[length + 1];
            for (int i = 0; i <= length; i++) {
                int place = x.row(i);
                boolean isNew = place >= 0 && place <= length && !seen[place];
                Check.due("row(" + i + ") of " + length + " bases is a place of its own", isNew, true);
                if (isNew) {
                    seen[place] = true;
                }
            }
            Check.due("row(" + (length + 1) + ") of " + length + " bases", x.row(length + 1), -1);
            x.base(length * length % 5);
        }
    }

    private static void suffixesOfNoBases() {
        Check.sentence("The genome with END (5) behind its last base");
        Subject x = new Subject();
        Check.due("row(0) of no bases", x.row(0), 0);
        Check.due("last(0) of no bases", x.last(0), 5);
        Check.due("row(1) of no bases", x.row(1), -1);
        x.addBases("N");
        Check.due("rows of one base", x.rows(), "1 0");
        x.clear();
        Check.due("rows of no bases again", x.rows(), "0");
    }

    private static void firstDifferenceOrders() {
        Check.sentence("They are put in order by the first symbol in which two differ");
        Subject x = Subject.of("A".repeat(95) + "C", "");
        Check.due("row(0)", x.row(0), 96);
        for (int i = 1; i <= 96; i++) {
            Check.due("row(" + i + ") of 95 A and C", x.row(i), i - 1);
        }
        x.newGenome("C".repeat(95) + "A");
        Check.due("row(0)", x.row(0), 96);
        for (int i = 1; i <= 96; i++) {
            Check.due("row(" + i + ") of 95 C and A", x.row(i), 96 - i);
        }
        x.newGenome("ATCAGN");
        Check.due("the first difference, not a later one", x.rows(), "6 3 0 2 4 1 5");
    }

    private static void symbolsHaveAnOrder() {
        Check.sentence("END is less than A, and A less than C, C than G, G than T, T than N.");
        Subject x = new Subject();
        for (int less = 0; less <= 4; less++) {
            x.newGenome(LETTERS.substring(less, less + 1).repeat(2));
            Check.due("rows with END less than " + LETTERS.charAt(less), x.rows(), "2 1 0");
            for (int more = less + 1; more <= 4; more++) {
                String pair = LETTERS.charAt(less) + "" + LETTERS.charAt(more);
                x.newGenome(pair);
                Check.due("rows of " + pair, x.rows(), "2 0 1");
                x.newGenome(pair.charAt(1) + "" + pair.charAt(0));
                Check.due("rows of " + pair + " from the back", x.rows(), "2 1 0");
            }
        }
        x.newGenome("NTGCA");
        Check.due("rows of NTGCA", x.rows(), "5 4 3 2 1 0");
    }

    private static void rowsAreNumberedFrom0() {
        Check.sentence("Row i is the suffix number i in this order, from 0 on.");
        Subject x = Subject.of("GATTACA", "");
        Check.due("rows", x.rows(), "7 6 4 1 5 0 3 2");
        Check.due("row(-1)", x.row(-1), -1);
        Check.due("row(0)", x.row(0), 7);
        Check.due("row(7)", x.row(7), 2);
        Check.due("row(8)", x.row(8), -1);
    }

    /** Their answers are free, but LANGUAGE.md lets none of them throw or fail to end. */
    private static void laterCallsEnd() {
        Check.sentence("what later calls answer is free");
        StrandMapper x = new StrandMapper();
        for (int i = 0; i < 20000; i++) {
            int number = i % 7 == 0 ? Integer.MIN_VALUE + i : i % 7 == 1 ? Integer.MAX_VALUE - i : i % 120 - 5;
            x.base(number);
            x.read(number);
            x.turn();
            x.row(number);
            x.last(number);
            x.rank(i % 6, number);
            x.first();
            x.count();
            x.map(i % 5);
            x.hit(number, i % 4);
            x.at(number);
            if (i % 200 == 0) {
                x.clear();
            }
            if (i % 50 == 0) {
                x.wipe();
            }
        }
    }

    public static void main(String[] args) {
        the512thCallIsAnswered();
        basesHaveNumbersAndLetters();
        genomeHasAtMost96Bases();
        readHasAtMost24Bases();
        readHasNoN();
        complementsArePairs();
        turnedReadGoesFromLastToFirst();
        suffixesAreOneMoreThanBases();
        suffixesOfNoBases();
        firstDifferenceOrders();
        symbolsHaveAnOrder();
        rowsAreNumberedFrom0();
        laterCallsEnd();
        Check.end();
    }
}

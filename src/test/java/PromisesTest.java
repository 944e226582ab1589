/** A method for each sentence of the sections "Promise 1" to "Promise 18", in their order. */
public final class PromisesTest {
    private static final int[] FAR = {Integer.MIN_VALUE, -1000, 1000, Integer.MAX_VALUE};
    private static final String NEW = "0|0|0|5|-1|0|||0";

    // Promise 1

    private static void aNewObjectIsEmpty() {
        Check.sentence("Genome, read and map empty, no hits.");
        Subject x = new Subject();
        Check.due("all of a new object", x.everything(), NEW);
        Check.due("length(false)", x.length(false), 0);
        Check.due("length(true)", x.length(true), 0);
        Check.due("size()", x.size(), 0);
        Check.due("at(0)", x.at(0), -1);
        Check.due("hits()", x.hits(), 0);
        Check.due("hit(0, 0)", x.hit(0, 0), -2);
        Check.due("mappings()", x.mappings(), 0);
        Subject other = Subject.of("ACGT", "AC");
        other.map(0);
        Check.due("a new object beside another one", x.everything(), NEW);
        Check.due("a newer object", new Subject().everything(), NEW);
    }

    // Promise 2

    private static void baseAppends() {
        Check.sentence("Appends a base to the genome");
        Subject x = new Subject();
        for (int b = 4; b >= 0; b--) {
            Check.due("base(" + b + ")", x.base(b), true);
            Check.due("length(false)", x.length(false), 5 - b);
            Check.due("last(0)", x.last(0), b);
        }
        Check.due("rows", x.rows(), "5 4 3 2 1 0");
        x.base(2);
        Check.due("rows with a base more", x.rows(), "6 4 3 5 2 1 0");
    }

    private static void baseIsFrom0To4() {
        Check.sentence("false, refused, when it is not 0 .. 4");
        Subject x = new Subject();
        for (int b : new int[] {-1, 5, 6, -4, 256, Integer.MIN_VALUE, Integer.MAX_VALUE}) {
            Check.due("base(" + b + ")", x.base(b), false);
            Check.due("length(false)", x.length(false), 0);
        }
        Check.due("base(0)", x.base(0), true);
        Check.due("base(4)", x.base(4), true);
        Check.due("length(false)", x.length(false), 2);
    }

    private static void baseIsRefusedAt96() {
        Check.sentence("or 96 are there.");
        Subject x = Subject.of("G".repeat(95), "");
        Check.due("base(0) with 95 there", x.base(0), true);
        for (int b = 0; b <= 4; b++) {
            Check.due("base(" + b + ") with 96 there", x.base(b), false);
            Check.due("length(false)", x.length(false), 96);
            Check.due("last(0)", x.last(0), 0);
        }
        x.clear();
        Check.due("base(0) with none there again", x.base(0), true);
    }

    private static void baseLeavesHitsAndMap() {
        Check.sentence("Hits and map stay.");
        Subject x = Subject.of("ACG", "CG");
        x.map(0);
        String before = x.hitsAndMap();
        x.addBases("CG");
        Check.due("hits and map", x.hitsAndMap(), before);
        Check.due("length(true)", x.length(true), 2);
        x.addBases("N".repeat(91));
        Check.due("hits and map", x.hitsAndMap(), before);
    }

    // Promise 3

    private static void clearEmptiesTheGenome() {
        Check.sentence("The genome becomes empty");
        Subject x = Subject.of("ACGTN", "CG");
        Check.due("rows before clear", x.rows(), "5 0 1 2 3 4");
        x.clear();
        Check.due("all after clear", x.everything(), "0|2|0|5|-1|0|||0");
        x.clear();
        Check.due("all after clear of no genome", x.everything(), "0|2|0|5|-1|0|||0");
        x.addBases("NTGCA");
        Check.due("rows of the next genome", x.rows(), "5 4 3 2 1 0");
        x.newGenome("C".repeat(96));
        Check.due("base 97", x.base(0), false);
        x.clear();
        Check.due("length(false) of a full genome cleared", x.length(false), 0);
    }

    private static void clearLeavesReadHitsAndMap() {
        Check.sentence("read, hits and map stay.");
        Subject x = Subject.of("ACGTN", "CG");
        x.map(1);
        String before = x.hitsAndMap();
        x.clear();
        Check.due("hits and map", x.hitsAndMap(), before);
        Check.due("length(true)", x.length(true), 2);
        x.addBases("TCG");
        Check.due("hits and map", x.hitsAndMap(), before);
        Check.due("count() of the read that stayed", x.count(), 1);
    }

    // Promise 4

    private static void readAppends() {
        Check.sentence("Appends a base to the read");
        Subject x = Subject.of("AGTC", "");
        x.map(0);
        for (int i = 0; i < 4; i++) {
            x.addRead("AGTC".substring(i, i + 1));
            Check.due("length(true)", x.length(true), i + 1);
            Check.due("count()", x.count(), 1);
        }
        x.map(0);
        String before = x.hitsAndMap();
        x.addRead("C");
        Check.due("hits and map after read", x.hitsAndMap(), before);
        Check.due("length(false)", x.length(false), 4);
        Check.due("count() of a base more", x.count(), 0);
    }

    private static void readIsFrom0To3() {
        Check.sentence("false, refused, when it is not 0 .. 3");
        Subject x = new Subject();
        for (int b : new int[] {-1, 4, 5, -3, 256, Integer.MIN_VALUE, Integer.MAX_VALUE}) {
            Check.due("read(" + b + ")", x.read(b), false);
            Check.due("length(true)", x.length(true), 0);
        }
        Check.due("read(0)", x.read(0), true);
        Check.due("read(3)", x.read(3), true);
        Check.due("length(true)", x.length(true), 2);
    }

    private static void readIsRefusedAt24() {
        Check.sentence("or 24 are there.");
        Subject x = Subject.of("", "G".repeat(23));
        Check.due("read(3) with 23 there", x.read(3), true);
        for (int b = 0; b <= 3; b++) {
            Check.due("read(" + b + ") with 24 there", x.read(b), false);
            Check.due("length(true)", x.length(true), 24);
        }
        x.turn();
        Check.due("read(0) with 24 turned ones there", x.read(0), false);
        x.turn();
        x.map(0);
        Check.due("the letters of the read", x.field(1, 10), "G".repeat(23) + "T");
        x.wipe();
        Check.due("read(0) with none there again", x.read(0), true);
    }

    // Promise 5

    private static void wipeEmptiesTheRead() {
        Check.sentence("The read becomes empty");
        Subject x = Subject.of("ACGTN", "CG");
        x.wipe();
        Check.due("length(true)", x.length(true), 0);
        Check.due("map(0)", x.map(0), -3);
        x.wipe();
        Check.due("length(true) after wipe of no read", x.length(true), 0);
        x.addRead("GT");
        Check.due("first() of the next read", x.first(), 3);
        x.newRead("C".repeat(24));
        Check.due("read 25", x.read(0), false);
        x.wipe();
        Check.due("length(true) of a full read wiped", x.length(true), 0);
    }

    private static void wipeLeavesAllElse() {
        Check.sentence("all else stays.");
        Subject x = Subject.of("ACGTN", "CG");
        x.map(1);
        String before = x.hitsAndMap();
        x.wipe();
        Check.due("all after wipe", x.everything(), "5|0|5 0 1 2 3 4|450123|-1|0|" + before);
    }

    // Promise 6

    private static void turnTurnsTheRead() {
        Check.sentence("The read becomes the turned read.");
        Subject x = Subject.of("AACGT", "AACG");
        x.map(0);
        String before = x.hitsAndMap();
        x.turn();
        Check.due("length(true)", x.length(true), 4);
        Check.due("length(false)", x.length(false), 5);
        Check.due("count() of the turned read", x.count(), 0);
        Check.due("hits and map", x.hitsAndMap(), before);
        x.newGenome("CGTT");
        Check.due("count() of the turned read", x.count(), 1);
        x.turn();
        Check.due("count() of the read turned twice", x.count(), 0);
        x.addRead("C");
        x.turn();
        x.map(0);
        Check.due("the letters of a read turned with a base more", x.field(1, 10), "GCGTT");
    }

    private static void turnOfNoRead() {
        Check.sentence("The read becomes the turned read.");
        Subject x = new Subject();
        x.turn();
        Check.due("all after turn of a new object", x.everything(), NEW);
        x.addRead("ACGT");
        x.map(0);
        x.wipe();
        x.turn();
        Check.due("length(true) after turn of a wiped read", x.length(true), 0);
        Check.due("map(0)", x.map(0), -3);
        x.addRead("G");
        x.turn();
        x.map(0);
        Check.due("the letters of one base turned", x.field(1, 10), "C");
    }

    // Promise 7

    private static void lengthOfTheGenome() {
        Check.sentence("The number of bases of the genome");
        Subject x = Subject.of("", "ACG");
        for (int i = 0; i < 96; i++) {
            Check.due("length(false)", x.length(false), i);
            x.base(i % 5);
        }
        Check.due("length(false)", x.length(false), 96);
        x.base(0);
        Check.due("length(false) after a refused base", x.length(false), 96);
        x.clear();
        Check.due("length(false) after clear", x.length(false), 0);
    }

    private static void lengthOfTheRead() {
        Check.sentence("(of the read when ofRead)");
        Subject x = Subject.of("ACGTNACG", "");
        for (int i = 0; i < 24; i++) {
            Check.due("length(true)", x.length(true), i);
            x.read(i % 4);
        }
        Check.due("length(true)", x.length(true), 24);
        x.read(0);
        Check.due("length(true) after a refused read", x.length(true), 24);
        x.wipe();
        Check.due("length(true) after wipe", x.length(true), 0);
        Check.due("length(false) after wipe", x.length(false), 8);
    }

    // Promise 8

    private static void rowTellsItsPlace() {
        Check.sentence("The place at which row i begins");
        Subject x = Subject.of("GATTACA", "");
        Check.due("rows", x.rows(), "7 6 4 1 5 0 3 2");
        x.addBases("N");
        Check.due("rows with N", x.rows(), "8 4 1 6 5 0 3 2 7");
        x.newGenome("NNNTNN");
        Check.due("rows with N last", x.rows(), "6 3 5 2 4 1 0");
    }

    private static void rowOfEndAlone() {
        Check.sentence("(the length of the genome for END alone)");
        Subject x = new Subject();
        for (int length = 0; length <= 96; length++) {
            Check.due("row(0) of " + length + " bases", x.row(0), length);
            x.base(length % 5);
        }
        x.clear();
        Check.due("row(0) after clear", x.row(0), 0);
    }

    private static void rowThatIsNotThere() {
        Check.sentence("for END alone); NONE when there is no row i.");
        Subject x = new Subject();
        Check.due("row(-1) of no bases", x.row(-1), -1);
        Check.due("row(1) of no bases", x.row(1), -1);
        x.addBases("GATTACA");
        Check.due("row(7) of 7 bases", x.row(7), 2);
        Check.due("row(8) of 7 bases", x.row(8), -1);
        Check.due("row(-1)", x.row(-1), -1);
        for (int i : FAR) {
            Check.due("row(" + i + ")", x.row(i), -1);
        }
        x.newGenome("A".repeat(96));
        Check.due("row(96) of 96 bases", x.row(96), 0);
        Check.due("row(97) of 96 bases", x.row(97), -1);
        x.newGenome("AC");
        Check.due("row(3) of a shorter genome", x.row(3), -1);
    }

    // Promise 9

    private static void lastTellsTheSymbolBefore() {
        Check.sentence("The symbol right before the suffix of row i: a base");
        Subject x = Subject.of("GATTACA", "");
        Check.due("lasts", x.lasts(), "01320530");
        x.addBases("NC");
        Check.due("lasts with N", x.lasts(), "1321405300");
    }

    private static void lastOfPlace0() {
        Check.sentence("or END (5) when that begins at place 0");
        Subject x = new Subject();
        Check.due("last(0) of no bases", x.last(0), 5);
        x.addBases("A");
        Check.due("lasts of A", x.lasts(), "05");
        x.newGenome("A".repeat(96));
        Check.due("last(96) of 96 A", x.last(96), 5);
        Check.due("last(95) of 96 A", x.last(95), 0);
        x.newGenome("AC");
        Check.due("lasts of AC", x.lasts(), "150");
    }

    private static void lastThatIsNotThere() {
        Check.sentence("begins at place 0; NONE when there is no row i.");
        Subject x = new Subject();
        Check.due("last(-1) of no bases", x.last(-1), -1);
        Check.due("last(1) of no bases", x.last(1), -1);
        x.addBases("GATTACA");
        Check.due("last(7) of 7 bases", x.last(7), 0);
        Check.due("last(8) of 7 bases", x.last(8), -1);
        Check.due("last(-1)", x.last(-1), -1);
        for (int i : FAR) {
            Check.due("last(" + i + ")", x.last(i), -1);
        }
        x.newGenome("A".repeat(96));
        Check.due("last(97) of 96 bases", x.last(97), -1);
    }

    // Promise 10

    private static void rankCounts() {
        Check.sentence("How many of last(0) .. last(i - 1) are symbol b.");
        Subject x = Subject.of("GATTACAN", "");
        String lasts = "432105300";
        Check.due("lasts", x.lasts(), lasts);
        for (int b = 0; b <= 5; b++) {
            int soFar = 0;
            for (int i = 0; i <= 9; i++) {
                Check.due("rank(" + b + ", " + i + ")", x.rank(b, i), soFar);
                soFar += i < 9 && lasts.charAt(i) - '0' == b ? 1 : 0;
            }
        }
    }

    private static void rankOfAllAndOfNone() {
        Check.sentence("last(0) .. last(i - 1)");
        Subject x = new Subject();
        Check.due("rank(5, 0) of no bases", x.rank(5, 0), 0);
        Check.due("rank(5, 1) of no bases", x.rank(5, 1), 1);
        Check.due("rank(0, 1) of no bases", x.rank(0, 1), 0);
        x.addBases("N".repeat(96));
        Check.due("rank(4, 0) of 96 N", x.rank(4, 0), 0);
        Check.due("rank(4, 96) of 96 N", x.rank(4, 96), 96);
        Check.due("rank(4, 97) of 96 N", x.rank(4, 97), 96);
        Check.due("rank(5, 96) of 96 N", x.rank(5, 96), 0);
        Check.due("rank(5, 97) of 96 N", x.rank(5, 97), 1);
    }

    private static void rankOfWrongSymbols() {
        Check.sentence("BAD when b is not 0 .. 5");
        Subject x = Subject.of("GATTACA", "");
        for (int i = 0; i <= 8; i++) {
            Check.due("rank(-1, " + i + ")", x.rank(-1, i), -2);
            Check.due("rank(6, " + i + ")", x.rank(6, i), -2);
        }
        for (int b : FAR) {
            Check.due("rank(" + b + ", 0)", x.rank(b, 0), -2);
            Check.due("rank(" + b + ", 8)", x.rank(b, 8), -2);
        }
        Check.due("rank(0, 0)", x.rank(0, 0), 0);
        Check.due("rank(5, 0)", x.rank(5, 0), 0);
    }

    private static void rankOfWrongRows() {
        Check.sentence("or i not 0 .. the number of rows.");
        Subject x = new Subject();
        Check.due("rank(0, 2) of no bases", x.rank(0, 2), -2);
        x.addBases("GATTACA");
        for (int b = 0; b <= 5; b++) {
            Check.due("rank(" + b + ", -1)", x.rank(b, -1), -2);
            Check.due("rank(" + b + ", 9)", x.rank(b, 9), -2);
            for (int i : FAR) {
                Check.due("rank(" + b + ", " + i + ")", x.rank(b, i), -2);
            }
        }
        Check.due("rank(0, 8)", x.rank(0, 8), 3);
        x.newGenome("A".repeat(96));
        Check.due("rank(0, 97) of 96 bases", x.rank(0, 97), 96);
        Check.due("rank(0, 98) of 96 bases", x.rank(0, 98), -2);
    }

    // Promise 11

    private static void firstIsTheLeastRow() {
        Check.sentence("The least row whose suffix begins with the read");
        Subject x = Subject.of("GATTACA", "A");
        Check.due("first() of A", x.first(), 1);
        x.addRead("T");
        Check.due("first() of AT", x.first(), 3);
        x.newRead("T");
        Check.due("first() of T", x.first(), 6);
        x.addRead("T");
        Check.due("first() of TT, the last row", x.first(), 7);
        x.newRead("GATTACA");
        Check.due("first() of the whole", x.first(), 5);
        x.newGenome("A".repeat(96));
        x.newRead("A".repeat(24));
        Check.due("first() of 24 A in 96", x.first(), 24);
    }

    private static void firstWhenThereIsNone() {
        Check.sentence("NONE when there is none");
        Subject x = Subject.of("GATTACA", "ATG");
        Check.due("first() of ATG", x.first(), -1);
        x.newRead("CAA");
        Check.due("first() of a read beyond the end", x.first(), -1);
        x.newRead("GATTACAA");
        Check.due("first() of more than the whole", x.first(), -1);
        x.newRead("GT");
        Check.due("first() of a read that only the other strand has", x.first(), -1);
        x.newGenome("NNN");
        Check.due("first() in N alone", x.first(), -1);
        x.clear();
        Check.due("first() of no bases", x.first(), -1);
    }

    private static void firstOfNoRead() {
        Check.sentence("or the read is empty.");
        Subject x = new Subject();
        Check.due("first() of nothing in nothing", x.first(), -1);
        x.addBases("GATTACA");
        Check.due("first() of nothing", x.first(), -1);
        x.newRead("A");
        x.wipe();
        Check.due("first() after wipe", x.first(), -1);
    }

    // Promise 12

    private static void countOfSuffixes() {
        Check.sentence("How many suffixes begin with the read");
        Subject x = Subject.of("GATTACANA", "A");
        Check.due("count() of A", x.count(), 4);
        x.addRead("A");
        Check.due("count() of AA across N", x.count(), 0);
        x.newGenome("AAAA");
        Check.due("count() of AA in AAAA", x.count(), 3);
        x.newRead("AAAA");
        Check.due("count() of the whole", x.count(), 1);
        x.addRead("A");
        Check.due("count() of more than the whole", x.count(), 0);
        x.newRead("T");
        Check.due("count() of a read that only the other strand has", x.count(), 0);
        x.newRead("A");
        x.newGenome("A".repeat(96));
        Check.due("count() of A in 96", x.count(), 96);
        x.newRead("A".repeat(24));
        Check.due("count() of 24 A in 96", x.count(), 73);
        x.clear();
        Check.due("count() of no bases", x.count(), 0);
    }

    private static void countOfNoRead() {
        Check.sentence("0 when the read is empty.");
        Subject x = new Subject();
        Check.due("count() of nothing in nothing", x.count(), 0);
        x.addBases("GATTACA");
        Check.due("count() of nothing", x.count(), 0);
        x.newRead("A");
        x.wipe();
        Check.due("count() after wipe", x.count(), 0);
    }

    // Promise 13

    private static void mapMakesHitsAndMap() {
        Check.sentence("Maps the read with bound k: hits and map become those of this mapping.");
        Subject x = Subject.of("ACGTNACC", "ACC");
        x.map(1);
        Check.due("three hits", x.hitsAndMap(), "0:0:1:0 1:1:1:0 5:0:0:1|@SQ\tSN:g\tLN:8\n"
                + "r1\t256\tg\t1\t0\t3M\t*\t0\t0\t*\t*\tNM:i:1\tMD:Z:2G0\n"
                + "r1\t272\tg\t2\t0\t3M\t*\t0\t0\t*\t*\tNM:i:1\tMD:Z:0C2\n"
                + "r1\t0\tg\t6\t40\t3M\t*\t0\t0\tACC\t*\tNM:i:0\tMD:Z:3\n|1");
        x.newRead("GGT");
        x.map(0);
        Check.due("one hit in their stead", x.hitsAndMap(), "5:1:0:1|@SQ\tSN:g\tLN:8\n"
                + "r2\t16\tg\t6\t60\t3M\t*\t0\t0\tACC\t*\tNM:i:0\tMD:Z:3\n|2");
        x.newRead("TTT");
        x.map(0);
        Check.due("no hit in its stead", x.hitsAndMap(), "|@SQ\tSN:g\tLN:8\n"
                + "r3\t4\t*\t0\t0\t*\t*\t0\t0\tTTT\t*\n|3");
        Check.due("length(true) after map", x.length(true), 3);
        Check.due("rows after map", x.rows(), "8 5 0 7 6 1 2 3 4");
    }

    private static void mapAnswersTheHits() {
        Check.sentence("Answers the number of hits.");
        Subject x = Subject.of("ACGTNACC", "ACC");
        Check.due("map(0)", x.map(0), 1);
        Check.due("map(1)", x.map(1), 3);
        x.newRead("TTT");
        Check.due("map(0) without hits", x.map(0), 0);
        x.clear();
        Check.due("map(4) of no bases", x.map(4), 0);
        x.addBases("A".repeat(16));
        x.newRead("A");
        Check.due("map(1) with 32 hits", x.map(1), 32);
    }

    private static void mapOfWrongBounds() {
        Check.sentence("BAD when k is not 0 .. 4");
        Subject x = Subject.of("CCCC", "AAAA");
        for (int k : new int[] {-1, 5, 6, -4, Integer.MIN_VALUE, Integer.MAX_VALUE}) {
            Check.due("map(" + k + ")", x.map(k), -2);
            Check.due("hits and map", x.hitsAndMap(), "||0");
        }
        Check.due("map(0)", x.map(0), 0);
        Check.due("map(4)", x.map(4), 2);
    }

    private static void mapOfNoRead() {
        Check.sentence("0 .. 4; EMPTY");
        Subject x = new Subject();
        for (int k = 0; k <= 4; k++) {
            Check.due("map(" + k + ") on a new object", x.map(k), -3);
        }
        x.addBases("ACGT");
        Check.due("map(0) of no read", x.map(0), -3);
        x.addRead("A");
        Check.due("map(0) of one base", x.map(0), 2);
        x.wipe();
        Check.due("map(0) after wipe", x.map(0), -3);
        x.turn();
        Check.due("map(0) of no read turned", x.map(0), -3);
        Check.due("hits()", x.hits(), 2);
    }

    private static void mapThatIsTooLong() {
        Check.sentence("EMPTY; OVERFLOW.");
        Subject x = Subject.of("A".repeat(30) + "T".repeat(18), "A".repeat(9));
        Check.due("map(2) with 1500 characters", x.map(2), 36);
        x = Subject.of("A".repeat(45) + "CCCC", "A".repeat(16));
        Check.due("map(4) with 1501 characters", x.map(4), -4);
        Check.due("hits and map", x.hitsAndMap(), "||0");
        x = Subject.of("A".repeat(96), "A");
        Check.due("map(1) with as many hits as there can be", x.map(1), -4);
        Check.due("hits and map", x.hitsAndMap(), "||0");
    }

    // Promise 14

    private static void hitsOfTheLatestMapping() {
        Check.sentence("The number of hits of the latest mapping.");
        Subject x = Subject.of("ACGTACGT", "ACG");
        Check.due("hits() before the first mapping", x.hits(), 0);
        x.map(0);
        Check.due("hits()", x.hits(), 4);
        x.map(-1);
        Check.due("hits() after BAD", x.hits(), 4);
        x.wipe();
        x.map(0);
        Check.due("hits() after EMPTY", x.hits(), 4);
        x.newGenome("A".repeat(96));
        x.newRead("A");
        x.map(0);
        Check.due("hits() after OVERFLOW", x.hits(), 4);
        x.newGenome("CAC");
        Check.due("hits() before the next mapping", x.hits(), 4);
        x.map(0);
        Check.due("hits() of the next mapping", x.hits(), 1);
        x.clear();
        x.map(0);
        Check.due("hits() of a mapping without hits", x.hits(), 0);
    }

    // Promise 15

    private static void hitTellsWhatIsAsked() {
        Check.sentence("Of hit i: what = 0 its place, 1 its strand, 2 its mismatches, 3 whether it is the primary one (1 or 0).");
        Subject x = Subject.of("ACGTACCT", "ACG");
        x.map(1);
        Check.due("hits", x.hitList(), "0:0:0:1 1:1:0:0 4:0:1:0 5:1:1:0");
        x.newRead("CCT");
        x.map(1);
        Check.due("hits with the primary one last", x.hitList(), "0:1:1:0 1:0:1:0 5:0:0:1");
        x.newGenome("N".repeat(92) + "AAAA");
        x.newRead("TTTT");
        x.map(0);
        Check.due("the last place there can be", x.hitList(), "92:1:0:1");
        x.newGenome("GGGG");
        x.map(4);
        Check.due("as many mismatches as there can be", x.hitList(), "0:0:4:1 0:1:4:0");
    }

    private static void hitThatIsNotThere() {
        Check.sentence("BAD when there is no hit i");
        Subject x = Subject.of("ACGTACCT", "ACG");
        for (int what = 0; what <= 3; what++) {
            Check.due("hit(0, " + what + ") before the first mapping", x.hit(0, what), -2);
        }
        x.map(1);
        for (int what = 0; what <= 3; what++) {
            Check.due("hit(-1, " + what + ")", x.hit(-1, what), -2);
            Check.due("hit(4, " + what + ")", x.hit(4, what), -2);
            for (int i : FAR) {
                Check.due("hit(" + i + ", " + what + ")", x.hit(i, what), -2);
            }
        }
        x.map(0);
        Check.due("hit(1, 0)", x.hit(1, 0), 1);
        Check.due("hit(2, 0) of the mapping before", x.hit(2, 0), -2);
        x.clear();
        x.map(0);
        Check.due("hit(0, 3) without hits", x.hit(0, 3), -2);
    }

    private static void hitOfWrongQuestions() {
        Check.sentence("or what is not 0 .. 3.");
        Subject x = Subject.of("ACGTACCT", "ACG");
        x.map(1);
        for (int i = 0; i < 4; i++) {
            Check.due("hit(" + i + ", -1)", x.hit(i, -1), -2);
            Check.due("hit(" + i + ", 4)", x.hit(i, 4), -2);
            for (int what : FAR) {
                Check.due("hit(" + i + ", " + what + ")", x.hit(i, what), -2);
            }
        }
        Check.due("hit(3, 0)", x.hit(3, 0), 5);
        Check.due("hit(3, 3)", x.hit(3, 3), 0);
    }

    // Promise 16

    private static void sizeOfTheMap() {
        Check.sentence("The number of characters of the map");
        Subject x = Subject.of("", "G");
        x.map(0);
        Check.due("size()", x.size(), 37);
        x.addBases("C");
        x.wipe();
        x.map(0);
        Check.due("size() after changes and a refused mapping", x.size(), 37);
        x.addRead("G");
        x.map(0);
        Check.due("size() of the next map", x.size(), "@SQ\tSN:g\tLN:1\n".length()
                + "r2\t16\tg\t1\t60\t1M\t*\t0\t0\tC\t*\tNM:i:0\tMD:Z:1\n".length());
        x.clear();
        x.map(0);
        Check.due("size() of a shorter map again", x.size(), 37);
    }

    private static void sizeBeforeTheFirstMapping() {
        Check.sentence("0 before the first mapping.");
        Subject x = new Subject();
        Check.due("size() of a new object", x.size(), 0);
        x.map(0);
        Check.due("size() after EMPTY", x.size(), 0);
        x.addBases("A".repeat(96));
        x.addRead("A");
        Check.due("size() after changes", x.size(), 0);
        x.map(5);
        Check.due("size() after BAD", x.size(), 0);
        x.map(0);
        Check.due("size() after OVERFLOW", x.size(), 0);
    }

    // Promise 17

    private static void atTellsTheCharacter() {
        Check.sentence("Character k of the map");
        Subject x = Subject.of("C", "G");
        x.map(0);
        String want = "@SQ\tSN:g\tLN:1\nr1\t16\tg\t1\t60\t1M\t*\t0\t0\tC\t*\tNM:i:0\tMD:Z:1\n";
        for (int k = 0; k < want.length(); k++) {
            Check.due("at(" + k + ")", x.at(k), want.charAt(k));
        }
        x.clear();
        x.wipe();
        Check.due("at(0) after clear and wipe", x.at(0), '@');
    }

    private static void atThatIsNotThere() {
        Check.sentence("Character k of the map; NONE when there is none.");
        Subject x = Subject.of("C", "G");
        for (int k : new int[] {-1, 0, 1, 1499, 1500}) {
            Check.due("at(" + k + ") before the first mapping", x.at(k), -1);
        }
        x.map(0);
        int size = x.size();
        Check.due("at(size() - 1)", x.at(size - 1), 10);
        Check.due("at(size())", x.at(size), -1);
        Check.due("at(-1)", x.at(-1), -1);
        for (int k : new int[] {Integer.MIN_VALUE, -1500, 1499, 1500, 1501, Integer.MAX_VALUE}) {
            Check.due("at(" + k + ")", x.at(k), -1);
        }
        x.clear();
        x.map(0);
        Check.due("size() of a shorter map", x.size() < size, true);
        Check.due("at behind a shorter map", x.at(x.size()), -1);
        x.map(0);
        Check.due("at behind the next map", x.at(x.size()), -1);
    }

    // Promise 18

    private static void mappingsThatWereNotRefused() {
        Check.sentence("How many mappings there were that were not refused.");
        Subject x = Subject.of("ACGT", "");
        x.map(0);
        Check.due("mappings() after EMPTY", x.mappings(), 0);
        x.map(7);
        Check.due("mappings() after BAD", x.mappings(), 0);
        x.addRead("AC");
        int before = 0;
        for (int i = 0; i < 160; i++) {
            int k = i % 7 - 1;
            x.map(k);
            before += k >= 0 && k <= 4 ? 1 : 0;
            Check.due("mappings()", x.mappings(), before);
        }
        x.newGenome("A".repeat(96));
        x.newRead("A");
        x.map(0);
        Check.due("mappings() after OVERFLOW", x.mappings(), before);
        x.clear();
        x.wipe();
        x.turn();
        Check.due("mappings() after changes", x.mappings(), before);
        x.addRead("A");
        x.map(0);
        Check.due("mappings() after a mapping without hits", x.mappings(), before + 1);
    }

    private static void genomeAndRead() {
        aNewObjectIsEmpty();
        baseAppends();
        baseIsFrom0To4();
        baseIsRefusedAt96();
        baseLeavesHitsAndMap();
        clearEmptiesTheGenome();
        clearLeavesReadHitsAndMap();
        readAppends();
        readIsFrom0To3();
        readIsRefusedAt24();
        wipeEmptiesTheRead();
        wipeLeavesAllElse();
        turnTurnsTheRead();
        turnOfNoRead();
        lengthOfTheGenome();
        lengthOfTheRead();
    }

    private static void suffixes() {
        rowTellsItsPlace();
        rowOfEndAlone();
        rowThatIsNotThere();
        lastTellsTheSymbolBefore();
        lastOfPlace0();
        lastThatIsNotThere();
        rankCounts();
        rankOfAllAndOfNone();
        rankOfWrongSymbols();
        rankOfWrongRows();
        firstIsTheLeastRow();
        firstWhenThereIsNone();
        firstOfNoRead();
        countOfSuffixes();
        countOfNoRead();
    }

    private static void mapping() {
        mapMakesHitsAndMap();
        mapAnswersTheHits();
        mapOfWrongBounds();
        mapOfNoRead();
        mapThatIsTooLong();
        hitsOfTheLatestMapping();
        hitTellsWhatIsAsked();
        hitThatIsNotThere();
        hitOfWrongQuestions();
        sizeOfTheMap();
        sizeBeforeTheFirstMapping();
        atTellsTheCharacter();
        atThatIsNotThere();
        mappingsThatWereNotRefused();
    }

    public static void main(String[] args) {
        genomeAndRead();
        suffixes();
        mapping();
        Check.end();
    }
}

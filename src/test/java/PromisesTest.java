/** One method for each promise of the document: ordinary inputs, its edges and wrong inputs. */
public final class PromisesTest {
    private static final int[] FAR = {Integer.MIN_VALUE, -1000, 1000, Integer.MAX_VALUE};
    private static int wrong = 0;
    private static String promise = "";

    private static void fail(String what, String got, String want) {
        wrong++;
        System.out.println("promise " + promise + ": " + what + " answered " + got + ", due is " + want);
    }

    private static void due(String what, long got, long want) {
        if (got != want) {
            fail(what, String.valueOf(got), String.valueOf(want));
        }
    }

    private static void due(String what, boolean got, boolean want) {
        if (got != want) {
            fail(what, String.valueOf(got), String.valueOf(want));
        }
    }

    private static void due(String what, String got, String want) {
        if (!got.equals(want)) {
            fail(what, got, want);
        }
    }

    private static void addBases(Subject x, String genome) {
        for (char c : genome.toCharArray()) {
            due("base(" + c + ")", x.base("ACGTN".indexOf(c)), true);
        }
    }

    private static void addRead(Subject x, String read) {
        for (char c : read.toCharArray()) {
            due("read(" + c + ")", x.read("ACGT".indexOf(c)), true);
        }
    }

    private static Subject mapper(String genome, String read) {
        Subject x = new Subject();
        addBases(x, genome);
        addRead(x, read);
        return x;
    }

    private static String mapOf(Subject x) {
        StringBuilder out = new StringBuilder();
        for (int k = 0; k < x.size(); k++) {
            out.append((char) x.at(k));
        }
        return out.toString();
    }

    private static String rowsOf(Subject x) {
        StringBuilder out = new StringBuilder();
        for (int i = 0; i <= x.length(false); i++) {
            out.append(x.row(i)).append(' ');
        }
        return out.toString().trim();
    }

    private static String lastsOf(Subject x) {
        StringBuilder out = new StringBuilder();
        for (int i = 0; i <= x.length(false); i++) {
            out.append(x.last(i));
        }
        return out.toString();
    }

    /** Place, strand, mismatches and primary of every hit. */
    private static String hitsOf(Subject x) {
        StringBuilder out = new StringBuilder();
        for (int i = 0; i < x.hits(); i++) {
            out.append(x.hit(i, 0)).append(':').append(x.hit(i, 1)).append(':');
            out.append(x.hit(i, 2)).append(':').append(x.hit(i, 3)).append(' ');
        }
        return out.toString().trim();
    }

    private static String all(Subject x) {
        return x.length(false) + "|" + x.length(true) + "|" + rowsOf(x) + "|" + lastsOf(x) + "|"
                + x.first() + "|" + x.count() + "|" + hitsOf(x) + "|" + mapOf(x) + "|" + x.mappings();
    }

    private static void aNewObject() {
        promise = "1";
        Subject x = new Subject();
        due("all of a new object", all(x), "0|0|0|5|-1|0|||0");
        due("hit(0, 0)", x.hit(0, 0), StrandMapper.BAD);
        due("at(0)", x.at(0), StrandMapper.NONE);
        due("NONE", StrandMapper.NONE, -1);
        due("BAD", StrandMapper.BAD, -2);
        due("EMPTY", StrandMapper.EMPTY, -3);
        due("OVERFLOW", StrandMapper.OVERFLOW, -4);
        Subject other = mapper("ACGT", "AC");
        other.map(0);
        due("a new object beside another one", all(x), "0|0|0|5|-1|0|||0");
    }

    private static void base() {
        promise = "2";
        Subject x = mapper("ACG", "CG");
        x.map(0);
        String hits = hitsOf(x);
        String map = mapOf(x);
        String before = all(x);
        for (int b : new int[] {-1, 5, 6, Integer.MIN_VALUE, Integer.MAX_VALUE}) {
            due("base(" + b + ")", x.base(b), false);
            due("all after base(" + b + ")", all(x), before);
        }
        due("base(4)", x.base(4), true);
        due("base(3)", x.base(3), true);
        due("rows", rowsOf(x), "5 0 1 2 4 3");
        due("hits", hitsOf(x), hits);
        due("map", mapOf(x), map);
        addBases(x, "G".repeat(90));
        due("length(false)", x.length(false), 95);
        due("base 96", x.base(0), true);
        before = all(x);
        for (int b = -1; b <= 5; b++) {
            due("base 97", x.base(b), false);
            due("all after base 97", all(x), before);
        }
    }

    private static void clear() {
        promise = "3";
        Subject x = mapper("ACGTN", "CG");
        x.map(1);
        String hits = hitsOf(x);
        String map = mapOf(x);
        due("rows before clear", rowsOf(x), "5 0 1 2 3 4");
        x.clear();
        due("all after clear", all(x), "0|2|0|5|-1|0|" + hits + "|" + map + "|1");
        addBases(x, "TCG");
        due("all of the next genome", all(x), "3|2|3 1 2 0|2315|1|1|" + hits + "|" + map + "|1");
        x.clear();
        x.clear();
        addBases(x, "C".repeat(96));
        due("base 97", x.base(0), false);
    }

    private static void read() {
        promise = "4";
        Subject x = mapper("ACGTNN", "");
        for (int b : new int[] {-1, 4, 5, Integer.MIN_VALUE, Integer.MAX_VALUE}) {
            due("read(" + b + ")", x.read(b), false);
            due("length(true)", x.length(true), 0);
        }
        addRead(x, "ACGT");
        due("count()", x.count(), 1);
        x.map(0);
        String before = hitsOf(x) + mapOf(x);
        addRead(x, "A".repeat(19));
        due("read 24", x.read(3), true);
        due("length(true)", x.length(true), 24);
        for (int b = -1; b <= 4; b++) {
            due("read 25", x.read(b), false);
        }
        due("length(true)", x.length(true), 24);
        due("hits and map", hitsOf(x) + mapOf(x), before);
        x.map(0);
        due("map", mapOf(x),
                "@SQ\tSN:g\tLN:6\nr2\t4\t*\t0\t0\t*\t*\t0\t0\tACGTAAAAAAAAAAAAAAAAAAAT\t*\n");
    }

    private static void wipe() {
        promise = "5";
        Subject x = mapper("ACGTN", "CG");
        x.map(1);
        String hits = hitsOf(x);
        String map = mapOf(x);
        x.wipe();
        due("all after wipe", all(x), "5|0|5 0 1 2 3 4|450123|-1|0|" + hits + "|" + map + "|1");
        x.wipe();
        addRead(x, "GT");
        due("first()", x.first(), 3);
        x.wipe();
        addRead(x, "C".repeat(24));
        due("read 25", x.read(0), false);
    }

    private static void turn() {
        promise = "6";
        Subject x = mapper("AACGT", "AACG");
        x.map(0);
        String before = hitsOf(x) + mapOf(x);
        x.turn();
        due("length(true)", x.length(true), 4);
        due("count()", x.count(), 0);
        due("hits and map", hitsOf(x) + mapOf(x), before);
        x.clear();
        addBases(x, "CGTT");
        due("count()", x.count(), 1);
        x.turn();
        due("count() of the read turned twice", x.count(), 0);
        x.wipe();
        x.turn();
        due("length(true) of a turned empty read", x.length(true), 0);
        addRead(x, "GATTACA");
        x.turn();
        x.clear();
        x.map(0);
        due("map", mapOf(x), "@SQ\tSN:g\tLN:0\nr2\t4\t*\t0\t0\t*\t*\t0\t0\tTGTAATC\t*\n");
        addRead(x, "C");
        x.map(4);
        due("map", mapOf(x), "@SQ\tSN:g\tLN:0\nr3\t4\t*\t0\t0\t*\t*\t0\t0\tTGTAATCC\t*\n");
    }

    private static void length() {
        promise = "7";
        Subject x = new Subject();
        for (int i = 0; i < 96; i++) {
            due("length(false)", x.length(false), i);
            due("length(true)", x.length(true), Math.min(i, 24));
            x.base(i % 5);
            x.read(i % 4);
        }
        due("length(false)", x.length(false), 96);
        x.wipe();
        due("length(true)", x.length(true), 0);
        due("length(false)", x.length(false), 96);
    }

    private static void row() {
        promise = "8";
        Subject x = new Subject();
        due("row(0) without a genome", x.row(0), 0);
        due("row(1) without a genome", x.row(1), StrandMapper.NONE);
        addBases(x, "GATTACA");
        due("rows", rowsOf(x), "7 6 4 1 5 0 3 2");
        due("row(-1)", x.row(-1), StrandMapper.NONE);
        due("row(8)", x.row(8), StrandMapper.NONE);
        for (int i : FAR) {
            due("row(" + i + ")", x.row(i), StrandMapper.NONE);
        }
        addBases(x, "N");
        due("rows with N", rowsOf(x), "8 4 1 6 5 0 3 2 7");
        x.clear();
        addBases(x, "NNNTNN");
        due("rows with N last", rowsOf(x), "6 3 5 2 4 1 0");
        x.clear();
        addBases(x, "A".repeat(96));
        due("row(0) of 96", x.row(0), 96);
        due("row(1) of 96", x.row(1), 95);
        due("row(96) of 96", x.row(96), 0);
        due("row(97) of 96", x.row(97), StrandMapper.NONE);
    }

    private static void last() {
        promise = "9";
        Subject x = new Subject();
        due("last(0) without a genome", x.last(0), 5);
        due("last(1) without a genome", x.last(1), StrandMapper.NONE);
        addBases(x, "GATTACA");
        due("lasts", lastsOf(x), "01320530");
        due("last(-1)", x.last(-1), StrandMapper.NONE);
        due("last(8)", x.last(8), StrandMapper.NONE);
        for (int i : FAR) {
            due("last(" + i + ")", x.last(i), StrandMapper.NONE);
        }
        addBases(x, "NC");
        due("lasts with N", lastsOf(x), "1321405300");
    }

    private static void rank() {
        promise = "10";
        Subject x = new Subject();
        due("rank(5, 0) without a genome", x.rank(5, 0), 0);
        due("rank(5, 1) without a genome", x.rank(5, 1), 1);
        due("rank(5, 2) without a genome", x.rank(5, 2), StrandMapper.BAD);
        addBases(x, "GATTACA");
        for (int b = 0; b <= 5; b++) {
            int soFar = 0;
            for (int i = 0; i <= 8; i++) {
                due("rank(" + b + ", " + i + ")", x.rank(b, i), soFar);
                soFar += i < 8 && "01320530".charAt(i) - '0' == b ? 1 : 0;
            }
            due("rank(" + b + ", -1)", x.rank(b, -1), StrandMapper.BAD);
            due("rank(" + b + ", 9)", x.rank(b, 9), StrandMapper.BAD);
        }
        due("rank(-1, 0)", x.rank(-1, 0), StrandMapper.BAD);
        due("rank(6, 0)", x.rank(6, 0), StrandMapper.BAD);
        for (int i : FAR) {
            due("rank(0, " + i + ")", x.rank(0, i), StrandMapper.BAD);
            due("rank(" + i + ", 0)", x.rank(i, 0), StrandMapper.BAD);
        }
    }

    private static void first() {
        promise = "11";
        Subject x = mapper("GATTACA", "");
        due("first() of no read", x.first(), StrandMapper.NONE);
        addRead(x, "A");
        due("first() of A", x.first(), 1);
        addRead(x, "T");
        due("first() of AT", x.first(), 3);
        addRead(x, "G");
        due("first() of ATG", x.first(), StrandMapper.NONE);
        x.wipe();
        addRead(x, "CAA");
        due("first() of a read beyond the end", x.first(), StrandMapper.NONE);
        x.wipe();
        addRead(x, "GATTACA");
        due("first() of the whole", x.first(), 5);
        addRead(x, "A");
        due("first() of more than the whole", x.first(), StrandMapper.NONE);
        x.clear();
        due("first() without a genome", x.first(), StrandMapper.NONE);
        addBases(x, "A".repeat(96));
        due("first() of a read that 96 bases do not have", x.first(), StrandMapper.NONE);
        x.wipe();
        addRead(x, "A".repeat(24));
        due("first() of 24 bases in 96", x.first(), 24);
    }

    private static void count() {
        promise = "12";
        Subject x = mapper("GATTACANA", "");
        due("count() of no read", x.count(), 0);
        addRead(x, "A");
        due("count() of A", x.count(), 4);
        addRead(x, "A");
        due("count() of AA", x.count(), 0);
        x.clear();
        due("count() without a genome", x.count(), 0);
        addBases(x, "AAAA");
        due("count() of AA in AAAA", x.count(), 3);
        addRead(x, "AAA");
        due("count() of a read longer than the genome", x.count(), 0);
        x.wipe();
        addRead(x, "T");
        due("count() on the other strand", x.count(), 0);
    }

    private static void map() {
        promise = "13";
        Subject x = mapper("ACGTNACC", "");
        due("map(5) of no read", x.map(5), StrandMapper.BAD);
        due("map(-1) of no read", x.map(-1), StrandMapper.BAD);
        due("map(4) of no read", x.map(4), StrandMapper.EMPTY);
        addRead(x, "ACC");
        String before = all(x);
        for (int k : new int[] {-1, 5, Integer.MIN_VALUE, Integer.MAX_VALUE}) {
            due("map(" + k + ")", x.map(k), StrandMapper.BAD);
            due("all after map(" + k + ")", all(x), before);
        }
        due("map(0)", x.map(0), 1);
        due("the only hit", mapOf(x), "@SQ\tSN:g\tLN:8\n"
                + "r1\t0\tg\t6\t60\t3M\t*\t0\t0\tACC\t*\tNM:i:0\tMD:Z:3\n");
        due("map(1)", x.map(1), 3);
        due("the best hit is the last one", mapOf(x), "@SQ\tSN:g\tLN:8\n"
                + "r2\t256\tg\t1\t0\t3M\t*\t0\t0\t*\t*\tNM:i:1\tMD:Z:2G0\n"
                + "r2\t272\tg\t2\t0\t3M\t*\t0\t0\t*\t*\tNM:i:1\tMD:Z:0C2\n"
                + "r2\t0\tg\t6\t40\t3M\t*\t0\t0\tACC\t*\tNM:i:0\tMD:Z:3\n");
        x.wipe();
        addRead(x, "GGT");
        due("map(0) of the turned one", x.map(0), 1);
        due("the only hit on strand 1", mapOf(x), "@SQ\tSN:g\tLN:8\n"
                + "r3\t16\tg\t6\t60\t3M\t*\t0\t0\tACC\t*\tNM:i:0\tMD:Z:3\n");
        mapQualities();
        mapDifferences();
        mapOverflow();
    }

    private static void mapQualities() {
        Subject x = mapper("ACGT", "ACGT");
        due("map(0) of a read that is its turned one", x.map(0), 2);
        due("quality 3", mapOf(x), "@SQ\tSN:g\tLN:4\n"
                + "r1\t0\tg\t1\t3\t4M\t*\t0\t0\tACGT\t*\tNM:i:0\tMD:Z:4\n"
                + "r1\t272\tg\t1\t0\t4M\t*\t0\t0\t*\t*\tNM:i:0\tMD:Z:4\n");
        x = mapper("AACAA", "TT");
        due("map(0)", x.map(0), 2);
        due("quality 3 on strand 1", mapOf(x), "@SQ\tSN:g\tLN:5\n"
                + "r1\t16\tg\t1\t3\t2M\t*\t0\t0\tAA\t*\tNM:i:0\tMD:Z:2\n"
                + "r1\t272\tg\t4\t0\t2M\t*\t0\t0\t*\t*\tNM:i:0\tMD:Z:2\n");
        x = mapper("AAA", "A");
        due("map(0)", x.map(0), 3);
        due("quality 0", mapOf(x), "@SQ\tSN:g\tLN:3\n"
                + "r1\t0\tg\t1\t0\t1M\t*\t0\t0\tA\t*\tNM:i:0\tMD:Z:1\n"
                + "r1\t256\tg\t2\t0\t1M\t*\t0\t0\t*\t*\tNM:i:0\tMD:Z:1\n"
                + "r1\t256\tg\t3\t0\t1M\t*\t0\t0\t*\t*\tNM:i:0\tMD:Z:1\n");
    }

    private static void mapDifferences() {
        Subject x = mapper("NCTNGAATTCCN", "ACTAGAATTCGT");
        due("map(3)", x.map(3), 0);
        due("the map without hits", mapOf(x), "@SQ\tSN:g\tLN:12\n"
                + "r1\t4\t*\t0\t0\t*\t*\t0\t0\tACTAGAATTCGT\t*\n");
        due("map(4)", x.map(4), 1);
        due("differences at the beginning, inside and at the end", mapOf(x), "@SQ\tSN:g\tLN:12\n"
                + "r2\t0\tg\t1\t60\t12M\t*\t0\t0\tACTAGAATTCGT\t*\tNM:i:4\tMD:Z:0N2N6C0N0\n");
        x = mapper("TTTT", "AAAA");
        x.map(4);
        due("no base agrees", mapOf(x), "@SQ\tSN:g\tLN:4\n"
                + "r1\t256\tg\t1\t0\t4M\t*\t0\t0\t*\t*\tNM:i:4\tMD:Z:0T0T0T0T0\n"
                + "r1\t16\tg\t1\t40\t4M\t*\t0\t0\tTTTT\t*\tNM:i:0\tMD:Z:4\n");
    }

    private static void mapOverflow() {
        Subject x = mapper("A".repeat(30) + "T".repeat(18), "A".repeat(9));
        for (int i = 1; i <= 9; i++) {
            due("map(2) with 1500 characters", x.map(2), 36);
            due("size()", x.size(), 1500);
            due("at(1499)", x.at(1499), 10);
            due("at(1500)", x.at(1500), StrandMapper.NONE);
        }
        String before = all(x);
        due("map(2) with a longer number", x.map(2), StrandMapper.OVERFLOW);
        due("all after OVERFLOW", all(x), before);
        due("map(5)", x.map(5), StrandMapper.BAD);
        x.wipe();
        addRead(x, "CCCC");
        due("map(0)", x.map(0), 0);
        due("map", mapOf(x), "@SQ\tSN:g\tLN:48\nr10\t4\t*\t0\t0\t*\t*\t0\t0\tCCCC\t*\n");
        x = mapper("A".repeat(45) + "CCCC", "A".repeat(16));
        due("map(4) with 1501 characters", x.map(4), StrandMapper.OVERFLOW);
        due("hits and map", hitsOf(x) + mapOf(x) + x.mappings(), "0");
        x = mapper("A".repeat(96), "A");
        due("map(1) with as many hits as there can be", x.map(1), StrandMapper.OVERFLOW);
        due("hits and map", hitsOf(x) + mapOf(x) + x.mappings(), "0");
    }

    private static void hits() {
        promise = "14";
        Subject x = mapper("ACGTACGT", "ACG");
        due("hits() before the first mapping", x.hits(), 0);
        due("map(0)", x.map(0), 4);
        due("hits()", x.hits(), 4);
        x.map(-1);
        due("hits() after BAD", x.hits(), 4);
        x.wipe();
        x.map(0);
        due("hits() after EMPTY", x.hits(), 4);
        x.clear();
        due("hits() after clear", x.hits(), 4);
        addRead(x, "A");
        addBases(x, "A".repeat(96));
        x.map(0);
        due("hits() after OVERFLOW", x.hits(), 4);
        x.turn();
        x.clear();
        x.map(0);
        due("hits() of a mapping without hits", x.hits(), 0);
    }

    private static void hit() {
        promise = "15";
        Subject x = mapper("ACGTACCT", "ACG");
        due("map(1)", x.map(1), 4);
        due("hits", hitsOf(x), "0:0:0:1 1:1:0:0 4:0:1:0 5:1:1:0");
        for (int what = 0; what <= 3; what++) {
            due("hit(-1, " + what + ")", x.hit(-1, what), StrandMapper.BAD);
            due("hit(4, " + what + ")", x.hit(4, what), StrandMapper.BAD);
            for (int i : FAR) {
                due("hit(" + i + ", " + what + ")", x.hit(i, what), StrandMapper.BAD);
            }
        }
        for (int i = 0; i < 4; i++) {
            due("hit(" + i + ", -1)", x.hit(i, -1), StrandMapper.BAD);
            due("hit(" + i + ", 4)", x.hit(i, 4), StrandMapper.BAD);
            for (int what : FAR) {
                due("hit(" + i + ", " + what + ")", x.hit(i, what), StrandMapper.BAD);
            }
        }
        x.wipe();
        addRead(x, "CCT");
        due("map(1)", x.map(1), 3);
        due("hits with the primary one last", hitsOf(x), "0:1:1:0 1:0:1:0 5:0:0:1");
        due("hit(3, 0) of the mapping before", x.hit(3, 0), StrandMapper.BAD);
    }

    private static void size() {
        promise = "16";
        Subject x = mapper("", "");
        due("size() before the first mapping", x.size(), 0);
        x.map(0);
        due("size() after EMPTY", x.size(), 0);
        addRead(x, "G");
        x.map(0);
        due("size()", x.size(), 37);
        addBases(x, "C");
        addRead(x, "G");
        x.wipe();
        x.clear();
        due("size() after changes", x.size(), 37);
        addBases(x, "C");
        addRead(x, "G");
        x.map(0);
        due("size()", x.size(), "@SQ\tSN:g\tLN:1\n".length()
                + "r2\t16\tg\t1\t60\t1M\t*\t0\t0\tC\t*\tNM:i:0\tMD:Z:1\n".length());
    }

    private static void at() {
        promise = "17";
        Subject x = mapper("C", "G");
        due("at(0) before the first mapping", x.at(0), StrandMapper.NONE);
        x.map(0);
        String want = "@SQ\tSN:g\tLN:1\nr1\t16\tg\t1\t60\t1M\t*\t0\t0\tC\t*\tNM:i:0\tMD:Z:1\n";
        for (int k = 0; k < want.length(); k++) {
            due("at(" + k + ")", x.at(k), want.charAt(k));
        }
        due("at(-1)", x.at(-1), StrandMapper.NONE);
        due("at(size)", x.at(want.length()), StrandMapper.NONE);
        for (int k : FAR) {
            due("at(" + k + ")", x.at(k), StrandMapper.NONE);
        }
        x.clear();
        x.map(0);
        due("at behind a shorter map than the one before", x.at(x.size()), StrandMapper.NONE);
    }

    private static void mappings() {
        promise = "18";
        Subject x = mapper("ACGT", "");
        x.map(0);
        x.map(7);
        due("mappings() after EMPTY and BAD", x.mappings(), 0);
        addRead(x, "AC");
        int before = 0;
        for (int i = 0; i < 160; i++) {
            int k = i % 7 - 1;
            x.map(k);
            before += k >= 0 && k <= 4 ? 1 : 0;
            due("mappings()", x.mappings(), before);
        }
        x.clear();
        x.wipe();
        addBases(x, "A".repeat(96));
        addRead(x, "A");
        x.map(0);
        due("mappings() after OVERFLOW", x.mappings(), before);
        x.turn();
        x.clear();
        x.map(0);
        due("mappings() after a mapping without hits", x.mappings(), before + 1);
        due("the number with three digits", mapOf(x).substring(14, 18), "r" + (before + 1));
    }

    public static void main(String[] args) {
        aNewObject();
        base();
        clear();
        read();
        wipe();
        turn();
        length();
        row();
        last();
        rank();
        first();
        count();
        map();
        hits();
        hit();
        size();
        at();
        mappings();
        System.out.println(wrong == 0 ? "all answers are as due" : wrong + " answers are not as due");
        if (wrong != 0) {
            System.exit(1);
        }
    }
}

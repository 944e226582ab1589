/** Refused calls: that they change nothing, which refusal is the answer, and the constants. */
public final class RefusalsTest {
    private static final int[] FAR = {Integer.MIN_VALUE, -1000, -1, 1000, Integer.MAX_VALUE};
    private static final String NOTHING = "A call that is refused changes nothing";

    private interface Refused {
        void on(Subject x);
    }

    /** Genome, read, hits and map are all there, and hits and map are not those of this read. */
    private static Subject loaded() {
        Subject x = Subject.of("ACGTNACC", "ACC");
        x.map(1);
        x.addBases("GT");
        x.newRead("GTA");
        return x;
    }

    /** As above with a genome and a read that take nothing more. */
    private static Subject full() {
        Subject x = loaded();
        x.addBases("A".repeat(86));
        x.addRead("C".repeat(21));
        return x;
    }

    private static Subject withoutRead() {
        Subject x = loaded();
        x.wipe();
        return x;
    }

    /** The mapping with bound 0 would have too long a map. */
    private static Subject tooManyHits() {
        Subject x = loaded();
        x.newGenome("A".repeat(96));
        x.newRead("A");
        return x;
    }

    /** What can be asked, and what a mapping of the read tells of genome and read. */
    private static String wholeOf(Subject x) {
        String asked = x.everything();
        x.map(0);
        return asked + "|" + x.hitsAndMap();
    }

    private static void dueNothing(String call, Subject x, Subject twin, Refused refused) {
        refused.on(x);
        Check.due("all after " + call, wholeOf(x), wholeOf(twin));
    }

    private static void refusedBaseChangesNothing() {
        Check.sentence(NOTHING);
        for (int b : new int[] {-1, 5, 6, Integer.MIN_VALUE, Integer.MAX_VALUE}) {
            dueNothing("base(" + b + ")", loaded(), loaded(), x -> Check.due("base", x.base(b), false));
            dueNothing("base(" + b + ")", new Subject(), new Subject(), x -> Check.due("base", x.base(b), false));
        }
        for (int b = -1; b <= 5; b++) {
            int base = b;
            dueNothing("base(" + b + ") with 96 there", full(), full(), x -> Check.due("base", x.base(base), false));
        }
    }

    private static void refusedReadChangesNothing() {
        Check.sentence(NOTHING);
        for (int b : new int[] {-1, 4, 5, Integer.MIN_VALUE, Integer.MAX_VALUE}) {
            dueNothing("read(" + b + ")", loaded(), loaded(), x -> Check.due("read", x.read(b), false));
            dueNothing("read(" + b + ")", new Subject(), new Subject(), x -> Check.due("read", x.read(b), false));
        }
        for (int b = -1; b <= 4; b++) {
            int base = b;
            dueNothing("read(" + b + ") with 24 there", full(), full(), x -> Check.due("read", x.read(base), false));
        }
    }

    private static void refusedMapChangesNothing() {
        Check.sentence(NOTHING);
        for (int k : new int[] {-1, 5, Integer.MIN_VALUE, Integer.MAX_VALUE}) {
            dueNothing("map(" + k + ")", loaded(), loaded(), x -> Check.due("map", x.map(k), -2));
            dueNothing("map(" + k + ")", new Subject(), new Subject(), x -> Check.due("map", x.map(k), -2));
        }
        for (int k = 0; k <= 4; k++) {
            int bound = k;
            dueNothing("map(" + k + ")", withoutRead(), withoutRead(), x -> Check.due("map", x.map(bound), -3));
            dueNothing("map(" + k + ")", new Subject(), new Subject(), x -> Check.due("map", x.map(bound), -3));
        }
        for (int k = 0; k <= 4; k++) {
            int bound = k;
            dueNothing("map(" + k + ")", tooManyHits(), tooManyHits(), x -> Check.due("map", x.map(bound), -4));
        }
    }

    /** A mapping refused for its length has looked for hits before that can be known. */
    private static void overflowLeavesTheMappingBefore() {
        Check.sentence(NOTHING);
        Subject x = loaded();
        String before = x.hitsAndMap();
        Check.due("the hits before", x.hitList(), "0:0:1:0 1:1:1:0 5:0:0:1");
        x.newGenome("A".repeat(96));
        x.newRead("A");
        for (int i = 1; i <= 3; i++) {
            Check.due("map(0)", x.map(0), -4);
            Check.due("hits and map after OVERFLOW " + i, x.hitsAndMap(), before);
        }
        x.newRead("C");
        x.map(0);
        Check.due("the next mapping", x.hitsAndMap(), "|@SQ\tSN:g\tLN:96\nr2\t4\t*\t0\t0\t*\t*\t0\t0\tC\t*\n|2");
        x.newRead("T");
        Check.due("map(0) on strand 1", x.map(0), -4);
        x.turn();
        Check.due("map(0) of the read turned after OVERFLOW", x.map(0), -4);
        Check.due("count() of the read turned after OVERFLOW", x.count(), 96);
    }

    private static void refusedQuestionsChangeNothing() {
        Check.sentence(NOTHING);
        for (int i : FAR) {
            dueNothing("row(" + i + ")", loaded(), loaded(), x -> Check.due("row", x.row(i), -1));
            dueNothing("last(" + i + ")", loaded(), loaded(), x -> Check.due("last", x.last(i), -1));
            dueNothing("rank(0, " + i + ")", loaded(), loaded(), x -> Check.due("rank", x.rank(0, i), -2));
            dueNothing("rank(" + i + ", 0)", loaded(), loaded(), x -> Check.due("rank", x.rank(i, 0), -2));
            dueNothing("hit(" + i + ", 0)", loaded(), loaded(), x -> Check.due("hit", x.hit(i, 0), -2));
            dueNothing("hit(0, " + i + ")", loaded(), loaded(), x -> Check.due("hit", x.hit(0, i), -2));
            dueNothing("at(" + i + ")", loaded(), loaded(), x -> Check.due("at", x.at(i), -1));
        }
        dueNothing("first()", withoutRead(), withoutRead(), x -> Check.due("first", x.first(), -1));
        dueNothing("count()", withoutRead(), withoutRead(), x -> Check.due("count", x.count(), 0));
    }

    private static void theFirstNamedRefusalIsTheAnswer() {
        Check.sentence("where several refusals that a call names fit, the one named first is the answer.");
        for (int k : new int[] {-1, 5, Integer.MIN_VALUE, Integer.MAX_VALUE}) {
            Check.due("map(" + k + ") on a new object", new Subject().map(k), -2);
            Check.due("map(" + k + ") of no read", withoutRead().map(k), -2);
            Check.due("map(" + k + ") with too many hits", tooManyHits().map(k), -2);
        }
        Subject x = Subject.of("A".repeat(96), "");
        Check.due("map(4) of no read in a full genome", x.map(4), -3);
        Check.due("base(5) with 96 there", full().base(5), false);
        Check.due("read(4) with 24 there", full().read(4), false);
        Check.due("rank(6, -1)", loaded().rank(6, -1), -2);
        Check.due("hit(3, 4)", loaded().hit(3, 4), -2);
    }

    private static void noneIsForWhatIsNotThere() {
        Check.sentence("`NONE = -1`: There is none.");
        Check.due("NONE", StrandMapper.NONE, -1);
        Subject x = loaded();
        Check.due("row(11) of 10 bases", x.row(11), StrandMapper.NONE);
        Check.due("last(11) of 10 bases", x.last(11), StrandMapper.NONE);
        Check.due("first() of GTA", x.first(), StrandMapper.NONE);
        Check.due("at(size())", x.at(x.size()), StrandMapper.NONE);
    }

    private static void badIsForWrongNumbers() {
        Check.sentence("`BAD = -2`: A number is not as said.");
        Check.due("BAD", StrandMapper.BAD, -2);
        Subject x = loaded();
        Check.due("rank(6, 0)", x.rank(6, 0), StrandMapper.BAD);
        Check.due("rank(0, 12) of 10 bases", x.rank(0, 12), StrandMapper.BAD);
        Check.due("map(5)", x.map(5), StrandMapper.BAD);
        Check.due("hit(3, 0) of 3 hits", x.hit(3, 0), StrandMapper.BAD);
        Check.due("hit(0, 4)", x.hit(0, 4), StrandMapper.BAD);
    }

    private static void emptyIsForNoRead() {
        Check.sentence("`EMPTY = -3`: The read is empty.");
        Check.due("EMPTY", StrandMapper.EMPTY, -3);
        Check.due("map(0) of no read", withoutRead().map(0), StrandMapper.EMPTY);
        Check.due("map(0) of no genome and no read", new Subject().map(0), StrandMapper.EMPTY);
        Check.due("map(0) of a read without a genome", Subject.of("", "A").map(0), 0);
    }

    private static void overflowIsForLongMaps() {
        Check.sentence("`OVERFLOW = -4`: The map would have more than 1500 characters.");
        Check.due("OVERFLOW", StrandMapper.OVERFLOW, -4);
        Check.due("map(0) with too many hits", tooManyHits().map(0), StrandMapper.OVERFLOW);
    }

    public static void main(String[] args) {
        refusedBaseChangesNothing();
        refusedReadChangesNothing();
        refusedMapChangesNothing();
        overflowLeavesTheMappingBefore();
        refusedQuestionsChangeNothing();
        theFirstNamedRefusalIsTheAnswer();
        noneIsForWhatIsNotThere();
        badIsForWrongNumbers();
        emptyIsForNoRead();
        overflowIsForLongMaps();
        Check.end();
    }
}

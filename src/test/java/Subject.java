import java.util.ArrayList;
import java.util.List;

/**
 * A StrandMapper for tests that ask more than the 512 calls for which the document promises
 * answers: before they are used up, a new object takes over, to which all changes are made again.
 */
final class Subject {
    private static final int PROMISED_CALLS = 512;
    private static final int BASE = 0;
    private static final int CLEAR = 1;
    private static final int READ = 2;
    private static final int WIPE = 3;
    private static final int TURN = 4;
    private static final int MAP = 5;

    private final List<int[]> changes = new ArrayList<>();
    private StrandMapper mapper = new StrandMapper();
    private int calls = 0;

    static Subject of(String genome, String read) {
        Subject x = new Subject();
        x.addBases(genome);
        x.addRead(read);
        return x;
    }

    void addBases(String letters) {
        for (char c : letters.toCharArray()) {
            Check.due("base(" + c + ")", base("ACGTN".indexOf(c)), true);
        }
    }

    void addRead(String letters) {
        for (char c : letters.toCharArray()) {
            Check.due("read(" + c + ")", read("ACGT".indexOf(c)), true);
        }
    }

    void newGenome(String letters) {
        clear();
        addBases(letters);
    }

    void newRead(String letters) {
        wipe();
        addRead(letters);
    }

    /** The place of every row. */
    String rows() {
        StringBuilder out = new StringBuilder();
        for (int i = 0; i <= length(false); i++) {
            out.append(row(i)).append(' ');
        }
        return out.toString().trim();
    }

    /** The symbol before every row. */
    String lasts() {
        StringBuilder out = new StringBuilder();
        for (int i = 0; i <= length(false); i++) {
            out.append(last(i));
        }
        return out.toString();
    }

    /** Place, strand, mismatches and primary of every hit. */
    String hitList() {
        StringBuilder out = new StringBuilder();
        for (int i = 0; i < hits(); i++) {
            out.append(hit(i, 0)).append(':').append(hit(i, 1)).append(':');
            out.append(hit(i, 2)).append(':').append(hit(i, 3)).append(' ');
        }
        return out.toString().trim();
    }

    String text() {
        StringBuilder out = new StringBuilder();
        int size = size();
        for (int k = 0; k < size; k++) {
            out.append((char) at(k));
        }
        return out.toString();
    }

    /** The field of that number, from 1 on, in that line of the map, from 0 on. */
    String field(int line, int number) {
        String[] lines = text().split("\n", -1);
        String[] fields = line < lines.length ? lines[line].split("\t", -1) : new String[0];
        return number <= fields.length ? fields[number - 1] : "nothing";
    }

    String hitsAndMap() {
        return hitList() + "|" + text() + "|" + mappings();
    }

    String everything() {
        return length(false) + "|" + length(true) + "|" + rows() + "|" + lasts() + "|"
                + first() + "|" + count() + "|" + hitsAndMap();
    }

    private int make(int kind, int argument) {
        switch (kind) {
            case BASE:
                return mapper.base(argument) ? 1 : 0;
            case CLEAR:
                mapper.clear();
                return 0;
            case READ:
                return mapper.read(argument) ? 1 : 0;
            case WIPE:
                mapper.wipe();
                return 0;
            case TURN:
                mapper.turn();
                return 0;
            default:
                return mapper.map(argument);
        }
    }

    private StrandMapper forOneCall() {
        if (calls == PROMISED_CALLS) {
            mapper = new StrandMapper();
            calls = changes.size();
            if (calls == PROMISED_CALLS) {
                throw new IllegalStateException("a test makes too many changes to one object");
            }
            for (int[] change : changes) {
                make(change[0], change[1]);
            }
        }
        calls++;
        return mapper;
    }

    private int change(int kind, int argument) {
        forOneCall();
        changes.add(new int[] {kind, argument});
        return make(kind, argument);
    }

    boolean base(int b) {
        return change(BASE, b) == 1;
    }

    void clear() {
        change(CLEAR, 0);
    }

    boolean read(int b) {
        return change(READ, b) == 1;
    }

    void wipe() {
        change(WIPE, 0);
    }

    void turn() {
        change(TURN, 0);
    }

    int map(int k) {
        return change(MAP, k);
    }

    int length(boolean ofRead) {
        return forOneCall().length(ofRead);
    }

    int row(int i) {
        return forOneCall().row(i);
    }

    int last(int i) {
        return forOneCall().last(i);
    }

    int rank(int b, int i) {
        return forOneCall().rank(b, i);
    }

    int first() {
        return forOneCall().first();
    }

    int count() {
        return forOneCall().count();
    }

    int hits() {
        return forOneCall().hits();
    }

    int hit(int i, int what) {
        return forOneCall().hit(i, what);
    }

    int size() {
        return forOneCall().size();
    }

    int at(int k) {
        return forOneCall().at(k);
    }

    int mappings() {
        return forOneCall().mappings();
    }
}

import java.util.ArrayList;
import java.util.List;

/**
 * A StrandMapper for tests that ask more than the 512 calls for which the document promises
 * answers: before they are used up, a new object takes over, to which all changes are made again.
 */
final class Subject {
    private static final int PROMISED_CALLS = 512;
    private static final int BASE = 0;
    private static final int CLEAR = 1;
    private static final int READ = 2;
    private static final int WIPE = 3;
    private static final int TURN = 4;
    private static final int MAP = 5;

    private final List<int[]> changes = new ArrayList<>();
    private StrandMapper mapper = new StrandMapper();
    private int calls = 0;

    private int make(int kind, int argument) {
        switch (kind) {
            case BASE:
                return mapper.base(argument) ? 1 : 0;
            case CLEAR:
                mapper.clear();
                return 0;
            case READ:
                return mapper.read(argument) ? 1 : 0;
            case WIPE:
                mapper.wipe();
                return 0;
            case TURN:
                mapper.turn();
                return 0;
            default:
                return mapper.map(argument);
        }
    }

    private StrandMapper forOneCall() {
        if (calls == PROMISED_CALLS) {
            mapper = new StrandMapper();
            calls = changes.size();
            if (calls == PROMISED_CALLS) {
                throw new IllegalStateException("a test makes too many changes to one object");
            }
            for (int[] change : changes) {
                make(change[0], change[1]);
            }
        }
        calls++;
        return mapper;
    }

    private int change(int kind, int argument) {
        forOneCall();
        changes.add(new int[] {kind, argument});
        return make(kind, argument);
    }

    boolean base(int b) {
        return change(BASE, b) == 1;
    }

    void clear() {
        change(CLEAR, 0);
    }

    boolean read(int b) {
        return change(READ, b) == 1;
    }

    void wipe() {
        change(WIPE, 0);
    }

    void turn() {
        change(TURN, 0);
    }

    int map(int k) {
        return change(MAP, k);
    }

    int length(boolean ofRead) {
        return forOneCall().length(ofRead);
    }

    int row(int i) {
        return forOneCall().row(i);
    }

    int last(int i) {
        return forOneCall().last(i);
    }

    int rank(int b, int i) {
        return forOneCall().rank(b, i);
    }

    int first() {
        return forOneCall().first();
    }

    int count() {
        return forOneCall().count();
    }

    int hits() {
        return forOneCall().hits();
    }

    int hit(int i, int what) {
        return forOneCall().hit(i, what);
    }

    int size() {
        return forOneCall().size();
    }

    int at(int k) {
        return forOneCall().at(k);
    }

    int mappings() {
        return forOneCall().mappings();
    }
}

import java.util.ArrayList;
import java.util.Arrays;
import java.util.List;

/**
 * Long runs of calls, each answer held against a model that is written over plain texts and
 * shares no way of working with StrandMapper. The calls come from a row of numbers with a fixed
 * beginning, so that every run of this test makes the same ones.
 */
public final class OracleTest {
    private static final int CHANGES = 320;
    private static final int RUNS = 240;
    private static int wrong = 0;
    private static long seed = 20261115L;

    /** The document's words over texts: a genome of ACGTN, a read of ACGT. */
    private static final class Model {
        String genome = "";
        String read = "";
        List<int[]> hits = new ArrayList<>();
        int primary = -1;
        String map = "";
        int mappings = 0;

        static String turned(String read) {
            StringBuilder out = new StringBuilder();
            for (char c : read.toCharArray()) {
                out.insert(0, "TGCA".charAt("ACGT".indexOf(c)));
            }
            return out.toString();
        }

        boolean base(int b) {
            if (b < 0 || b > 4 || genome.length() == 96) {
                return false;
            }
            genome += "ACGTN".charAt(b);
            return true;
        }

        boolean read(int b) {
            if (b < 0 || b > 3 || read.length() == 24) {
                return false;
            }
            read += "ACGT".charAt(b);
            return true;
        }

        /** N becomes Z and END !, so that the order of the letters is that of the symbols. */
        String[] rows() {
            String whole = genome.replace('N', 'Z') + "!";
            String[] rows = new String[whole.length()];
            for (int i = 0; i < rows.length; i++) {
                rows[i] = whole.substring(i);
            }
            Arrays.sort(rows);
            return rows;
        }

        int row(int i) {
            return i < 0 || i > genome.length() ? -1 : genome.length() + 1 - rows()[i].length();
        }

        int last(int i) {
            int place = row(i);
            return place < 0 ? -1 : place == 0 ? 5 : "ACGTN".indexOf(genome.charAt(place - 1));
        }

        int rank(int b, int i) {
            if (b < 0 || b > 5 || i < 0 || i > genome.length() + 1) {
                return -2;
            }
            int all = 0;
            for (int j = 0; j < i; j++) {
                all += last(j) == b ? 1 : 0;
            }
            return all;
        }

        int first() {
            String[] rows = rows();
            for (int i = 0; i < rows.length && !read.isEmpty(); i++) {
                if (rows[i].startsWith(read)) {
                    return i;
                }
            }
            return -1;
        }

        int count() {
            int all = 0;
            for (String row : rows()) {
                all += !read.isEmpty() && row.startsWith(read) ? 1 : 0;
            }
            return all;
        }

        int map(int k) {
            if (k < 0 || k > 4) {
                return -2;
            }
            if (read.isEmpty()) {
                return -3;
            }
            List<int[]> found = new ArrayList<>();
            for (int p = 0; p + read.length() <= genome.length(); p++) {
                for (int strand = 0; strand < 2; strand++) {
                    int m = differing(p, strand == 0 ? read : turned(read));
                    if (m <= k) {
                        found.add(new int[] {p, strand, m});
                    }
                }
            }
            int best = -1;
            for (int i = found.size() - 1; i >= 0; i--) {
                if (best < 0 || found.get(i)[2] <= found.get(best)[2]) {
                    best = i;
                }
            }
            String text = text(found, best);
            if (text.length() > 1500) {
                return -4;
            }
            hits = found;
            primary = best;
            map = text;
            mappings++;
            return found.size();
        }

        private int differing(int place, String strand) {
            int all = 0;
            for (int i = 0; i < strand.length(); i++) {
                all += genome.charAt(place + i) == strand.charAt(i) ? 0 : 1;
            }
            return all;
        }

        private String text(List<int[]> found, int best) {
            StringBuilder out = new StringBuilder("@SQ\tSN:g\tLN:" + genome.length() + "\n");
            String name = "r" + (mappings + 1);
            if (found.isEmpty()) {
                out.append(String.join("\t", name, "4", "*", "0", "0", "*", "*", "0", "0", read, "*"));
                out.append('\n');
            }
            for (int i = 0; i < found.size(); i++) {
                int[] hit = found.get(i);
                String strand = hit[1] == 0 ? read : turned(read);
                out.append(String.join("\t", name,
                        String.valueOf(16 * hit[1] + (i == best ? 0 : 256)), "g",
                        String.valueOf(hit[0] + 1),
                        String.valueOf(i == best ? quality(found, hit[2]) : 0),
                        read.length() + "M", "*", "0", "0", i == best ? strand : "*", "*",
                        "NM:i:" + hit[2], "MD:Z:" + differences(hit[0], strand)));
                out.append('\n');
            }
            return out.toString();
        }

        private int quality(List<int[]> found, int least) {
            if (found.size() == 1) {
                return 60;
            }
            int others = -1;
            for (int[] hit : found) {
                others += hit[2] == least ? 1 : 0;
            }
            return others == 0 ? 40 : others == 1 ? 3 : 0;
        }

        private String differences(int place, String strand) {
            String out = "";
            int since = 0;
            for (int i = 0; i < strand.length(); i++) {
                if (genome.charAt(place + i) != strand.charAt(i)) {
                    out += (i - since) + "" + genome.charAt(place + i);
                    since = i + 1;
                }
            }
            return out + (strand.length() - since);
        }

        int hit(int i, int what) {
            if (i < 0 || i >= hits.size() || what < 0 || what > 3) {
                return -2;
            }
            return what == 3 ? (i == primary ? 1 : 0) : hits.get(i)[what];
        }

        int at(int k) {
            return k < 0 || k >= map.length() ? -1 : map.charAt(k);
        }
    }

    private static int below(int n) {
        seed = seed * 6364136223846793005L + 1442695040888963407L;
        return (int) ((seed >>> 33) % n);
    }

    private static void due(String call, Model m, long got, long want) {
        if (got != want) {
            wrong++;
            if (wrong <= 20) {
                System.out.println("genome " + m.genome + " read " + m.read + ": " + call
                        + " answered " + got + ", due is " + want);
            }
        }
    }

    private static int bit(boolean b) {
        return b ? 1 : 0;
    }

    /** Mostly a base of a small alphabet, so that repeats come about; now and then a wrong one. */
    private static int someBase(int kinds) {
        int which = below(40);
        return which == 0 ? below(9) - 2 : which == 1 ? 4 : below(kinds);
    }

    private static int someNumber(int usual) {
        int which = below(30);
        if (which == 0) {
            return Integer.MIN_VALUE;
        }
        if (which == 1) {
            return Integer.MAX_VALUE;
        }
        return below(usual + 4) - 2;
    }

    private static void whole(Subject x, Model m) {
        due("length(false)", m, x.length(false), m.genome.length());
        due("length(true)", m, x.length(true), m.read.length());
        due("hits()", m, x.hits(), m.hits.size());
        due("size()", m, x.size(), m.map.length());
        due("mappings()", m, x.mappings(), m.mappings);
        for (int i = -1; i <= m.hits.size(); i++) {
            for (int what = -1; what <= 4; what++) {
                due("hit(" + i + ", " + what + ")", m, x.hit(i, what), m.hit(i, what));
            }
        }
        for (int k = -1; k <= m.map.length() + 1; k++) {
            due("at(" + k + ")", m, x.at(k), m.at(k));
        }
    }

    private static void change(Subject x, Model m, int kinds) {
        int which = below(60);
        if (which == 0) {
            x.clear();
            m.genome = "";
        } else if (which < 4) {
            x.wipe();
            m.read = "";
        } else if (which < 7) {
            x.turn();
            m.read = Model.turned(m.read);
        } else if (which < 36) {
            int b = someBase(kinds);
            due("base(" + b + ")", m, bit(x.base(b)), bit(m.base(b)));
        } else {
            int b = someBase(kinds);
            due("read(" + b + ")", m, bit(x.read(b)), bit(m.read(b)));
        }
    }

    private static void ask(Subject x, Model m) {
        int i = someNumber(m.genome.length());
        int b = someNumber(6);
        due("row(" + i + ")", m, x.row(i), m.row(i));
        due("last(" + i + ")", m, x.last(i), m.last(i));
        due("rank(" + b + ", " + i + ")", m, x.rank(b, i), m.rank(b, i));
        due("first()", m, x.first(), m.first());
        due("count()", m, x.count(), m.count());
    }

    private static void run(int number) {
        Subject x = new Subject();
        Model m = new Model();
        int kinds = 1 + number % 4;
        int start = number % 3 == 0 ? 0 : 10 + below(90);
        for (int i = 0; i < start; i++) {
            int b = someBase(kinds);
            due("base(" + b + ")", m, bit(x.base(b)), bit(m.base(b)));
        }
        for (int i = start; i < CHANGES; i++) {
            if (below(4) != 0) {
                change(x, m, kinds);
                continue;
            }
            ask(x, m);
            int k = someNumber(5);
            due("map(" + k + ")", m, x.map(k), m.map(k));
            if (below(8) == 0) {
                whole(x, m);
            }
        }
        whole(x, m);
    }

    public static void main(String[] args) {
        for (int number = 0; number < RUNS; number++) {
            run(number);
        }
        System.out.println(wrong == 0 ? "all answers are as due" : wrong + " answers are not as due");
        if (wrong != 0) {
            System.exit(1);
        }
    }
}

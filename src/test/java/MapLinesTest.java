/** A method for each sentence on the MAP, its fields and the constant OVERFLOW. */
public final class MapLinesTest {
    private static final int FLAG = 2;
    private static final int PLACE = 4;
    private static final int QUALITY = 5;
    private static final int LENGTH = 6;
    private static final int BASES = 10;
    private static final int MISMATCHES = 12;
    private static final int DIFFERENCES = 13;

    private static Subject mapped(String genome, String read, int bound) {
        Subject x = Subject.of(genome, read);
        x.map(bound);
        return x;
    }

    /** That field of every line but the first one. */
    private static String column(Subject x, int number) {
        StringBuilder out = new StringBuilder();
        for (int i = 0; i < x.hits(); i++) {
            out.append(x.field(i + 1, number)).append(' ');
        }
        return out.toString().trim();
    }

    private static void dueColumn(int number, String genome, String read, int bound, String want) {
        Check.due("field " + number + " after map(" + bound + ") of " + read + " in " + genome,
                column(mapped(genome, read, bound), number), want);
    }

    private static int howMany(String text, char c) {
        int all = 0;
        for (int i = 0; i < text.length(); i++) {
            all += text.charAt(i) == c ? 1 : 0;
        }
        return all;
    }

    private static void linesEndWith10() {
        Check.sentence("The MAP is a text of lines, each ended by the character 10");
        Subject[] maps = {mapped("", "A", 0), mapped("A", "A", 0), mapped("ATTA", "A", 1)};
        int[] lines = {2, 2, 9};
        for (int i = 0; i < maps.length; i++) {
            Check.due("lines", howMany(maps[i].text(), '\n'), lines[i]);
            Check.due("the last character", maps[i].at(maps[i].size() - 1), 10);
            Check.due("the one before", maps[i].at(maps[i].size() - 2) == 10, false);
            Check.due("characters 13", howMany(maps[i].text(), '\r'), 0);
        }
    }

    private static void fieldsAreKeptApartBy9() {
        Check.sentence("fields in a line are kept apart by the character 9.");
        Subject[] maps = {mapped("", "A", 0), mapped("A", "A", 0), mapped("TA", "A", 1)};
        int[] inLines = {10, 12, 12};
        for (int i = 0; i < maps.length; i++) {
            String[] lines = maps[i].text().split("\n");
            Check.due("characters 9 in the first line", howMany(lines[0], '\t'), 2);
            for (int line = 1; line < lines.length; line++) {
                Check.due("characters 9 in line " + line, howMany(lines[line], '\t'), inLines[i]);
                Check.due("an empty field in line " + line, lines[line].contains("\t\t"), false);
                Check.due("a character 9 at the end of line " + line, lines[line].endsWith("\t"), false);
            }
            Check.due("spaces", howMany(maps[i].text(), ' '), 0);
        }
    }

    private static void firstLineTellsTheLength() {
        Check.sentence("The first line is: @SQ, SN:g, LN: and the length of the genome.");
        for (int length = 0; length <= 96; length++) {
            if (length <= 1 || length % 10 == 0 || length % 10 == 9 || length >= 95) {
                String text = mapped("N".repeat(length), "A", 0).text();
                String want = "@SQ\tSN:g\tLN:" + length + "\n";
                Check.due("the first line of " + length + " bases",
                        text.substring(0, Math.min(text.length(), want.length())), want);
            }
        }
        Subject x = mapped("AC", "A", 0);
        x.addBases("G");
        Check.due("the length when it was mapped, with a base more", x.field(0, 3), "LN:2");
        x.clear();
        Check.due("the length when it was mapped, with none left", x.field(0, 3), "LN:2");
    }

    private static void aLineForEachHit() {
        Check.sentence("Behind it stands a line for each hit, in their order, with the fields:");
        Check.due("the map of one hit", mapped("ACC", "AC", 0).text(), "@SQ\tSN:g\tLN:3\n"
                + "r1\t0\tg\t1\t60\t2M\t*\t0\t0\tAC\t*\tNM:i:0\tMD:Z:2\n");
        Check.due("the map of three hits", mapped("ACGTNACC", "ACC", 1).text(), "@SQ\tSN:g\tLN:8\n"
                + "r1\t256\tg\t1\t0\t3M\t*\t0\t0\t*\t*\tNM:i:1\tMD:Z:2G0\n"
                + "r1\t272\tg\t2\t0\t3M\t*\t0\t0\t*\t*\tNM:i:1\tMD:Z:0C2\n"
                + "r1\t0\tg\t6\t40\t3M\t*\t0\t0\tACC\t*\tNM:i:0\tMD:Z:3\n");
        Check.due("the map of two hits at one place", mapped("ACGT", "ACGT", 0).text(), "@SQ\tSN:g\tLN:4\n"
                + "r1\t0\tg\t1\t3\t4M\t*\t0\t0\tACGT\t*\tNM:i:0\tMD:Z:4\n"
                + "r1\t272\tg\t1\t0\t4M\t*\t0\t0\t*\t*\tNM:i:0\tMD:Z:4\n");
    }

    private static void mappingsAreNumberedFrom1() {
        Check.sentence("r and the number of the mapping (1 for the first one since the beginning that was not refused)");
        Subject x = Subject.of("A".repeat(96), "");
        Check.due("map(0) of no read", x.map(0), -3);
        x.addRead("A");
        Check.due("map(5)", x.map(5), -2);
        Check.due("map(0) with too long a map", x.map(0), -4);
        x.newGenome("CA");
        x.map(0);
        Check.due("the first one, behind three refused ones", x.field(1, 1), "r1");
        x.map(-1);
        Check.due("the first one still", x.field(1, 1), "r1");
        x.map(0);
        Check.due("the second one, behind a refused one", x.field(1, 1), "r2");
        x.newGenome("A");
        x.newRead("A");
        x.map(0);
        Check.due("the third one, with genome and read new", x.field(1, 1), "r3");
        x.map(1);
        Check.due("the fourth one, first line of two", x.field(1, 1), "r4");
        Check.due("the fourth one, second line of two", x.field(2, 1), "r4");
        x.clear();
        x.map(1);
        Check.due("the fifth one, without hits", x.field(1, 1), "r5");
    }

    private static void flagsTellStrandAndPrimary() {
        Check.sentence("16 for strand 1 and 256 more for a hit that is not the primary one, 0 if neither");
        dueColumn(FLAG, "A", "A", 0, "0");
        dueColumn(FLAG, "T", "A", 0, "16");
        dueColumn(FLAG, "AA", "A", 0, "0 256");
        dueColumn(FLAG, "TT", "A", 0, "16 272");
        dueColumn(FLAG, "TA", "A", 1, "256 16 256 272");
    }

    private static void placesAreTheirNumbersPlus1() {
        Check.sentence("g; the place plus 1");
        dueColumn(3, "AA", "A", 0, "g g");
        dueColumn(PLACE, "AA", "A", 0, "1 2");
        dueColumn(PLACE, "C".repeat(8) + "AA", "A", 0, "9 10");
        dueColumn(PLACE, "C".repeat(95) + "A", "A", 0, "96");
        dueColumn(PLACE, "C".repeat(95) + "A", "T", 0, "96");
    }

    private static void lengthOfTheReadAndM() {
        Check.sentence("the length of the read and M");
        for (int length : new int[] {1, 9, 10, 23, 24}) {
            dueColumn(LENGTH, "A".repeat(length), "A".repeat(length), 0, length + "M");
            dueColumn(LENGTH, "T".repeat(length), "A".repeat(length), 0, length + "M");
        }
        dueColumn(LENGTH, "AAA", "AA", 0, "2M 2M");
    }

    private static void threeFieldsAreAlwaysTheSame() {
        Check.sentence("*; 0; 0; for the primary hit");
        Subject x = mapped("TA", "A", 1);
        for (int line = 1; line <= 4; line++) {
            Check.due("fields 7, 8, 9 and 11 of line " + line, x.field(line, 7) + x.field(line, 8)
                    + x.field(line, 9) + x.field(line, 11), "*00*");
        }
    }

    private static void basesOfThePrimaryHit() {
        Check.sentence("for the primary hit the bases of the read (strand 0) or of the turned read (strand 1) as letters, for others *");
        dueColumn(BASES, "AACG", "AACG", 0, "AACG");
        dueColumn(BASES, "CGTT", "AACG", 0, "CGTT");
        dueColumn(BASES, "AACN", "AACG", 1, "AACG");
        dueColumn(BASES, "CGTN", "AACG", 1, "CGTT");
        dueColumn(BASES, "AACGAACG", "AACG", 0, "AACG *");
        dueColumn(BASES, "CGTTAACG", "AACG", 0, "CGTT *");
        dueColumn(BASES, "AAATAACG", "AACG", 2, "* * AACG");
        String whole = "ACGTACGTACGTACGTACGTACGG";
        dueColumn(BASES, whole, whole, 0, whole);
    }

    private static void mismatchesOfTheHit() {
        Check.sentence("NM:i: and the mismatches");
        for (int m = 0; m <= 4; m++) {
            dueColumn(MISMATCHES, "N".repeat(m) + "AAAAA", "A".repeat(m + 5), 4, "NM:i:" + m);
            dueColumn(MISMATCHES, "N".repeat(m) + "TTTTT", "A".repeat(m + 5), 4, "NM:i:" + m);
        }
    }

    private static void qualityStandsBeforeTheLength() {
        Check.sentence("the QUALITY; the length of the read and M");
        dueColumn(QUALITY, "ACC", "AC", 0, "60");
        dueColumn(QUALITY + 1, "ACC", "AC", 0, "2M");
    }

    private static void differencesEndTheLine() {
        Check.sentence("MD:Z: and the DIFFERENCES.");
        Check.due("the end of the map", mapped("ACG", "ATG", 1).text().endsWith("\tMD:Z:1C1\n"), true);
        dueColumn(DIFFERENCES, "AA", "A", 0, "MD:Z:1 MD:Z:1");
    }

    private static void qualityOfOthersIs0() {
        Check.sentence("QUALITY: for a hit that is not the primary one 0");
        dueColumn(QUALITY, "AAACAAG", "AAA", 1, "40 0 0 0 0");
        dueColumn(QUALITY, "CAAAC", "AAA", 1, "0 40 0");
        dueColumn(QUALITY, "AACAA", "AA", 0, "3 0");
    }

    private static void qualityOfTheOnlyHitIs60() {
        Check.sentence("for the primary one 60 if it is the only hit");
        dueColumn(QUALITY, "A", "A", 0, "60");
        dueColumn(QUALITY, "T", "A", 0, "60");
        dueColumn(QUALITY, "AAAAANNNN", "AAAAAAAAA", 4, "60");
        dueColumn(QUALITY, "TTTTTNNNN", "AAAAAAAAA", 4, "60");
    }

    private static void qualityOfTheBestHitIs40() {
        Check.sentence("else 40 if no other has as few mismatches");
        dueColumn(QUALITY, "AAAC", "AAA", 1, "40 0");
        dueColumn(QUALITY, "CAAA", "AAA", 1, "0 40");
        dueColumn(QUALITY, "CAAAC", "AAA", 1, "0 40 0");
        dueColumn(QUALITY, "TTTTC", "AAAAAA", 4, "");
        dueColumn(QUALITY, "AAAAT", "AAAAA", 4, "40 0");
        dueColumn(QUALITY, "TTTTA", "AAAAA", 4, "0 40");
        dueColumn(QUALITY, "CCAAAANN", "AAAA", 3, "0 0 40 0 0");
        dueColumn(QUALITY, "CAACAAA", "AAA", 2, "0 0 0 0 40");
    }

    private static void qualityWithOneAsGoodIs3() {
        Check.sentence("else 3 if just one other has");
        dueColumn(QUALITY, "AA", "A", 0, "3 0");
        dueColumn(QUALITY, "TA", "A", 0, "3 0");
        dueColumn(QUALITY, "N", "A", 1, "3 0");
        dueColumn(QUALITY, "CAAAAC", "AAA", 1, "0 3 0 0");
        dueColumn(QUALITY, "AACCAA", "AAA", 2, "3 0 0 0");
        dueColumn(QUALITY, "CAACAAAA", "AAA", 2, "0 0 0 0 3 0");
    }

    private static void qualityWithMoreAsGoodIs0() {
        Check.sentence("has, else 0.");
        dueColumn(QUALITY, "AAA", "A", 0, "0 0 0");
        dueColumn(QUALITY, "TAT", "A", 0, "0 0 0");
        dueColumn(QUALITY, "AAAA", "A", 0, "0 0 0 0");
        dueColumn(QUALITY, "CAAAAAC", "AAA", 1, "0 0 0 0 0");
        dueColumn(QUALITY, "CAACAAAAA", "AAA", 2, "0 0 0 0 0 0 0");
    }

    private static void differencesBetweenMismatches() {
        Check.sentence("DIFFERENCES: for each mismatch from the first to the last: how many bases agree since the one before");
        dueColumn(DIFFERENCES, "AACAAGA", "AAAAAAA", 2, "MD:Z:2C2G1");
        dueColumn(DIFFERENCES, "AACGAAA", "AAAAAAA", 2, "MD:Z:2C0G3");
        dueColumn(DIFFERENCES, "AACAGATN", "AAAAAAAA", 4, "MD:Z:2C1G1T0N0");
        String far = "A".repeat(10);
        dueColumn(DIFFERENCES, far + "C" + far + "G", "A".repeat(22), 4, "MD:Z:10C10G0");
    }

    private static void differencesSinceTheBeginning() {
        Check.sentence("(or since the beginning)");
        dueColumn(DIFFERENCES, "CAAA", "AAAA", 1, "MD:Z:0C3");
        dueColumn(DIFFERENCES, "ACAA", "AAAA", 1, "MD:Z:1C2");
        dueColumn(DIFFERENCES, "AAAC", "AAAA", 1, "MD:Z:3C0");
        dueColumn(DIFFERENCES, "A".repeat(23) + "C", "A".repeat(24), 1, "MD:Z:23C0");
        dueColumn(DIFFERENCES, "CCCAA", "AA", 1, "MD:Z:0C1 MD:Z:2");
    }

    private static void differencesNameTheGenomesBase() {
        Check.sentence("and the letter of the genome's base there");
        dueColumn(DIFFERENCES, "CGTNAAAAA", "AAAAAAAAA", 4, "MD:Z:0C0G0T0N5");
        dueColumn(DIFFERENCES, "ACCCCC", "CCCCCC", 4, "MD:Z:0A5");
        dueColumn(DIFFERENCES, "GTC", "AAC", 1, "MD:Z:2C0");
        dueColumn(DIFFERENCES, "CTT", "AAC", 1, "MD:Z:0C2");
    }

    private static void differencesBehindTheLast() {
        Check.sentence("then how many agree behind the last one");
        dueColumn(DIFFERENCES, "AAAAC", "AAAAA", 1, "MD:Z:4C0");
        dueColumn(DIFFERENCES, "AAACA", "AAAAA", 1, "MD:Z:3C1");
        dueColumn(DIFFERENCES, "C" + "A".repeat(23), "A".repeat(24), 1, "MD:Z:0C23");
        dueColumn(DIFFERENCES, "C", "A", 1, "MD:Z:0C0 MD:Z:0C0");
        dueColumn(DIFFERENCES, "CCCC", "AAAA", 4, "MD:Z:0C0C0C0C0 MD:Z:0C0C0C0C0");
    }

    private static void differencesOfNone() {
        Check.sentence("(or in all)");
        for (int length : new int[] {1, 9, 10, 24}) {
            dueColumn(DIFFERENCES, "A".repeat(length), "A".repeat(length), 0, "MD:Z:" + length);
            dueColumn(DIFFERENCES, "T".repeat(length), "A".repeat(length), 0, "MD:Z:" + length);
        }
    }

    private static void oneLineWithoutHits() {
        Check.sentence("When there are no hits, one line follows instead: r and the number of the mapping; 4; *; 0; 0; *; *; 0; 0; the bases of the read as letters; *.");
        Check.due("the map without a genome", mapped("", "G", 4).text(),
                "@SQ\tSN:g\tLN:0\nr1\t4\t*\t0\t0\t*\t*\t0\t0\tG\t*\n");
        Check.due("the map of too long a read", mapped("AC", "AACG", 4).text(),
                "@SQ\tSN:g\tLN:2\nr1\t4\t*\t0\t0\t*\t*\t0\t0\tAACG\t*\n");
        Subject x = mapped("ANGT", "CCTA", 4);
        Check.due("hits before", x.hits(), 2);
        x.map(0);
        Check.due("the map behind one with hits", x.text(),
                "@SQ\tSN:g\tLN:4\nr2\t4\t*\t0\t0\t*\t*\t0\t0\tCCTA\t*\n");
        String whole = "ACGTACGTACGTACGTACGTACGG";
        Check.due("the map of 24 bases", mapped("A".repeat(96), whole, 4).text(),
                "@SQ\tSN:g\tLN:96\nr1\t4\t*\t0\t0\t*\t*\t0\t0\t" + whole + "\t*\n");
    }

    private static void numbersHaveNoZerosInFront() {
        Check.sentence("Numbers are written in decimal without zeros in front.");
        Subject x = Subject.of("CCCCCCCCCC", "A");
        for (int number = 1; number <= 110; number++) {
            x.map(0);
            if (number <= 1 || number % 10 == 9 || number % 10 == 0 || number >= 99 && number <= 101) {
                Check.due("the number of mapping " + number, x.field(1, 1), "r" + number);
            }
        }
        x.newGenome("A".repeat(9) + "CA");
        x.newRead("AA");
        x.map(0);
        Check.due("places", column(x, PLACE), "1 2 3 4 5 6 7 8");
        x.newGenome("C".repeat(8) + "AAAA" + "C".repeat(84));
        x.map(0);
        Check.due("places with a digit more", column(x, PLACE), "9 10 11");
        Check.due("the length of the genome", x.field(0, 3), "LN:96");
        x.clear();
        x.map(0);
        Check.due("a length of 0", x.field(0, 3), "LN:0");
    }

    private static void mapsOfUpTo1500Characters() {
        Check.sentence("The map would have more than 1500 characters.");
        Subject x = Subject.of("A".repeat(30) + "T".repeat(18), "A".repeat(9));
        Check.due("map(2) with 1500 characters", x.map(2), 36);
        Check.due("size()", x.size(), 1500);
        Check.due("at(1499)", x.at(1499), 10);
        Check.due("at(1500)", x.at(1500), -1);
        Check.due("lines", howMany(x.text(), '\n'), 37);
        x = Subject.of("A".repeat(45) + "CCCC", "A".repeat(16));
        Check.due("map(4) with 1501 characters", x.map(4), -4);
        Check.due("size()", x.size(), 0);
        x.newGenome("A".repeat(96));
        x.newRead("A");
        Check.due("map(0) with 96 hits", x.map(0), -4);
        Check.due("map(4) with 192 hits", x.map(4), -4);
        x.newRead("C");
        Check.due("map(0) without hits", x.map(0), 0);
    }

    /** The number of a mapping is in every line, so that the tenth one needs more characters. */
    private static void longerNumbersCount() {
        Check.sentence("The map would have more than 1500 characters.");
        Subject x = Subject.of("A".repeat(30) + "T".repeat(18), "A".repeat(9));
        for (int number = 1; number <= 9; number++) {
            Check.due("map(2) of number " + number, x.map(2), 36);
        }
        Check.due("map(2) of number 10", x.map(2), StrandMapper.OVERFLOW);
        Check.due("mappings()", x.mappings(), 9);
        Check.due("the number of the map that stays", x.field(36, 1), "r9");
    }

    public static void main(String[] args) {
        linesEndWith10();
        fieldsAreKeptApartBy9();
        firstLineTellsTheLength();
        aLineForEachHit();
        mappingsAreNumberedFrom1();
        flagsTellStrandAndPrimary();
        placesAreTheirNumbersPlus1();
        lengthOfTheReadAndM();
        threeFieldsAreAlwaysTheSame();
        basesOfThePrimaryHit();
        mismatchesOfTheHit();
        qualityStandsBeforeTheLength();
        differencesEndTheLine();
        qualityOfOthersIs0();
        qualityOfTheOnlyHitIs60();
        qualityOfTheBestHitIs40();
        qualityWithOneAsGoodIs3();
        qualityWithMoreAsGoodIs0();
        differencesBetweenMismatches();
        differencesSinceTheBeginning();
        differencesNameTheGenomesBase();
        differencesBehindTheLast();
        differencesOfNone();
        oneLineWithoutHits();
        numbersHaveNoZerosInFront();
        mapsOfUpTo1500Characters();
        longerNumbersCount();
        Check.end();
    }
}

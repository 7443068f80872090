import java.math.BigInteger;
import java.util.NoSuchElementException;

/** The document's 'Pieces and versions', and the promises 1 to 7, 12 to 14, 29 and 32. */
public final class PiecesTest {
    private static final Class<IndexOutOfBoundsException> INDEX = IndexOutOfBoundsException.class;
    private static final Class<IllegalArgumentException> ARGUMENT = IllegalArgumentException.class;
    private static final Class<IllegalStateException> STATE = IllegalStateException.class;
    private static final Class<NoSuchElementException> ELEMENT = NoSuchElementException.class;
    private static final Class<ArithmeticException> ARITHMETIC = ArithmeticException.class;

    private static final Due DUE = new Due();

    private PiecesTest() {
    }

    public static void main(String[] args) {
        DUE.test("a contest without pieces", PiecesTest::newObject);
        DUE.test("objects of their own", PiecesTest::objectsOfTheirOwn);
        DUE.test("1 to 8 bars and 1 to 4 parts", PiecesTest::everySize);
        DUE.test("at most 6 pieces", PiecesTest::sixPieces);
        DUE.test("numbers over all pieces", PiecesTest::numbersOverAllPieces);
        DUE.test("at most 40 versions", PiecesTest::fortyVersions);
        DUE.test("an editor, 0 to 5", PiecesTest::everyEditor);
        DUE.test("notes 0 to 99", PiecesTest::everyNote);
        DUE.test("at most 8 notes", PiecesTest::eightNotes);
        DUE.test("wipe", PiecesTest::wipe);
        DUE.test("the row until it is written", PiecesTest::rowStays);
        DUE.test("to write", PiecesTest::write);
        DUE.test("also if the parent has it so", PiecesTest::writeTheSame);
        DUE.test("all other sheaves are those of the parent", PiecesTest::otherSheaves);
        DUE.test("a sheaf of several rows", PiecesTest::severalRows);
        DUE.test("versions", PiecesTest::versions);
        DUE.test("checksum", PiecesTest::checksum);
        DUE.test("512 calls", PiecesTest::as512Calls);
        DUE.end("PiecesTest");
    }

    private static void is(String what, Object got, Object want) {
        DUE.is(what, got, want);
    }

    private static Run run() {
        return new Run(DUE);
    }

    private static Run of(int bars, int parts) {
        return Run.of(DUE, bars, parts);
    }

    private static void newObject() {
        Run x = run();
        is("1 versions", x.versions(), 0);
        is("1 asked", x.asked(), 0);
        is("1 wipe", x.wipe(), 0);
        is("1 isSound", x.isSound(), true);
        for (int editor = 0; editor < 6; editor++) {
            is("1 got", x.got(editor), 0);
        }
        x.refuses("1 firstOf", INDEX, s -> s.firstOf(0));
        x.refuses("1 pieceOf", INDEX, s -> s.pieceOf(0));
        x.refuses("1 write", INDEX, s -> s.write(0, 0, 0, 0));
        x.refuses("1 rule", INDEX, s -> s.rule(0, 0, 'l'));
        x.refuses("1 merge", INDEX, s -> s.merge(0, 0, 0));
        x.refuses("1 hear", INDEX, s -> s.hear(0, 0));
        x.refuses("1 mark", INDEX, s -> s.mark(0, 0, 0, 0));
        x.refuses("1 affirm", INDEX, s -> s.affirm(0, 0, 0));
        x.refuses("1 points", INDEX, s -> s.points(0, 0));
        x.refuses("1 ranked", INDEX, s -> s.ranked(0));
        x.refuses("1 isTied", INDEX, s -> s.isTied(0));
        x.refuses("1 give", INDEX, s -> s.give(0, 1));
        x.refuses("1 named", INDEX, s -> s.named(0));
        x.refuses("1 share", INDEX, s -> s.share(0, 0));
        x.refuses("1 checksum", INDEX, s -> s.checksum(0));
        x.refuses("1 countShare", ARITHMETIC, ScoreSheaf::countShare);
        x.refuses("1 meanMark", ARITHMETIC, ScoreSheaf::meanMark);
    }

    private static void objectsOfTheirOwn() {
        Run x = of(1, 1);
        x.note(5);
        x.hear(0, 0);
        x.mark(0, 0, 0, 9);
        x.give(0, 7);
        Run y = run();
        is("1 another object has no version", y.versions(), 0);
        is("1 another object has no note", y.wipe(), 0);
        is("1 another object has no coins", y.got(0), 0);
        y.piece(1, 1);
        is("1 another object heard nothing", y.hear(0, 0), -1);
        is("1 another object has no mark", y.mark(0, 0, 0, 1), -1);
        is("1 the first one has its own", x.points(0, 0) * 10 + x.wipe(), 91);
    }

    private static void everySize() {
        for (int bars = 1; bars <= 8; bars++) {
            for (int parts = 1; parts <= 4; parts++) {
                String size = bars + " bars, " + parts + " parts";
                Run x = run();
                is("2 " + size, x.piece(bars, parts), 0);
                for (int bar = 0; bar < bars; bar++) {
                    for (int part = 0; part < parts; part++) {
                        is("one row without a note, by the editor 0: " + size, x.sheaf(0, bar, part), "0:");
                    }
                }
                is("each bar of each part: " + size, x.partsOf(0, 63), bars * parts);
                int noBar = bars;
                int noPart = parts;
                x.refuses("12 no further bar: " + size, INDEX, s -> s.rows(0, noBar, 0));
                x.refuses("12 no further bar, last part: " + size, INDEX, s -> s.rows(0, noBar, noPart - 1));
                x.refuses("12 no further part: " + size, INDEX, s -> s.rows(0, 0, noPart));
                x.refuses("12 no further part, last bar: " + size, INDEX, s -> s.rows(0, noBar - 1, noPart));
                x.refuses("8 no further part: " + size, INDEX, s -> s.rule(0, noPart, 'l'));
            }
        }
        Run x = run();
        for (int[] no : new int[][] {{0, 1}, {9, 1}, {1, 0}, {1, 5}, {0, 4}, {9, 4}, {8, 0}, {8, 5}, {0, 0}, {9, 5}}) {
            x.refuses("2 " + no[0] + " bars, " + no[1] + " parts", ARGUMENT, s -> s.piece(no[0], no[1]));
        }
    }

    private static void sixPieces() {
        Run x = run();
        for (int piece = 0; piece < 6; piece++) {
            is("2 numbers from 0 on", x.piece(1 + piece, 1), piece);
            is("3 first version", x.firstOf(piece), 2 * piece);
            is("4 of the first version", x.pieceOf(2 * piece), piece);
            is("4 of a written one", x.pieceOf(x.write(2 * piece, 1, piece, 0)), piece);
            is("3 first version, written below", x.firstOf(piece), 2 * piece);
        }
        x.refuses("2 there are 6 pieces", STATE, s -> s.piece(1, 1));
        x.refuses("2 a number out of range comes first", ARGUMENT, s -> s.piece(9, 1));
        x.refuses("3 no seventh piece", INDEX, s -> s.firstOf(6));
        x.refuses("21 no seventh piece", INDEX, s -> s.points(0, 6));
        x.refuses("22 no seventh rank", INDEX, s -> s.ranked(6));
        is("22 each piece has a rank", x.order(), "012345");
    }

    private static void numbersOverAllPieces() {
        Run x = run();
        x.piece(1, 2);
        int a = x.write(0, 1, 0, 0, 5);
        x.piece(1, 1);
        int b = x.write(0, 2, 0, 1, 6);
        int c = x.write(2, 3, 0, 0, 7);
        int m = x.merge(a, b, 0);
        x.piece(2, 1);
        is("numbers from 0 on, over all pieces", a + " " + b + " " + c + " " + m + " " + x.firstOf(2), "1 3 4 5 6");
        StringBuilder pieces = new StringBuilder();
        for (int version = 0; version < 7; version++) {
            pieces.append(x.pieceOf(version));
        }
        is("4 of each version", pieces.toString(), "0010102");
        is("3 of each piece", x.firstOf(0) + " " + x.firstOf(1) + " " + x.firstOf(2), "0 2 6");
        x.refuses("3 no such piece", INDEX, s -> s.firstOf(3));
        x.refuses("4 no such version", INDEX, s -> s.pieceOf(7));
    }

    /** A contest of one piece and 39 versions, of which 1 and 2 can be merged. */
    private static Run of39() {
        Run x = of(1, 2);
        for (int version = 1; version < 39; version++) {
            is("7 number", x.write(0, 1, 0, version % 2), version);
        }
        return x;
    }

    private static void fortyVersions() {
        Run byPiece = of39();
        is("2 the fortieth version", byPiece.piece(1, 1), 1);
        is("3 the fortieth version", byPiece.firstOf(1), 39);
        fullOf(byPiece, "piece");
        Run byWrite = of39();
        is("7 the fortieth version", byWrite.write(38, 1, 0, 0), 39);
        fullOf(byWrite, "write");
        Run byMerge = of39();
        is("9 the fortieth version", byMerge.merge(1, 2, 0), 39);
        fullOf(byMerge, "merge");
    }

    private static void fullOf(Run x, String way) {
        x.type(7, 8);
        x.refuses("2 forty versions by " + way, STATE, s -> s.piece(1, 1));
        x.refuses("7 forty versions by " + way, STATE, s -> s.write(0, 0, 0, 0));
        x.refuses("9 forty versions by " + way, STATE, s -> s.merge(1, 2, 0));
        x.refuses("4 no forty-first by " + way, INDEX, s -> s.pieceOf(40));
        is("29 forty by " + way, x.versions(), 40);
        is("the row stays by " + way, x.wipe(), 2);
    }

    private static void everyEditor() {
        Run x = of(1, 2);
        for (int editor = 0; editor < 6; editor++) {
            int a = x.write(0, editor, 0, 0, 1);
            is("14 the editor of the version", x.writer(a, 0, 0, 0), editor);
            int other = x.write(0, (editor + 1) % 6, 0, 1, 2);
            int m = x.merge(a, other, (editor + 2) % 6);
            is("the editor of a merged version writes no row", x.sheaf(m, 0, 0) + " " + x.sheaf(m, 0, 1),
                editor + ":1 " + (editor + 1) % 6 + ":2");
        }
        for (int no : new int[] {-1, 6}) {
            x.refuses("7 no such editor", ARGUMENT, s -> s.write(0, no, 0, 0));
            x.refuses("9 no such editor", ARGUMENT, s -> s.merge(1, 2, no));
        }
    }

    private static void everyNote() {
        Run x = of(1, 1);
        int version = 0;
        for (int note = 0; note < 100; note++) {
            is("5 note " + note, x.note(note), note % 5 + 1);
            if (note % 5 == 4) {
                version = x.write(version, 1, 0, 0);
                for (int place = 0; place < 5; place++) {
                    is("13 note " + note, x.noteAt(version, 0, 0, 0, place), note - 4 + place);
                }
            }
        }
        x.refuses("5 -1", ARGUMENT, s -> s.note(-1));
        x.refuses("5 100", ARGUMENT, s -> s.note(100));
    }

    private static void eightNotes() {
        for (int many = 0; many <= 8; many++) {
            Run x = of(1, 1);
            StringBuilder notes = new StringBuilder("3:");
            for (int i = 1; i <= many; i++) {
                is("5 how many", x.note(20 - i), i);
                notes.append(i == 1 ? "" : ",").append(20 - i);
            }
            if (many == 8) {
                x.refuses("5 it has 8", STATE, s -> s.note(1));
                x.refuses("5 a number out of range comes first", ARGUMENT, s -> s.note(100));
                x.refuses("5 a number out of range comes first", ARGUMENT, s -> s.note(-1));
            }
            int version = x.write(0, 3, 0, 0);
            is("a row of " + many + " notes, in their order", x.sheaf(version, 0, 0), notes.toString());
            is("7 the row is empty then", x.wipe(), 0);
            int noPlace = many;
            x.refuses("13 no further note", ELEMENT, s -> s.noteAt(version, 0, 0, 0, noPlace));
        }
    }

    private static void wipe() {
        Run x = of(1, 1);
        is("6 had 0", x.wipe(), 0);
        x.note(5);
        is("6 had 1", x.wipe(), 1);
        is("6 empty then", x.wipe(), 0);
        x.type(1, 2, 3, 4, 5, 6, 7, 8);
        is("6 had 8", x.wipe(), 8);
        is("5 again the first one", x.note(9), 1);
        is("6 nothing of it is left", x.sheaf(x.write(0, 1, 0, 0), 0, 0), "1:9");
        is("6 no version is made", x.versions(), 2);
    }

    private static void rowStays() {
        Run x = run();
        is("5 ahead of any piece", x.note(5), 1);
        x.piece(1, 2);
        int a = x.write(0, 1, 0, 0);
        is("told note by note ahead of it", x.sheaf(a, 0, 0), "1:5");
        is("5 a new row", x.note(7), 1);
        x.piece(1, 2);
        x.rule(0, 0, 'n');
        x.hear(0, a);
        x.mark(0, 0, 0, 9);
        x.give(0, 3);
        is("5 one more", x.note(8), 2);
        int b = x.write(x.firstOf(1), 2, 0, 1);
        is("the row is of no piece", x.sheaf(b, 0, 1), "2:7,8");
        x.type(1, 2, 3);
        x.merge(a, x.write(0, 3, 0, 1), 0);
        is("7 written", x.note(4), 1);
        x.merge(a, 4, 0);
        x.affirm(0, 0, 0);
        is("6 no other call empties it", x.wipe(), 1);
    }

    private static void write() {
        Run x = of(2, 2);
        int a = x.write(0, 4, 1, 0, 5, 6);
        is("7 number", a, 1);
        is("7 into a bar of a part", x.sheaf(a, 0, 0) + x.sheaf(a, 0, 1) + x.sheaf(a, 1, 0) + x.sheaf(a, 1, 1),
            "0:0:4:5,60:");
        is("7 the parent stays", x.sheaf(0, 1, 0), "0:");
        int b = x.write(a, 5, 1, 0);
        is("7 a row without a note", x.sheaf(b, 1, 0), "5:");
        int sibling = x.write(0, 2, 1, 0, 9);
        is("7 of its parent, not of the last version", x.sheaf(sibling, 1, 0), "2:9");
        int m = x.merge(a, sibling, 0);
        is("12 several rows", x.rows(m, 1, 0), 2);
        int c = x.write(m, 3, 1, 0, 1);
        is("a sheaf is one row when it is written", x.sheaf(c, 1, 0), "3:1");
        is("7 the merged one stays", x.sheaf(m, 1, 0), "4:5,6 2:9");
        is("a parent of its own", x.isAbove(m, c) + " " + x.isAbove(c, m), "true false");
    }

    private static void writeTheSame() {
        Run x = of(1, 1);
        int a = x.write(0, 1, 0, 0, 5, 6);
        int b = x.write(a, 2, 0, 0, 5, 6);
        is("7 a new version", b, 2);
        is("by the editor of the version", x.sheaf(b, 0, 0), "2:5,6");
        is("the parent keeps its own", x.sheaf(a, 0, 0), "1:5,6");
        int c = x.write(b, 2, 0, 0, 5, 6);
        is("7 a new version, by the same editor", c + " " + x.sheaf(c, 0, 0), "3 2:5,6");
        int empty = x.write(0, 5, 0, 0);
        is("also an empty row", x.sheaf(empty, 0, 0), "5:");
        is("16 alike", x.unlike(empty, 0) + x.unlike(a, c), 0);
    }

    private static void otherSheaves() {
        Run filled = of(8, 4);
        int last = 0;
        for (int slot = 0; slot < 32; slot++) {
            last = filled.write(last, slot % 6, slot / 4, slot % 4, slot, 50 + slot);
        }
        int parent = last;
        for (int slot = 0; slot < 32; slot++) {
            Run x = filled.fork();
            int written = x.write(parent, 5, slot / 4, slot % 4, 99);
            for (int other = 0; other < 32; other++) {
                String want = other % 6 + ":" + other + "," + (50 + other);
                is("the sheaf of slot " + other + " of the parent", x.sheaf(parent, other / 4, other % 4), want);
                is("the sheaf of slot " + other + ", written " + slot, x.sheaf(written, other / 4, other % 4),
                    other == slot ? "5:99" : want);
            }
        }
    }

    private static void severalRows() {
        Run x = of(1, 2);
        int four = x.made(0, "3:1,2 1:99 5:0 2:4,5,6,7,8,9,10,11");
        is("12 four", x.rows(four, 0, 0), 4);
        is("in the order in which they came", x.sheaf(four, 0, 0), "3:1,2 1:99 5:0 2:4,5,6,7,8,9,10,11");
        is("12 one", x.rows(four, 0, 1), 1);
        is("13 first and last note", x.noteAt(four, 0, 0, 0, 0) + " " + x.noteAt(four, 0, 0, 3, 7), "1 11");
        is("14 first and last row", x.writer(four, 0, 0, 0) + " " + x.writer(four, 0, 0, 3), "3 2");
        x.refuses("13 no fifth row", ELEMENT, s -> s.noteAt(four, 0, 0, 4, 0));
        x.refuses("14 no fifth row", ELEMENT, s -> s.writer(four, 0, 0, 4));
        x.refuses("13 the other row has more notes", ELEMENT, s -> s.noteAt(four, 0, 0, 0, 2));
        x.refuses("13 an empty row", ELEMENT, s -> s.noteAt(four, 0, 1, 0, 0));
        x.refuses("14 no second row", ELEMENT, s -> s.writer(four, 0, 1, 1));
        x.refuses("13 the bar comes first", INDEX, s -> s.noteAt(four, 1, 0, 9, 9));
        x.refuses("14 the bar comes first", INDEX, s -> s.writer(four, 1, 0, 9));
        int after = x.write(four, 0, 0, 1, 3);
        is("a sheaf of several rows of the parent", x.sheaf(after, 0, 0), "3:1,2 1:99 5:0 2:4,5,6,7,8,9,10,11");
    }

    private static void versions() {
        Run x = run();
        is("29 none", x.versions(), 0);
        x.piece(1, 2);
        is("29 a first one", x.versions(), 1);
        int a = x.write(0, 1, 0, 0);
        is("29 a written one", x.versions(), 2);
        int b = x.write(0, 1, 0, 1);
        x.merge(a, b, 0);
        is("29 a merged one", x.versions(), 4);
        x.piece(1, 1);
        is("29 a first one of another piece", x.versions(), 5);
        x.note(1);
        x.wipe();
        x.hear(0, a);
        x.mark(0, 0, 0, 1);
        x.give(0, 1);
        is("29 by no other call", x.versions(), 5);
    }

    /** The sum of rows, each told by its editor and then its notes, without any wrap-around until the end. */
    private static long sumOf(int[]... rows) {
        BigInteger sum = BigInteger.valueOf(7);
        BigInteger times = BigInteger.valueOf(31);
        for (int[] row : rows) {
            for (int number : row) {
                sum = sum.multiply(times).add(BigInteger.valueOf(number));
            }
            sum = sum.multiply(times).add(BigInteger.valueOf(100));
        }
        return sum.longValue();
    }

    private static void checksum() {
        Run x = of(1, 1);
        is("32 an empty row", x.checksum(0), 7L * 31 * 31 + 100);
        is("32 an editor", x.checksum(x.write(0, 5, 0, 0)), sumOf(new int[] {5}));
        is("32 a note of 0", x.checksum(x.write(0, 0, 0, 0, 0)), sumOf(new int[] {0, 0}));
        is("32 notes in their order", x.checksum(x.write(0, 3, 0, 0, 8, 9)), sumOf(new int[] {3, 8, 9}));
        is("32 eight notes, wrapped around", x.checksum(x.write(0, 5, 0, 0, 99, 99, 99, 99, 99, 99, 99, 99)),
            sumOf(new int[] {5, 99, 99, 99, 99, 99, 99, 99, 99}));
        int root = x.write(0, 0, 0, 0, 99);
        is("32 row by row", x.checksum(x.made(root, "1:5,6 2: 4:7")),
            sumOf(new int[] {1, 5, 6}, new int[] {2}, new int[] {4, 7}));
        Run y = of(2, 3);
        int last = 0;
        for (int slot = 5; slot >= 0; slot--) {
            last = y.write(last, slot, slot / 3, slot % 3, 10 + slot);
        }
        is("32 bar by bar, part by part", y.checksum(last), sumOf(new int[] {0, 10}, new int[] {1, 11},
            new int[] {2, 12}, new int[] {3, 13}, new int[] {4, 14}, new int[] {5, 15}));
        Run z = of(8, 4);
        int[][] empty = new int[32][1];
        is("32 many rows, wrapped around", z.checksum(0), sumOf(empty));
        empty[31] = new int[] {2, 98};
        is("32 the last bar of the last part", z.checksum(z.write(0, 2, 7, 3, 98)), sumOf(empty));
        z.refuses("32 no such version", INDEX, s -> s.checksum(2));
    }

    private static void as512Calls() {
        Run x = of(1, 1);
        for (int many = 1; x.calls() < Run.MOST_CALLS - 12; many = many % 8 + 1) {
            is("5 call " + x.calls(), x.note(x.calls() % 100), many);
            if (many == 8) {
                is("6 call " + x.calls(), x.wipe(), 8);
            }
        }
        x.wipe();
        is("7 late", x.write(0, 2, 0, 0, 4, 5), 1);
        is("17 late", x.hear(3, 1), -1);
        is("18 late", x.mark(4, 3, 0, 20), -1);
        is("24 late", x.give(0, 9999), 0);
        while (x.calls() < Run.MOST_CALLS - 1) {
            is("29 late", x.versions(), 2);
        }
        is("27 the 512th call", x.got(2), 9999);
    }
}

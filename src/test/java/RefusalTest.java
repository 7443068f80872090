import java.util.NoSuchElementException;

/**
 * The document's 'Exceptions': every method with every mix of arguments at the edges of what is allowed, and
 * beside them, in contests of all kinds. A refused call throws the exception that is documented first of those
 * that apply, and changes nothing; what only asks changes nothing either.
 */
public final class RefusalTest {
    private static final Class<IndexOutOfBoundsException> INDEX = IndexOutOfBoundsException.class;
    private static final Class<IllegalArgumentException> ARGUMENT = IllegalArgumentException.class;
    private static final Class<IllegalStateException> STATE = IllegalStateException.class;
    private static final Class<UnsupportedOperationException> OPERATION = UnsupportedOperationException.class;
    private static final Class<NoSuchElementException> ELEMENT = NoSuchElementException.class;
    private static final Class<ArithmeticException> ARITHMETIC = ArithmeticException.class;

    private static final Due DUE = new Due();

    /** What the document lets the calls depend on, told by the test that made the contest. */
    private static final class Stand {
        final Run run;
        final int[] bars;
        final int[] parts;
        /** For each version its piece. */
        final int[] pieceOf;
        int typed;
        int prizes;

        Stand(int[] bars, int[] parts, int... pieceOf) {
            run = new Run(DUE);
            this.bars = bars;
            this.parts = parts;
            this.pieceOf = pieceOf;
        }

        boolean isVersion(int version) {
            return in(version, 0, pieceOf.length - 1);
        }

        boolean isPiece(int piece) {
            return in(piece, 0, bars.length - 1);
        }

        boolean isSlot(int version, int bar, int part) {
            return isVersion(version) && in(bar, 0, bars[pieceOf[version]] - 1)
                && in(part, 0, parts[pieceOf[version]] - 1);
        }

        boolean isFull() {
            return pieceOf.length == 40;
        }
    }

    private RefusalTest() {
    }

    public static void main(String[] args) {
        DUE.test("a contest without pieces", () -> all(empty()));
        DUE.test("a contest of two pieces", () -> all(some()));
        DUE.test("a contest of six pieces, forty versions and twelve prizes", () -> all(full()));
        DUE.test("merges", RefusalTest::merges);
        DUE.test("what only asks", RefusalTest::asking);
        DUE.end("RefusalTest");
    }

    private static boolean in(int number, int least, int most) {
        return least <= number && number <= most;
    }

    /** The least and the greatest number that is allowed, those beside them, and those far off. */
    private static int[] around(int least, int most) {
        return new int[] {least, most, least - 1, most + 1, Integer.MIN_VALUE, Integer.MAX_VALUE};
    }

    /** As around, with fewer numbers, where many arguments are mixed. */
    private static int[] beside(int least, int most) {
        return new int[] {least, most, least - 1, most + 1};
    }

    private static Class<? extends RuntimeException> unless(boolean holds, Class<? extends RuntimeException> thrown) {
        return holds ? null : thrown;
    }

    /** The exceptions that apply, in the order of the document, null where one does not. */
    @SafeVarargs
    private static void tried(Stand stand, String what, Run.Call call, Class<? extends RuntimeException>... thrown) {
        for (Class<? extends RuntimeException> first : thrown) {
            if (first != null) {
                stand.run.refuses(what, first, call);
                return;
            }
        }
        DUE.is(what + " is answered", stand.run.answerOf(call).toString().startsWith("throws."), false);
    }

    private static Stand empty() {
        Stand stand = new Stand(new int[0], new int[0]);
        stand.run.type(4, 5);
        stand.typed = 2;
        return stand;
    }

    /** Two pieces; the first one is heard in round 0, with marks that count and one that is asked again. */
    private static Stand some() {
        Stand stand = new Stand(new int[] {2, 8}, new int[] {3, 4}, 0, 1, 0, 0, 0, 1, 0);
        Run x = stand.run;
        x.piece(2, 3);
        x.piece(8, 4);
        x.write(0, 1, 0, 0, 5);
        x.write(0, 2, 0, 0, 6, 7);
        x.hear(0, 2);
        x.mark(0, 0, 0, 20);
        x.mark(4, 0, 0, 20);
        x.merge(2, 3, 3);
        x.write(1, 5, 7, 3, 1, 2, 3, 4, 5, 6, 7, 8);
        x.write(0, 4, 1, 2, 9);
        x.affirm(4, 0, 0);
        x.rule(0, 2, 'n');
        x.rule(1, 3, 'l');
        x.give(0, 7);
        x.type(1, 2, 3);
        stand.typed = 3;
        stand.prizes = 1;
        return stand;
    }

    private static Stand full() {
        int[] pieceOf = new int[40];
        for (int version = 0; version < 40; version++) {
            pieceOf[version] = version < 6 ? version : 5;
        }
        Stand stand = new Stand(new int[] {1, 2, 3, 4, 5, 8}, new int[] {4, 3, 2, 1, 1, 4}, pieceOf);
        Run x = stand.run;
        for (int piece = 0; piece < 6; piece++) {
            x.piece(stand.bars[piece], stand.parts[piece]);
        }
        for (int version = 6; version < 40; version++) {
            x.write(version - 1 - version % 3, version % 6, version % 8, version % 4, version);
        }
        x.hear(0, 39);
        x.hear(3, 5);
        x.marks(0, 5, 9, 8, 7, 6, 5);
        for (int prize = 0; prize < 12; prize++) {
            x.give(0, prize + 100);
        }
        x.type(1, 2, 3, 4, 5, 6, 7, 8);
        stand.typed = 8;
        stand.prizes = 12;
        return stand;
    }

    private static void all(Stand stand) {
        piecesAndNotes(stand);
        ofOne(stand);
        ofTwo(stand);
        write(stand);
        sheaves(stand);
        rule(stand);
        merge(stand);
        hear(stand);
        marks(stand);
        ranks(stand);
        prizes(stand);
    }

    private static void piecesAndNotes(Stand stand) {
        for (int bars : around(1, 8)) {
            for (int parts : around(1, 4)) {
                tried(stand, "2 piece(" + bars + ", " + parts + ")", x -> x.piece(bars, parts),
                    unless(in(bars, 1, 8) && in(parts, 1, 4), ARGUMENT),
                    unless(stand.bars.length < 6 && !stand.isFull(), STATE));
            }
        }
        for (int note : around(0, 99)) {
            tried(stand, "5 note(" + note + ")", x -> x.note(note), unless(in(note, 0, 99), ARGUMENT),
                unless(stand.typed < 8, STATE));
        }
    }

    private static void ofOne(Stand stand) {
        for (int piece : around(0, stand.bars.length - 1)) {
            tried(stand, "3 firstOf(" + piece + ")", x -> x.firstOf(piece), unless(stand.isPiece(piece), INDEX));
            tried(stand, "23 isTied(" + piece + ")", x -> x.isTied(piece), unless(stand.isPiece(piece), INDEX));
            tried(stand, "22 ranked(" + piece + ")", x -> x.ranked(piece), unless(stand.isPiece(piece), INDEX));
        }
        for (int version : around(0, stand.pieceOf.length - 1)) {
            boolean isVersion = stand.isVersion(version);
            tried(stand, "4 pieceOf(" + version + ")", x -> x.pieceOf(version), unless(isVersion, INDEX));
            tried(stand, "15 doubts(" + version + ")", x -> x.doubts(version), unless(isVersion, INDEX));
            tried(stand, "32 checksum(" + version + ")", x -> x.checksum(version), unless(isVersion, INDEX));
            for (int editors : around(0, 63)) {
                tried(stand, "28 partsOf(" + version + ", " + editors + ")", x -> x.partsOf(version, editors),
                    unless(isVersion, INDEX), unless(in(editors, 0, 63), ARGUMENT));
            }
        }
    }

    private static void ofTwo(Stand stand) {
        for (int version : around(0, stand.pieceOf.length - 1)) {
            for (int other : around(0, stand.pieceOf.length - 1)) {
                String pair = "(" + version + ", " + other + ")";
                boolean are = stand.isVersion(version) && stand.isVersion(other);
                boolean like = are && stand.pieceOf[version] == stand.pieceOf[other];
                tried(stand, "11 isAbove" + pair, x -> x.isAbove(version, other), unless(are, INDEX));
                tried(stand, "10 base" + pair, x -> x.base(version, other), unless(are, INDEX),
                    unless(like, OPERATION));
                tried(stand, "16 unlike" + pair, x -> x.unlike(version, other), unless(are, INDEX),
                    unless(like, OPERATION));
            }
        }
    }

    /** Bars and parts that one piece has, and another one has not. */
    private static void write(Stand stand) {
        for (int version : beside(0, stand.pieceOf.length - 1)) {
            int piece = stand.isVersion(version) ? stand.pieceOf[version] : 0;
            boolean none = stand.bars.length == 0;
            for (int bar : around(0, none ? 0 : stand.bars[piece] - 1)) {
                for (int part : around(0, none ? 0 : stand.parts[piece] - 1)) {
                    for (int editor : beside(0, 5)) {
                        tried(stand, "7 write(" + version + ", " + editor + ", " + bar + ", " + part + ")",
                            x -> x.write(version, editor, bar, part), unless(stand.isSlot(version, bar, part), INDEX),
                            unless(in(editor, 0, 5), ARGUMENT), unless(!stand.isFull(), STATE));
                    }
                }
            }
        }
    }

    private static void sheaves(Stand stand) {
        for (int version : beside(0, stand.pieceOf.length - 1)) {
            int piece = stand.isVersion(version) ? stand.pieceOf[version] : 0;
            boolean none = stand.bars.length == 0;
            for (int bar : around(0, none ? 0 : stand.bars[piece] - 1)) {
                for (int part : around(0, none ? 0 : stand.parts[piece] - 1)) {
                    String slot = "(" + version + ", " + bar + ", " + part;
                    boolean is = stand.isSlot(version, bar, part);
                    tried(stand, "12 rows" + slot + ")", x -> x.rows(version, bar, part), unless(is, INDEX));
                    for (int row : around(0, 0)) {
                        tried(stand, "14 writer" + slot + ", " + row + ")", x -> x.writer(version, bar, part, row),
                            unless(is, INDEX), unless(row == 0, ELEMENT));
                    }
                }
            }
        }
        if (stand.pieceOf.length == 7) {
            rowsAndPlaces(stand, 0, 0, 0, 0);
            rowsAndPlaces(stand, 3, 0, 0, 2);
            rowsAndPlaces(stand, 4, 0, 0, 1, 2);
            rowsAndPlaces(stand, 5, 7, 3, 8);
            rowsAndPlaces(stand, 5, 7, 4);
            rowsAndPlaces(stand, 5, 8, 0);
            rowsAndPlaces(stand, 7, 0, 0);
        }
    }

    /** In a sheaf whose rows have so many notes. */
    private static void rowsAndPlaces(Stand stand, int version, int bar, int part, int... notes) {
        for (int row : around(0, notes.length - 1)) {
            boolean is = in(row, 0, notes.length - 1);
            String slot = "(" + version + ", " + bar + ", " + part + ", " + row;
            Class<? extends RuntimeException> ahead = unless(stand.isSlot(version, bar, part), INDEX);
            tried(stand, "14 writer" + slot + ")", x -> x.writer(version, bar, part, row), ahead, unless(is, ELEMENT));
            for (int place : around(0, is ? notes[row] - 1 : 0)) {
                tried(stand, "13 noteAt" + slot + ", " + place + ")", x -> x.noteAt(version, bar, part, row, place),
                    ahead, unless(is && in(place, 0, notes[row] - 1), ELEMENT));
            }
        }
    }

    private static void rule(Stand stand) {
        for (int piece : around(0, stand.bars.length - 1)) {
            for (int part : around(0, stand.isPiece(piece) ? stand.parts[piece] - 1 : 3)) {
                boolean is = stand.isPiece(piece) && in(part, 0, stand.parts[piece] - 1);
                for (char rule : new char[] {'l', 'n', 'b', 'k', 'm', 'B', 0, 65535}) {
                    tried(stand, "8 rule(" + piece + ", " + part + ", " + (int) rule + ")",
                        x -> x.rule(piece, part, rule), unless(is, INDEX), unless("lnb".indexOf(rule) >= 0, ARGUMENT));
                }
            }
        }
    }

    /** Of a version and itself, or the first one, of unlike pieces, or that there are not; others have a test below. */
    private static void merge(Stand stand) {
        for (int version : around(0, stand.pieceOf.length - 1)) {
            for (int other : around(0, stand.pieceOf.length - 1)) {
                if (version != other && in(version, 0, stand.pieceOf.length - 1) && stand.isVersion(other)
                    && stand.pieceOf[version] == stand.pieceOf[other] && version != 0 && other != 0) {
                    continue;
                }
                for (int editor : around(0, 5)) {
                    tried(stand, "9 merge(" + version + ", " + other + ", " + editor + ")",
                        x -> x.merge(version, other, editor),
                        unless(stand.isVersion(version) && stand.isVersion(other), INDEX),
                        unless(in(editor, 0, 5), ARGUMENT), OPERATION);
                }
            }
        }
    }

    private static void hear(Stand stand) {
        for (int round : around(0, 3)) {
            for (int version : around(0, stand.pieceOf.length - 1)) {
                tried(stand, "17 hear(" + round + ", " + version + ")", x -> x.hear(round, version),
                    unless(in(round, 0, 3) && stand.isVersion(version), INDEX));
            }
        }
    }

    private static void marks(Stand stand) {
        int pieces = stand.bars.length;
        for (int round : around(0, 3)) {
            for (int piece : around(0, pieces - 1)) {
                boolean is = in(round, 0, 3) && stand.isPiece(piece);
                tried(stand, "21 points(" + round + ", " + piece + ")", x -> x.points(round, piece),
                    unless(is, INDEX));
                for (int juror : beside(0, 4)) {
                    String call = "(" + juror + ", " + round + ", " + piece;
                    Class<? extends RuntimeException> ahead = unless(is && in(juror, 0, 4), INDEX);
                    boolean heard = pieces == 2 ? piece == 0 && round == 0 : piece == 5 && (round == 0 || round == 3);
                    boolean asked = pieces == 2 && piece == 0 && round == 0 && juror == 0;
                    tried(stand, "19 affirm" + call + ")", x -> x.affirm(juror, round, piece), ahead,
                        unless(asked, ELEMENT));
                    for (int mark : around(0, 20)) {
                        tried(stand, "18 mark" + call + ", " + mark + ")", x -> x.mark(juror, round, piece, mark),
                            ahead, unless(in(mark, 0, 20), ARGUMENT), unless(heard, OPERATION));
                    }
                }
            }
        }
    }

    private static void ranks(Stand stand) {
        int pieces = stand.bars.length;
        for (int rank : around(0, pieces - 1)) {
            for (int coins : around(1, 9999)) {
                tried(stand, "24 give(" + rank + ", " + coins + ")", x -> x.give(rank, coins),
                    unless(stand.isPiece(rank), INDEX), unless(in(coins, 1, 9999), ARGUMENT),
                    unless(rank == 0, OPERATION), unless(stand.prizes < 12, STATE));
            }
        }
        tried(stand, "30 countShare()", ScoreSheaf::countShare, unless(pieces > 0, ARITHMETIC));
        tried(stand, "31 meanMark()", ScoreSheaf::meanMark, unless(pieces > 0, ARITHMETIC));
    }

    private static void prizes(Stand stand) {
        for (int prize : around(0, stand.prizes - 1)) {
            boolean is = in(prize, 0, stand.prizes - 1);
            tried(stand, "25 named(" + prize + ")", x -> x.named(prize), unless(is, INDEX));
            for (int editor : around(0, 5)) {
                tried(stand, "26 share(" + prize + ", " + editor + ")", x -> x.share(prize, editor),
                    unless(is && in(editor, 0, 5), INDEX));
            }
        }
        for (int editor : around(0, 5)) {
            tried(stand, "27 got(" + editor + ")", x -> x.got(editor), unless(in(editor, 0, 5), INDEX));
        }
    }

    /** Every two versions of some contests, those that can be merged too. */
    private static void merges() {
        for (int versions : new int[] {7, 40}) {
            Stand stand = versions == 7 ? some() : full();
            Run x = stand.run;
            for (int version = 0; version < versions; version++) {
                for (int other = 0; other < versions; other += versions == 7 ? 1 : 3) {
                    int first = version;
                    int second = other;
                    boolean apart = x.fork().isAbove(version, other) || x.fork().isAbove(other, version)
                        || stand.pieceOf[version] != stand.pieceOf[other];
                    tried(stand, "9 merge(" + version + ", " + other + ", 5)", s -> s.merge(first, second, 5),
                        unless(!apart, OPERATION), unless(!stand.isFull(), STATE));
                }
            }
        }
    }

    private static void asking() {
        for (Stand stand : new Stand[] {empty(), some(), full()}) {
            Run x = stand.run;
            x.leaves("29 versions()", ScoreSheaf::versions);
            x.leaves("20 asked()", ScoreSheaf::asked);
            x.leaves("30 countShare()", ScoreSheaf::countShare);
            x.leaves("31 meanMark()", ScoreSheaf::meanMark);
            x.leaves("33 isSound()", ScoreSheaf::isSound);
            for (int n = 0; n < 7; n++) {
                int number = n;
                x.leaves("3 firstOf", s -> s.firstOf(number));
                x.leaves("4 pieceOf", s -> s.pieceOf(number));
                x.leaves("10 base", s -> s.base(number, 0));
                x.leaves("11 isAbove", s -> s.isAbove(0, number));
                x.leaves("12 rows", s -> s.rows(number, 0, 0));
                x.leaves("13 noteAt", s -> s.noteAt(number, 0, 0, 0, 0));
                x.leaves("14 writer", s -> s.writer(number, 0, 0, 0));
                x.leaves("15 doubts", s -> s.doubts(number));
                x.leaves("16 unlike", s -> s.unlike(number, 0));
                x.leaves("21 points", s -> s.points(number % 4, number / 4));
                x.leaves("22 ranked", s -> s.ranked(number));
                x.leaves("23 isTied", s -> s.isTied(number));
                x.leaves("25 named", s -> s.named(number));
                x.leaves("26 share", s -> s.share(0, number));
                x.leaves("27 got", s -> s.got(number));
                x.leaves("28 partsOf", s -> s.partsOf(number, 63));
                x.leaves("32 checksum", s -> s.checksum(number));
            }
        }
    }
}

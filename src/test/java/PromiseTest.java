import java.util.NoSuchElementException;

/** For each promise, by its number: ordinary calls, the edges that the document names, wrong calls. */
public final class PromiseTest {
    private static final Class<IndexOutOfBoundsException> INDEX = IndexOutOfBoundsException.class;
    private static final Class<IllegalArgumentException> ARGUMENT = IllegalArgumentException.class;
    private static final Class<IllegalStateException> STATE = IllegalStateException.class;
    private static final Class<UnsupportedOperationException> OPERATION = UnsupportedOperationException.class;
    private static final Class<NoSuchElementException> ELEMENT = NoSuchElementException.class;
    private static final Class<ArithmeticException> ARITHMETIC = ArithmeticException.class;
    private static final int LOW = Integer.MIN_VALUE;
    private static final int HIGH = Integer.MAX_VALUE;

    private static final Due DUE = new Due();

    private PromiseTest() {
    }

    public static void main(String[] args) {
        promise1();
        promise2();
        promises3And4();
        promises5And6();
        promise7();
        promise8();
        promise9Refusals();
        promise9Rules();
        promise9Asking();
        promises10And11();
        promises12To14();
        promises15And16();
        promise17();
        promise18();
        promises19And20();
        promise21();
        promise22();
        promise23();
        promise24();
        promises25To27();
        promise28();
        promise29();
        promises30And31();
        promise32();
        promise33();
        DUE.end("PromiseTest");
    }

    private static void is(String what, Object got, Object want) {
        DUE.is(what, got, want);
    }

    private static void type(ScoreSheaf x, int... notes) {
        for (int note : notes) {
            x.note(note);
        }
    }

    private static int write(ScoreSheaf x, int version, int editor, int bar, int part, int... notes) {
        type(x, notes);
        return x.write(version, editor, bar, part);
    }

    private static ScoreSheaf withPieces(int count) {
        ScoreSheaf x = new ScoreSheaf();
        for (int i = 0; i < count; i++) {
            x.piece(2, 2);
        }
        return x;
    }

    private static ScoreSheaf full() {
        ScoreSheaf x = withPieces(1);
        for (int i = 1; i < 40; i++) {
            write(x, 0, i % 6, 0, 0, i);
        }
        return x;
    }

    /** A row of a sheaf as a text: its editor, then its notes. */
    private static String row(ScoreSheaf x, int version, int bar, int part, int row) {
        StringBuilder text = new StringBuilder().append(x.writer(version, bar, part, row)).append(':');
        for (int place = 0; place < 8; place++) {
            int at = place;
            Object note = Due.answerOf(() -> x.noteAt(version, bar, part, row, at));
            if (note instanceof Integer) {
                text.append(note).append(',');
            }
        }
        return text.toString();
    }

    private static String sheaf(ScoreSheaf x, int version, int bar, int part) {
        StringBuilder text = new StringBuilder();
        for (int row = 0; row < x.rows(version, bar, part); row++) {
            text.append(row(x, version, bar, part, row)).append(' ');
        }
        return text.toString().trim();
    }

    private static void promise1() {
        ScoreSheaf x = new ScoreSheaf();
        is("1 versions", x.versions(), 0);
        is("1 asked", x.asked(), 0);
        is("1 wipe", x.wipe(), 0);
        is("1 isSound", x.isSound(), true);
        is("1 got", x.got(5), 0);
        DUE.isThrown("1 ranked", x, INDEX, () -> x.ranked(0));
        DUE.isThrown("1 firstOf", x, INDEX, () -> x.firstOf(0));
        ScoreSheaf y = withPieces(1);
        is("1 another object", x.versions() * 10 + y.versions(), 1);
    }

    private static void promise2() {
        ScoreSheaf x = new ScoreSheaf();
        int[][] wrong = {{0, 1}, {9, 1}, {1, 0}, {1, 5}, {LOW, 1}, {HIGH, 1}, {1, LOW}, {1, HIGH}, {-1, -1}};
        for (int[] w : wrong) {
            DUE.isThrown("2 " + w[0] + " " + w[1], x, ARGUMENT, () -> x.piece(w[0], w[1]));
        }
        is("2 first", x.piece(8, 4), 0);
        is("2 second", x.piece(1, 1), 1);
        for (int bar = 0; bar < 8; bar++) {
            for (int part = 0; part < 4; part++) {
                is("2 an empty row", sheaf(x, 0, bar, part), "0:");
            }
        }
        DUE.isThrown("2 bar 8", x, INDEX, () -> x.rows(0, 8, 0));
        DUE.isThrown("2 part 4", x, INDEX, () -> x.rows(0, 0, 4));
        DUE.isThrown("2 bar 1 of 1", x, INDEX, () -> x.rows(1, 1, 0));
        DUE.isThrown("2 part 1 of 1", x, INDEX, () -> x.rows(1, 0, 1));
        for (int piece = 2; piece < 6; piece++) {
            is("2 number", x.piece(2, 2), piece);
        }
        DUE.isThrown("2 six pieces", x, STATE, () -> x.piece(1, 1));
        DUE.isThrown("2 the range comes first", x, ARGUMENT, () -> x.piece(0, 1));
        DUE.isThrown("3 no seventh", x, INDEX, () -> x.firstOf(6));
        DUE.isThrown("21 no seventh", x, INDEX, () -> x.points(3, 6));
        DUE.isThrown("22 no seventh", x, INDEX, () -> x.ranked(6));
        ScoreSheaf y = full();
        DUE.isThrown("2 forty versions", y, STATE, () -> y.piece(1, 1));
        DUE.isThrown("4 no forty-first", y, INDEX, () -> y.pieceOf(40));
        DUE.isThrown("2 the range before forty", y, ARGUMENT, () -> y.piece(1, 5));
    }

    private static void promises3And4() {
        ScoreSheaf x = withPieces(1);
        int written = x.write(0, 1, 0, 0);
        x.piece(1, 1);
        is("3 of 0", x.firstOf(0), 0);
        is("3 of 1", x.firstOf(1), 2);
        is("4 first", x.pieceOf(0), 0);
        is("4 written", x.pieceOf(written), 0);
        is("4 of another piece", x.pieceOf(2), 1);
        for (int none : new int[] {-1, 2, 6, LOW, HIGH}) {
            DUE.isThrown("3 " + none, x, INDEX, () -> x.firstOf(none));
        }
        for (int none : new int[] {-1, 3, 40, LOW, HIGH}) {
            DUE.isThrown("4 " + none, x, INDEX, () -> x.pieceOf(none));
        }
    }

    private static void promises5And6() {
        ScoreSheaf x = withPieces(1);
        is("5 0", x.note(0), 1);
        is("5 99", x.note(99), 2);
        for (int none : new int[] {-1, 100, LOW, HIGH}) {
            DUE.isThrown("5 " + none, x, ARGUMENT, () -> x.note(none));
        }
        is("6 had 2", x.wipe(), 2);
        is("6 had 0", x.wipe(), 0);
        for (int i = 1; i <= 8; i++) {
            is("5 how many", x.note(i), i);
        }
        DUE.isThrown("5 ninth", x, STATE, () -> x.note(9));
        DUE.isThrown("5 the range comes first", x, ARGUMENT, () -> x.note(100));
        is("5 in their order", sheaf(x, x.write(0, 3, 1, 1), 1, 1), "3:1,2,3,4,5,6,7,8,");
        type(x, 1, 2);
        x.wipe();
        is("6 nothing is left", sheaf(x, write(x, 0, 1, 0, 0, 7), 0, 0), "1:7,");
    }

    private static void promise7() {
        ScoreSheaf x = withPieces(1);
        is("7 number", write(x, 0, 4, 1, 0, 5, 6), 1);
        is("7 the row is empty then", x.wipe(), 0);
        is("7 the sheaf", sheaf(x, 1, 1, 0), "4:5,6,");
        is("7 others are the parent's", sheaf(x, 1, 0, 0) + sheaf(x, 1, 0, 1) + sheaf(x, 1, 1, 1), "0:0:0:");
        is("7 the parent stays", sheaf(x, 0, 1, 0), "0:");
        is("7 the same again", write(x, 1, 2, 1, 0, 5, 6), 2);
        is("7 by its editor", sheaf(x, 2, 1, 0), "2:5,6,");
        is("7 without a note", sheaf(x, x.write(2, 5, 1, 0), 1, 0), "5:");
        type(x, 1, 2, 3);
        int[][] none = {{-1, 0, 0}, {4, 0, 0}, {LOW, 0, 0}, {HIGH, 0, 0}, {0, -1, 0}, {0, 2, 0}, {0, 0, -1},
            {0, 0, 2}, {0, HIGH, HIGH}, {0, LOW, 0}, {0, 0, LOW}};
        for (int[] n : none) {
            DUE.isThrown("7 no such", x, INDEX, () -> x.write(n[0], 1, n[1], n[2]));
            DUE.isThrown("7 no such, first", x, INDEX, () -> x.write(n[0], 9, n[1], n[2]));
        }
        for (int editor : new int[] {-1, 6, LOW, HIGH}) {
            DUE.isThrown("7 editor", x, ARGUMENT, () -> x.write(0, editor, 0, 0));
        }
        is("7 the row stays when it throws", x.wipe(), 3);
        ScoreSheaf y = full();
        type(y, 1, 2);
        DUE.isThrown("7 forty", y, STATE, () -> y.write(0, 0, 0, 0));
        DUE.isThrown("7 editor before forty", y, ARGUMENT, () -> y.write(0, 6, 0, 0));
        DUE.isThrown("7 bar before forty", y, INDEX, () -> y.write(0, 0, 2, 0));
        is("7 the row stays at forty", y.wipe(), 2);
    }

    private static void promise8() {
        ScoreSheaf x = withPieces(2);
        is("8 b at first", x.rule(0, 0, 'l'), 'b');
        is("8 l", x.rule(0, 0, 'n'), 'l');
        is("8 n", x.rule(0, 0, 'b'), 'n');
        is("8 b", x.rule(0, 0, 'b'), 'b');
        x.rule(0, 1, 'n');
        is("8 of its part", x.rule(0, 0, 'b'), 'b');
        is("8 of its piece", x.rule(1, 1, 'b'), 'b');
        int[][] none = {{-1, 0}, {2, 0}, {LOW, 0}, {HIGH, 0}, {0, -1}, {0, 2}, {0, 4}, {0, LOW}, {0, HIGH}};
        for (int[] n : none) {
            DUE.isThrown("8 no such", x, INDEX, () -> x.rule(n[0], n[1], 'l'));
            DUE.isThrown("8 no such, first", x, INDEX, () -> x.rule(n[0], n[1], 'z'));
        }
        for (char none1 : new char[] {'z', 'L', 'B', 'N', 0, 65535, 'a', 'c', 'm', 'o', 'k'}) {
            DUE.isThrown("8 no such rule", x, ARGUMENT, () -> x.rule(0, 1, none1));
        }
        is("8 the rule stays when it throws", x.rule(0, 1, 'l'), 'n');
    }

    private static void promise9Refusals() {
        ScoreSheaf x = withPieces(2);
        int a = write(x, 0, 1, 0, 0, 5);
        int b = write(x, 0, 2, 0, 1, 6);
        for (int none : new int[] {-1, 4, 40, LOW, HIGH}) {
            DUE.isThrown("9 no such", x, INDEX, () -> x.merge(none, a, 0));
            DUE.isThrown("9 no such other", x, INDEX, () -> x.merge(a, none, 9));
        }
        for (int editor : new int[] {-1, 6, LOW, HIGH}) {
            DUE.isThrown("9 editor", x, ARGUMENT, () -> x.merge(a, b, editor));
            DUE.isThrown("9 editor first", x, ARGUMENT, () -> x.merge(a, 1, editor));
        }
        DUE.isThrown("9 unlike pieces", x, OPERATION, () -> x.merge(a, 1, 0));
        DUE.isThrown("9 above", x, OPERATION, () -> x.merge(0, a, 0));
        DUE.isThrown("9 below", x, OPERATION, () -> x.merge(a, 0, 0));
        DUE.isThrown("9 itself", x, OPERATION, () -> x.merge(a, a, 0));
        is("9 number", x.merge(a, b, 5), 4);
        DUE.isThrown("9 a parent of it", x, OPERATION, () -> x.merge(4, b, 0));
        DUE.isThrown("9 above over two", x, OPERATION, () -> x.merge(0, 4, 0));
        is("9 the row is not wiped", x.note(1) + x.merge(a, b, 0) + x.wipe(), 7);
        is("9 as often as told", x.versions(), 6);
        ScoreSheaf y = full();
        DUE.isThrown("9 forty", y, STATE, () -> y.merge(1, 2, 0));
        DUE.isThrown("9 above before forty", y, OPERATION, () -> y.merge(1, 0, 0));
        DUE.isThrown("9 editor before forty", y, ARGUMENT, () -> y.merge(1, 2, 6));
    }

    private static void promise9Rules() {
        ScoreSheaf x = new ScoreSheaf();
        x.piece(1, 1);
        int a = write(x, 0, 1, 0, 0, 5);
        int b = write(x, 0, 2, 0, 0, 6, 7);
        int like = write(x, 0, 3, 0, 0, 5);
        is("9 alike, the first's", sheaf(x, x.merge(like, a, 0), 0, 0), "3:5,");
        is("9 alike, the first's again", sheaf(x, x.merge(a, like, 0), 0, 0), "1:5,");
        int both = x.merge(b, a, 0);
        is("9 b", sheaf(x, both, 0, 0), "2:6,7, 1:5,");
        is("9 b, what is there is not taken", sheaf(x, x.merge(both, like, 0), 0, 0), "2:6,7, 1:5,");
        is("9 b, of the other one what is new", sheaf(x, x.merge(like, both, 0), 0, 0), "3:5, 2:6,7,");
        x.rule(0, 0, 'l');
        is("9 l", sheaf(x, x.merge(a, b, 0), 0, 0), "2:6,7,");
        is("9 l, the greater number first", sheaf(x, x.merge(like, b, 0), 0, 0), "3:5,");
        x.rule(0, 0, 'n');
        is("9 n", sheaf(x, x.merge(a, b, 0), 0, 0), "2:6,7,");
        is("9 n, first", sheaf(x, x.merge(b, like, 0), 0, 0), "2:6,7,");
        int other = write(x, 0, 4, 0, 0, 9);
        is("9 n, as many", sheaf(x, x.merge(other, a, 0), 0, 0), "4:9,");
        is("9 n, as many, turned", sheaf(x, x.merge(a, other, 0), 0, 0), "1:5,");
        int three = write(x, 0, 5, 0, 0, 1, 2, 3);
        is("9 n, in all rows", sheaf(x, x.merge(three, both, 0), 0, 0), "5:1,2,3,");
        is("9 n, in all rows, turned", sheaf(x, x.merge(both, three, 0), 0, 0), "2:6,7, 1:5,");
        atMostFourRows();
        likeTheBase();
        rulesByPart();
    }

    private static void atMostFourRows() {
        ScoreSheaf x = new ScoreSheaf();
        x.piece(1, 1);
        int[] one = new int[6];
        for (int i = 0; i < 6; i++) {
            one[i] = write(x, 0, i, 0, 0, i + 1);
        }
        int three = x.merge(x.merge(one[0], one[1], 0), one[2], 0);
        int others = x.merge(x.merge(one[3], one[4], 0), one[5], 0);
        is("9 b, at most 4", sheaf(x, x.merge(three, others, 0), 0, 0), "0:1, 1:2, 2:3, 3:4,");
        is("9 b, at most 4, turned", sheaf(x, x.merge(others, three, 0), 0, 0), "3:4, 4:5, 5:6, 0:1,");
        int four = x.merge(three, one[3], 0);
        is("9 b, the fifth is lost", sheaf(x, x.merge(four, one[4], 0), 0, 0), "0:1, 1:2, 2:3, 3:4,");
        is("9 b, three of four", sheaf(x, x.merge(one[4], four, 0), 0, 0), "4:5, 0:1, 1:2, 2:3,");
        is("9 the parents stay", sheaf(x, three, 0, 0), "0:1, 1:2, 2:3,");
        int turned = x.merge(x.merge(one[1], one[0], 0), one[2], 0);
        is("9 rows in another order are unlike", x.unlike(three, turned), 1);
    }

    private static void likeTheBase() {
        ScoreSheaf x = withPieces(1);
        int root = write(x, 0, 1, 0, 0, 5);
        int a = write(x, root, 2, 0, 1, 6);
        int b = write(x, root, 3, 1, 0, 7);
        int again = write(x, root, 4, 0, 0, 5);
        int ab = x.merge(a, b, 0);
        is("9 both changes", sheaf(x, ab, 0, 0) + sheaf(x, ab, 0, 1) + sheaf(x, ab, 1, 0), "1:5,2:6,3:7,");
        is("9 like the base by notes alone", sheaf(x, x.merge(again, a, 0), 0, 0), "4:5,");
        int deep = write(x, again, 5, 0, 0, 8);
        is("9 the other one's", sheaf(x, x.merge(a, deep, 0), 0, 0), "5:8,");
        is("9 the first's", sheaf(x, x.merge(deep, a, 0), 0, 0), "5:8,");
        int back = x.write(root, 3, 0, 0);
        is("9 the base is the lower one", sheaf(x, x.merge(back, a, 0), 0, 0), "3:");
    }

    private static void rulesByPart() {
        ScoreSheaf x = new ScoreSheaf();
        x.piece(2, 3);
        int a = 0;
        int b = 0;
        for (int part = 0; part < 3; part++) {
            a = write(x, a, 1, 1, part, 1, 2);
        }
        for (int part = 0; part < 3; part++) {
            b = write(x, b, 2, 1, part, 3);
        }
        x.rule(0, 0, 'l');
        x.rule(0, 1, 'n');
        int m = x.merge(a, b, 0);
        is("9 part 0", sheaf(x, m, 1, 0), "2:3,");
        is("9 part 1", sheaf(x, m, 1, 1), "1:1,2,");
        is("9 part 2", sheaf(x, m, 1, 2), "1:1,2, 2:3,");
        is("9 bar 0", sheaf(x, m, 0, 0) + sheaf(x, m, 0, 1) + sheaf(x, m, 0, 2), "0:0:0:");
    }

    private static void promise9Asking() {
        ScoreSheaf x = withPieces(2);
        int a = write(x, 0, 1, 0, 0, 5);
        int b = write(x, 0, 2, 0, 1, 6);
        int like = write(x, 0, 3, 0, 0, 5);
        x.hear(0, a);
        x.hear(1, a);
        x.hear(2, b);
        x.hear(3, 0);
        x.hear(0, 1);
        for (int round = 0; round < 4; round++) {
            x.mark(round, round, 0, 10 + round);
        }
        x.mark(4, 0, 1, 3);
        write(x, a, 1, 1, 1, 4);
        is("9 not by writing", x.asked(), 0);
        x.merge(a, like, 0);
        is("9 not if it is like the heard parent", x.asked(), 0);
        int m = x.merge(like, b, 0);
        is("9 of the heard parent", x.asked() * 100 + x.points(2, 0), 100);
        x.affirm(2, 2, 0);
        x.merge(a, b, 0);
        is("9 of both parents, in each round", x.asked(), 3);
        is("9 not a version above", x.points(3, 0), 13);
        is("9 not another piece", x.points(0, 1), 3);
        is("9 what was heard stays", x.hear(0, a), a);
        is("9 asked ones stay so", x.asked(), 3);
        int c = write(x, m, 1, 1, 0, 1);
        int d = write(x, m, 2, 1, 1, 1);
        x.hear(3, m);
        x.mark(0, 3, 0, 7);
        x.merge(c, d, 0);
        is("9 not by way of a version between", x.points(3, 0), 7);
        onlyMarksThatAreThere();
    }

    private static void onlyMarksThatAreThere() {
        ScoreSheaf x = withPieces(1);
        int a = write(x, 0, 1, 0, 0, 5);
        int b = write(x, 0, 2, 0, 1, 6);
        x.hear(0, a);
        x.mark(0, 0, 0, 0);
        x.merge(b, a, 0);
        is("9 a mark of 0 is asked as well", x.asked(), 1);
        is("9 a mark told later counts", x.mark(1, 0, 0, 4), -1);
        is("9 and is not asked", x.asked() * 10 + x.points(0, 0), 14);
    }

    private static void promises10And11() {
        ScoreSheaf x = withPieces(2);
        int a = x.write(0, 1, 0, 0);
        int b = x.write(0, 1, 0, 1);
        int c = x.write(a, 1, 1, 0);
        int m = x.merge(c, b, 0);
        int n = x.merge(b, c, 0);
        int far = x.write(m, 1, 0, 0);
        is("10 siblings", x.base(a, b), 0);
        is("10 the same", x.base(c, c), c);
        is("10 one above", x.base(a, c), a);
        is("10 one below", x.base(c, a), a);
        is("10 the greatest of two", x.base(m, n), c);
        is("10 over a merge", x.base(far, n), c);
        is("10 over a merge, the parent", x.base(far, b), b);
        is("11 itself", x.isAbove(a, a), true);
        is("11 parent", x.isAbove(a, c), true);
        is("11 child", x.isAbove(c, a), false);
        is("11 second parent", x.isAbove(b, far), true);
        is("11 over many", x.isAbove(0, far), true);
        is("11 siblings", x.isAbove(a, b), false);
        is("11 another piece", x.isAbove(1, far), false);
        for (int none : new int[] {-1, 8, 40, 64, LOW, HIGH}) {
            DUE.isThrown("10 no such", x, INDEX, () -> x.base(none, 0));
            DUE.isThrown("10 no such other", x, INDEX, () -> x.base(0, none));
            DUE.isThrown("11 no such", x, INDEX, () -> x.isAbove(none, 0));
            DUE.isThrown("11 no such other", x, INDEX, () -> x.isAbove(0, none));
        }
        DUE.isThrown("10 unlike pieces", x, OPERATION, () -> x.base(1, a));
        ScoreSheaf y = full();
        is("11 of forty", y.isAbove(39, 39) && y.isAbove(0, 39) && !y.isAbove(7, 39), true);
        is("10 of forty", y.base(39, 39) * 100 + y.base(39, 38), 3900);
    }

    private static void promises12To14() {
        ScoreSheaf x = withPieces(1);
        int a = write(x, 0, 1, 1, 0, 99, 0);
        int b = write(x, 0, 2, 1, 0, 4);
        int m = x.merge(a, b, 3);
        is("12 two", x.rows(m, 1, 0), 2);
        is("12 one", x.rows(m, 0, 1), 1);
        is("13 row 0", x.noteAt(m, 1, 0, 0, 0) * 100 + x.noteAt(m, 1, 0, 0, 1), 9900);
        is("13 row 1", x.noteAt(m, 1, 0, 1, 0), 4);
        is("14", x.writer(m, 1, 0, 0) * 10 + x.writer(m, 1, 0, 1), 12);
        int[][] none = {{-1, 0, 0}, {4, 0, 0}, {LOW, 0, 0}, {HIGH, 0, 0}, {0, -1, 0}, {0, 2, 0}, {0, 0, -1},
            {0, 0, 2}, {0, HIGH, 0}, {0, 0, HIGH}, {0, LOW, LOW}};
        for (int[] n : none) {
            DUE.isThrown("12 no such", x, INDEX, () -> x.rows(n[0], n[1], n[2]));
            DUE.isThrown("13 no such", x, INDEX, () -> x.noteAt(n[0], n[1], n[2], 0, 0));
            DUE.isThrown("13 no such, first", x, INDEX, () -> x.noteAt(n[0], n[1], n[2], 9, 9));
            DUE.isThrown("14 no such", x, INDEX, () -> x.writer(n[0], n[1], n[2], 0));
            DUE.isThrown("14 no such, first", x, INDEX, () -> x.writer(n[0], n[1], n[2], 9));
        }
        for (int row : new int[] {-1, 2, 4, LOW, HIGH}) {
            DUE.isThrown("13 row", x, ELEMENT, () -> x.noteAt(m, 1, 0, row, 0));
            DUE.isThrown("14 row", x, ELEMENT, () -> x.writer(m, 1, 0, row));
        }
        for (int place : new int[] {-1, 1, 8, LOW, HIGH}) {
            DUE.isThrown("13 place", x, ELEMENT, () -> x.noteAt(m, 1, 0, 1, place));
        }
        DUE.isThrown("13 an empty row", x, ELEMENT, () -> x.noteAt(m, 0, 0, 0, 0));
    }

    private static void promises15And16() {
        ScoreSheaf x = withPieces(2);
        int a = write(x, write(x, 0, 1, 0, 0, 5), 1, 1, 1, 7);
        int b = write(x, write(x, 0, 2, 0, 0, 6), 2, 1, 1, 8);
        int m = x.merge(a, b, 0);
        is("15 two", x.doubts(m), 2);
        is("15 none", x.doubts(a) + x.doubts(0), 0);
        int solved = write(x, m, 1, 0, 0, 5);
        is("15 written away", x.doubts(solved), 1);
        is("16 two", x.unlike(a, b), 2);
        is("16 turned", x.unlike(b, a), 2);
        is("16 a row more", x.unlike(a, m), 2);
        is("16 the same", x.unlike(a, a), 0);
        is("16 one of the rows", x.unlike(m, a) * 10 + x.unlike(solved, a), 21);
        int like = write(x, solved, 5, 0, 0, 5);
        is("16 editors do not matter", x.unlike(like, solved), 0);
        is("16 the place of a note does", x.unlike(write(x, 0, 0, 0, 0, 1, 2), write(x, 0, 0, 0, 0, 2, 1)), 1);
        is("16 the length does", x.unlike(write(x, 0, 0, 0, 0, 1), write(x, 0, 0, 0, 0, 1, 1)), 1);
        for (int none : new int[] {-1, 40, 13, LOW, HIGH}) {
            DUE.isThrown("15 no such", x, INDEX, () -> x.doubts(none));
            DUE.isThrown("16 no such", x, INDEX, () -> x.unlike(none, 0));
            DUE.isThrown("16 no such other", x, INDEX, () -> x.unlike(0, none));
        }
        DUE.isThrown("16 unlike pieces", x, OPERATION, () -> x.unlike(1, 0));
        DUE.isThrown("16 unlike pieces, turned", x, OPERATION, () -> x.unlike(a, 1));
    }

    private static void promise17() {
        ScoreSheaf x = withPieces(2);
        int a = write(x, 0, 1, 0, 0, 5);
        is("17 none before", x.hear(0, 0), -1);
        is("17 in another round", x.hear(3, a), -1);
        is("17 another piece", x.hear(0, 1), -1);
        x.mark(0, 0, 0, 9);
        x.mark(1, 0, 0, 8);
        x.mark(0, 3, 0, 7);
        x.mark(0, 0, 1, 6);
        is("17 the same", x.hear(0, 0), 0);
        is("17 marks stay", x.points(0, 0), 17);
        is("17 another one", x.hear(0, a), 0);
        is("17 marks are gone", x.points(0, 0), 0);
        is("17 those of the others stay", x.points(3, 0) * 10 + x.points(0, 1), 76);
        is("17 no mark before", x.mark(0, 0, 0, 5), -1);
        is("17 back", x.hear(0, 0), a);
        is("17 they are gone for good", x.mark(0, 0, 0, 4), -1);
        for (int none : new int[] {-1, 4, LOW, HIGH}) {
            DUE.isThrown("17 round", x, INDEX, () -> x.hear(none, 0));
        }
        for (int none : new int[] {-1, 3, 40, LOW, HIGH}) {
            DUE.isThrown("17 version", x, INDEX, () -> x.hear(0, none));
        }
        askedMarksAreGoneToo();
    }

    private static void askedMarksAreGoneToo() {
        ScoreSheaf x = withPieces(1);
        int a = write(x, 0, 1, 0, 0, 5);
        int b = write(x, 0, 2, 0, 1, 6);
        x.hear(0, a);
        x.mark(0, 0, 0, 9);
        x.merge(a, b, 0);
        x.hear(0, a);
        is("17 the same leaves them asked", x.asked(), 1);
        x.hear(0, b);
        is("17 asked ones are gone", x.asked(), 0);
        DUE.isThrown("17 nothing to affirm", x, ELEMENT, () -> x.affirm(0, 0, 0));
    }

    private static void promise18() {
        ScoreSheaf x = withPieces(2);
        DUE.isThrown("18 not heard", x, OPERATION, () -> x.mark(0, 0, 0, 5));
        DUE.isThrown("18 the range comes first", x, ARGUMENT, () -> x.mark(0, 0, 0, 21));
        x.hear(1, 0);
        DUE.isThrown("18 not heard in it", x, OPERATION, () -> x.mark(0, 0, 0, 5));
        DUE.isThrown("18 another piece was", x, OPERATION, () -> x.mark(0, 1, 1, 5));
        is("18 none before", x.mark(4, 1, 0, 0), -1);
        is("18 0 before", x.mark(4, 1, 0, 20), 0);
        is("18 20 before", x.mark(4, 1, 0, 3), 20);
        is("18 another juror", x.mark(0, 1, 0, 5), -1);
        is("18 they count", x.points(1, 0), 8);
        int[][] none = {{-1, 1, 0}, {5, 1, 0}, {LOW, 1, 0}, {HIGH, 1, 0}, {0, -1, 0}, {0, 4, 0}, {0, LOW, 0},
            {0, HIGH, 0}, {0, 1, -1}, {0, 1, 2}, {0, 1, LOW}, {0, 1, HIGH}};
        for (int[] n : none) {
            DUE.isThrown("18 no such", x, INDEX, () -> x.mark(n[0], n[1], n[2], 5));
            DUE.isThrown("18 no such, first", x, INDEX, () -> x.mark(n[0], n[1], n[2], 21));
            DUE.isThrown("19 no such", x, INDEX, () -> x.affirm(n[0], n[1], n[2]));
        }
        for (int mark : new int[] {-1, 21, LOW, HIGH}) {
            DUE.isThrown("18 mark", x, ARGUMENT, () -> x.mark(0, 1, 0, mark));
        }
    }

    private static void promises19And20() {
        ScoreSheaf x = withPieces(1);
        int a = write(x, 0, 1, 0, 0, 5);
        int b = write(x, 0, 2, 0, 1, 6);
        DUE.isThrown("19 not heard", x, ELEMENT, () -> x.affirm(0, 2, 0));
        x.hear(2, a);
        x.mark(0, 2, 0, 0);
        x.mark(1, 2, 0, 12);
        x.mark(2, 2, 0, 13);
        DUE.isThrown("19 it counts", x, ELEMENT, () -> x.affirm(0, 2, 0));
        is("20 none", x.asked(), 0);
        x.merge(a, b, 0);
        is("20 three", x.asked(), 3);
        DUE.isThrown("19 no mark", x, ELEMENT, () -> x.affirm(3, 2, 0));
        DUE.isThrown("19 another round", x, ELEMENT, () -> x.affirm(0, 1, 0));
        is("19 a mark of 0", x.affirm(0, 2, 0), 0);
        is("19 of 12", x.affirm(1, 2, 0), 12);
        is("20 one", x.asked() * 100 + x.points(2, 0), 112);
        DUE.isThrown("19 once", x, ELEMENT, () -> x.affirm(1, 2, 0));
        is("18 the asked mark was there", x.mark(2, 2, 0, 5), 13);
        is("20 told again", x.asked() * 100 + x.points(2, 0), 17);
        x.merge(b, a, 0);
        is("20 asked once more", x.asked(), 3);
    }

    private static void promise21() {
        ScoreSheaf x = withPieces(2);
        x.hear(0, 0);
        is("21 none", x.points(0, 0), 0);
        int[] marks = {3, 20, 7, 9, 1};
        int[] sums = {3, 23, 30, 16, 19};
        for (int juror = 0; juror < 5; juror++) {
            x.mark(juror, 0, 0, marks[juror]);
            is("21 of " + (juror + 1), x.points(0, 0), sums[juror]);
        }
        is("21 another round", x.points(3, 0) + x.points(0, 1), 0);
        x.hear(1, 0);
        for (int juror = 0; juror < 4; juror++) {
            x.mark(juror, 1, 0, 6);
        }
        is("21 one of like ones", x.points(1, 0), 12);
        markAll(x, 2, 0, 0, 0, 0, 0);
        is("21 of nothing but 0", x.points(2, 0), 0);
        markAll(x, 2, 1, 20, 20, 20, 20, 20);
        is("21 of nothing but 20", x.points(2, 1), 60);
        for (int none : new int[] {-1, 4, LOW, HIGH}) {
            DUE.isThrown("21 round", x, INDEX, () -> x.points(none, 0));
        }
        for (int none : new int[] {-1, 2, 6, LOW, HIGH}) {
            DUE.isThrown("21 piece", x, INDEX, () -> x.points(0, none));
        }
        fourMarksThatCount();
    }

    private static void fourMarksThatCount() {
        ScoreSheaf x = withPieces(1);
        int a = write(x, 0, 1, 0, 0, 5);
        int b = write(x, 0, 2, 0, 1, 6);
        x.hear(0, a);
        for (int juror = 0; juror < 5; juror++) {
            x.mark(juror, 0, 0, juror + 1);
        }
        x.merge(a, b, 0);
        for (int juror = 4; juror > 1; juror--) {
            x.affirm(juror, 0, 0);
        }
        is("21 three count of five", x.points(0, 0), 12);
        x.affirm(0, 0, 0);
        is("21 four count of five", x.points(0, 0), 7);
    }

    private static void markAll(ScoreSheaf x, int round, int piece, int... marks) {
        x.hear(round, x.firstOf(piece));
        for (int juror = 0; juror < marks.length; juror++) {
            x.mark(juror, round, piece, marks[juror]);
        }
    }

    private static String order(ScoreSheaf x, int pieces) {
        StringBuilder text = new StringBuilder();
        for (int rank = 0; rank < pieces; rank++) {
            text.append(x.ranked(rank));
        }
        return text.toString();
    }

    private static void promise22() {
        ScoreSheaf x = withPieces(4);
        is("22 lower numbers", order(x, 4), "0123");
        markAll(x, 0, 1, 5);
        markAll(x, 2, 2, 3);
        markAll(x, 1, 2, 3);
        is("22 points of the open rounds", order(x, 4), "2103");
        markAll(x, 3, 0, 20);
        is("22 the hidden one does not count", order(x, 4), "2103");
        markAll(x, 0, 3, 6);
        is("22 ties by lower hidden", order(x, 4), "3210");
        markAll(x, 3, 2, 1);
        is("22 ties by the hidden one", order(x, 4), "2310");
        markAll(x, 3, 3, 1);
        is("22 then by the marks of round 0", order(x, 4), "3210");
        for (int none : new int[] {-1, 4, 6, LOW, HIGH}) {
            DUE.isThrown("22 rank", x, INDEX, () -> x.ranked(none));
        }
        fallingMarks();
        laterRounds();
        askedMarksDoNotRank();
    }

    private static void fallingMarks() {
        int[][][] pairs = {
            {{4, 4}, {5, 3}}, {{4, 4}, {3, 5}}, {{4, 4}, {8}}, {{8}, {8, 0}}, {{6, 1, 1}, {6, 2}},
            {{0, 0}, {0, 0, 0}}, {{}, {0}}, {{5, 5, 2, 2}, {7, 4, 3, 1}}, {{19, 19, 19, 19, 0}, {20, 20, 19, 18, 0}},
        };
        for (int i = 0; i < pairs.length; i++) {
            ScoreSheaf x = withPieces(2);
            markAll(x, 0, 0, pairs[i][0]);
            markAll(x, 0, 1, pairs[i][1]);
            is("22 as many points " + i, x.points(0, 0), x.points(0, 1));
            is("22 falling marks " + i, order(x, 2), "10");
            ScoreSheaf y = withPieces(2);
            markAll(y, 0, 1, pairs[i][0]);
            markAll(y, 0, 0, pairs[i][1]);
            is("22 falling marks, turned " + i, order(y, 2), "01");
        }
        ScoreSheaf z = withPieces(2);
        markAll(z, 0, 0, 1, 2, 3);
        markAll(z, 0, 1, 3, 2, 1);
        is("22 the jurors do not matter", order(z, 2), "01");
    }

    private static void laterRounds() {
        ScoreSheaf x = withPieces(2);
        for (int piece = 0; piece < 2; piece++) {
            markAll(x, 0, piece, 2, 2);
            markAll(x, 1, piece, 3, 3);
        }
        markAll(x, 2, 0, 4, 4);
        markAll(x, 2, 1, 5, 3);
        is("22 round 2", order(x, 2), "10");
        x.mark(0, 1, 0, 4);
        x.mark(1, 1, 0, 2);
        is("22 round 1 before 2", order(x, 2), "01");
        x.mark(0, 0, 1, 4);
        x.mark(1, 0, 1, 0);
        is("22 round 0 before 1", order(x, 2), "10");
        ScoreSheaf y = withPieces(2);
        markAll(y, 3, 0, 4, 4);
        markAll(y, 3, 1, 5, 3);
        is("22 marks of the hidden round do not break ties", order(y, 2), "01");
    }

    private static void askedMarksDoNotRank() {
        ScoreSheaf x = withPieces(2);
        int a = write(x, 1, 1, 0, 0, 5);
        int b = write(x, 1, 2, 0, 1, 6);
        x.hear(0, a);
        x.mark(0, 0, 1, 0);
        is("22 more marks", order(x, 2), "10");
        x.merge(a, b, 0);
        is("22 those that count", order(x, 2), "01");
    }

    private static void promise23() {
        ScoreSheaf x = withPieces(1);
        is("23 alone", x.isTied(0), false);
        x.piece(1, 1);
        x.piece(1, 1);
        is("23 all", x.isTied(0) && x.isTied(1) && x.isTied(2), true);
        markAll(x, 0, 2, 4);
        is("23 two of three", x.isTied(0) && x.isTied(1) && !x.isTied(2), true);
        markAll(x, 3, 0, 4);
        is("23 the hidden one breaks it, and is needed", x.isTied(0) && x.isTied(1), true);
        markAll(x, 1, 0, 3);
        markAll(x, 2, 0, 1);
        is("23 rounds together", x.isTied(0) && !x.isTied(1) && x.isTied(2), true);
        for (int none : new int[] {-1, 3, 6, LOW, HIGH}) {
            DUE.isThrown("23 piece", x, INDEX, () -> x.isTied(none));
        }
    }

    private static void promise24() {
        ScoreSheaf x = withPieces(2);
        int a = write(x, 0, 1, 0, 0, 5);
        DUE.isThrown("24 never heard", x, OPERATION, () -> x.give(0, 5));
        DUE.isThrown("24 the range comes first", x, ARGUMENT, () -> x.give(0, 0));
        x.hear(2, a);
        x.hear(0, 0);
        for (int coins : new int[] {0, -1, 10000, LOW, HIGH}) {
            DUE.isThrown("24 coins", x, ARGUMENT, () -> x.give(0, coins));
        }
        for (int rank : new int[] {-1, 2, LOW, HIGH}) {
            DUE.isThrown("24 rank", x, INDEX, () -> x.give(rank, 5));
            DUE.isThrown("24 the rank comes first", x, INDEX, () -> x.give(rank, 0));
        }
        is("24 number", x.give(0, 1), 0);
        is("24 the greatest round", x.named(0), a);
        x.hear(3, 0);
        is("24 the hidden one too", x.named(x.give(0, 9999)), 0);
        markAll(x, 1, 1, 20);
        is("24 to the piece of the rank", x.named(x.give(0, 7)) * 10 + x.named(x.give(1, 7)), 10);
        for (int prize = 4; prize < 12; prize++) {
            is("24 further numbers", x.give(1, 1), prize);
        }
        DUE.isThrown("24 twelve", x, STATE, () -> x.give(0, 1));
        DUE.isThrown("25 no thirteenth", x, INDEX, () -> x.named(12));
        DUE.isThrown("24 the range before twelve", x, ARGUMENT, () -> x.give(0, 10000));
        x.piece(1, 1);
        DUE.isThrown("24 heard before twelve", x, OPERATION, () -> x.give(2, 1));
    }

    private static void promises25To27() {
        ScoreSheaf x = new ScoreSheaf();
        x.piece(3, 1);
        int a = write(x, write(x, 0, 4, 0, 0, 1), 2, 1, 0, 1);
        x.hear(0, a);
        x.give(0, 100);
        is("26 parts 1, 2, 2", shares(x, 0), "20 0 40 0 40 0 ");
        x.give(0, 7);
        is("26 by falling rests", shares(x, 1), "1 0 3 0 3 0 ");
        x.give(0, 8);
        is("26 the greatest rest", shares(x, 2), "2 0 3 0 3 0 ");
        x.give(0, 1);
        is("26 of like rests the lower one", shares(x, 3), "0 0 1 0 0 0 ");
        x.give(0, 9);
        is("26 two of three rests", shares(x, 4), "2 0 4 0 3 0 ");
        is("27 all prizes", x.got(0) + " " + x.got(1) + " " + x.got(2) + " " + x.got(4), "25 0 51 49");
        x.hear(0, write(x, a, 5, 2, 0, 1, 2, 3));
        is("25 a prize stays", x.named(0), a);
        is("26 a prize stays", shares(x, 0), "20 0 40 0 40 0 ");
        x.give(0, 9999);
        is("26 the greatest prize", shares(x, 5), "0 0 2500 0 2500 4999 ");
        is("27 sums up", x.got(5), 4999);
        for (int none : new int[] {-1, 6, 12, LOW, HIGH}) {
            DUE.isThrown("25 prize", x, INDEX, () -> x.named(none));
            DUE.isThrown("26 prize", x, INDEX, () -> x.share(none, 0));
        }
        for (int none : new int[] {-1, 6, LOW, HIGH}) {
            DUE.isThrown("26 editor", x, INDEX, () -> x.share(0, none));
            DUE.isThrown("27 editor", x, INDEX, () -> x.got(none));
        }
        mergedPrize();
    }

    private static void mergedPrize() {
        ScoreSheaf x = new ScoreSheaf();
        x.piece(1, 1);
        int m = x.merge(write(x, 0, 1, 0, 0, 1), write(x, 0, 3, 0, 0, 2, 3, 4), 5);
        x.hear(1, m);
        x.give(0, 10);
        is("26 all rows of a sheaf, none of the merger", shares(x, 0), "0 3 0 7 0 0 ");
        x.give(0, 2);
        is("26 the greater rest is the lower editor's", shares(x, 1), "0 1 0 1 0 0 ");
        ScoreSheaf y = new ScoreSheaf();
        y.piece(1, 1);
        y.hear(0, 0);
        y.give(0, 5);
        is("26 of one part in all", shares(y, 0), "5 0 0 0 0 0 ");
    }

    private static String shares(ScoreSheaf x, int prize) {
        StringBuilder text = new StringBuilder();
        for (int editor = 0; editor < 6; editor++) {
            text.append(x.share(prize, editor)).append(' ');
        }
        return text.toString();
    }

    private static void promise28() {
        ScoreSheaf x = withPieces(1);
        int a = write(x, 0, 1, 0, 0, 5, 6);
        int m = x.merge(write(x, a, 5, 0, 0, 9), write(x, a, 2, 0, 0), 4);
        is("28 first", x.partsOf(0, 63) * 10 + x.partsOf(0, 1), 44);
        is("28 some", x.partsOf(a, 2) * 10 + x.partsOf(a, 3), 36);
        is("28 nobody", x.partsOf(a, 0) + x.partsOf(a, 60), 0);
        is("28 all rows", x.partsOf(m, 32) * 100 + x.partsOf(m, 4) * 10 + x.partsOf(m, 63), 216);
        for (int none : new int[] {-1, 5, 40, LOW, HIGH}) {
            DUE.isThrown("28 version", x, INDEX, () -> x.partsOf(none, 0));
            DUE.isThrown("28 the version comes first", x, INDEX, () -> x.partsOf(none, 64));
        }
        for (int bits : new int[] {-1, 64, LOW, HIGH}) {
            DUE.isThrown("28 editors", x, ARGUMENT, () -> x.partsOf(a, bits));
        }
    }

    private static void promise29() {
        ScoreSheaf x = withPieces(2);
        is("29 first ones", x.versions(), 2);
        x.merge(x.write(0, 0, 0, 0), x.write(0, 0, 0, 1), 0);
        is("29 written and merged", x.versions(), 5);
        is("29 forty", full().versions(), 40);
    }

    private static void promises30And31() {
        ScoreSheaf x = withPieces(1);
        int a = write(x, 0, 1, 0, 0, 5);
        int b = write(x, 0, 2, 0, 1, 6);
        x.hear(0, a);
        x.hear(1, 0);
        DUE.isThrown("30 none", x, ARITHMETIC, x::countShare);
        DUE.isThrown("31 none", x, ARITHMETIC, x::meanMark);
        x.mark(0, 0, 0, 10);
        x.mark(1, 0, 0, 20);
        is("30 all", x.countShare(), 1.0f);
        is("31 all", x.meanMark(), 15.0);
        x.merge(a, b, 0);
        is("30 none counts", x.countShare(), 0.0f);
        DUE.isThrown("31 none counts", x, ARITHMETIC, x::meanMark);
        x.mark(2, 1, 0, 0);
        is("30 one of three", x.countShare(), 1.0f / 3.0f);
        is("31 a mark of 0", x.meanMark(), 0.0);
        x.affirm(0, 0, 0);
        x.mark(3, 1, 0, 10);
        is("30 three of four", x.countShare(), 0.75f);
        is("31 a third", x.meanMark(), 20.0 / 3.0);
    }

    private static void promise32() {
        ScoreSheaf x = new ScoreSheaf();
        x.piece(1, 1);
        is("32 a first version", x.checksum(0), (7L * 31 + 0) * 31 + 100);
        int a = write(x, 0, 3, 0, 0, 8, 9);
        long of = (((7L * 31 + 3) * 31 + 8) * 31 + 9) * 31 + 100;
        is("32 written", x.checksum(a), of);
        int b = x.write(0, 5, 0, 0);
        is("32 without notes", x.checksum(b), (7L * 31 + 5) * 31 + 100);
        int c = write(x, 0, 4, 0, 0, 1);
        is("32 row by row", x.checksum(x.merge(a, c, 0)), ((of * 31 + 4) * 31 + 1) * 31 + 100);
        ScoreSheaf y = withPieces(1);
        int bars = write(y, write(y, write(y, 0, 1, 0, 0, 1), 2, 0, 1, 2), 3, 1, 0, 3);
        long sum = 7;
        for (int i = 1; i <= 3; i++) {
            sum = ((sum * 31 + i) * 31 + i) * 31 + 100;
        }
        is("32 bar by bar, part by part", y.checksum(bars), sum * 31 * 31 + 100);
        for (int none : new int[] {-1, 4, 40, LOW, HIGH}) {
            DUE.isThrown("32 version", y, INDEX, () -> y.checksum(none));
        }
    }

    private static void promise33() {
        ScoreSheaf x = withPieces(3);
        is("33 like pieces", x.isSound(), true);
        x.piece(8, 4);
        is("33 pieces of other sizes", x.isSound(), true);
        int a = write(x, write(x, 0, 1, 0, 0, 5), 1, 1, 1, 6);
        int b = write(x, write(x, 0, 2, 0, 1, 5), 2, 1, 0, 6);
        int m = x.merge(a, b, 0);
        is("33 a merge differs in more", x.unlike(m, a) > 1 && x.isSound(), true);
        x.hear(0, m);
        for (int coins = 1; coins <= 12; coins++) {
            x.give(0, coins * 7);
        }
        is("33 prizes", x.isSound(), true);
    }
}

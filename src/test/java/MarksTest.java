import java.util.Arrays;
import java.util.NoSuchElementException;

/** The document's 'Rounds and marks', points and ranks, and the promises 17 to 23, 30 and 31. */
public final class MarksTest {
    private static final Class<IndexOutOfBoundsException> INDEX = IndexOutOfBoundsException.class;
    private static final Class<IllegalArgumentException> ARGUMENT = IllegalArgumentException.class;
    private static final Class<UnsupportedOperationException> OPERATION = UnsupportedOperationException.class;
    private static final Class<NoSuchElementException> ELEMENT = NoSuchElementException.class;
    private static final Class<ArithmeticException> ARITHMETIC = ArithmeticException.class;

    private static final Due DUE = new Due();

    private MarksTest() {
    }

    public static void main(String[] args) {
        DUE.test("a piece is heard in a version", MarksTest::hear);
        DUE.test("in another version, its marks are gone", MarksTest::marksAreGone);
        DUE.test("asked marks are gone too", MarksTest::askedMarksAreGone);
        DUE.test("a juror, 0 to 4, with 0 to 20", MarksTest::everyMark);
        DUE.test("marks of their own", MarksTest::marksOfTheirOwn);
        DUE.test("not heard in it", MarksTest::notHeard);
        DUE.test("whose parents were heard", MarksTest::heardParents);
        DUE.test("by that very number", MarksTest::veryNumber);
        DUE.test("some sheaf is unlike that of this parent", MarksTest::someSheafUnlike);
        DUE.test("in some round", MarksTest::everyRound);
        DUE.test("all marks that are there", MarksTest::marksThatAreThere);
        DUE.test("by merges alone", MarksTest::byMergesAlone);
        DUE.test("until they are told again, or affirmed", MarksTest::untilToldOrAffirmed);
        DUE.test("as many asked as there may be", MarksTest::allAsked);
        DUE.test("points", MarksTest::points);
        DUE.test("points of marks that count", MarksTest::pointsOfAsked);
        DUE.test("ranked by all rounds but the hidden one", MarksTest::rankedByOpenRounds);
        DUE.test("of several alike by the hidden one", MarksTest::rankedByHiddenRound);
        DUE.test("then by their marks", MarksTest::rankedByMarks);
        DUE.test("then by their marks, of fewer points", MarksTest::rankedByFewerPoints);
        DUE.test("round 0, then 1, then 2", MarksTest::rankedByRounds);
        DUE.test("those that count", MarksTest::rankedByThoseThatCount);
        DUE.test("then by lower numbers", MarksTest::rankedByNumbers);
        DUE.test("isTied", MarksTest::isTied);
        DUE.test("the share of marks that count", MarksTest::countShare);
        DUE.test("the mean of all marks that count", MarksTest::meanMark);
        DUE.end("MarksTest");
    }

    private static void is(String what, Object got, Object want) {
        DUE.is(what, got, want);
    }

    private static Run withPieces(int count) {
        return Run.withPieces(DUE, count);
    }

    /** A piece with the versions 1, by bar 0 of part 0, and 2, by bar 0 of part 1. */
    private static Run withTwo() {
        Run x = withPieces(1);
        x.write(0, 1, 0, 0, 5);
        x.write(0, 2, 0, 1, 6);
        return x;
    }

    private static void hear() {
        Run x = withPieces(2);
        int a = x.write(0, 1, 0, 0, 5);
        for (int round = 0; round < 4; round++) {
            is("17 none before in round " + round, x.hear(round, round % 2 == 0 ? 0 : a), -1);
        }
        for (int round = 0; round < 4; round++) {
            is("17 another piece, none before in round " + round, x.hear(round, 1), -1);
        }
        for (int round = 0; round < 4; round++) {
            is("17 the version before in round " + round, x.hear(round, a), round % 2 == 0 ? 0 : a);
            is("17 in place of it", x.hear(round, 0), a);
            is("17 the same one", x.hear(round, 0), 0);
            is("17 the other piece is heard as it was", x.hear(round, 1), 1);
        }
        x.refuses("17 no fifth round", INDEX, s -> s.hear(4, 0));
        x.refuses("17 no round -1", INDEX, s -> s.hear(-1, 0));
        x.refuses("17 no such version", INDEX, s -> s.hear(0, 3));
        x.refuses("17 no version -1", INDEX, s -> s.hear(0, -1));
    }

    private static void marksAreGone() {
        Run x = withPieces(2);
        int a = x.write(0, 1, 0, 0, 5);
        int like = x.write(0, 1, 0, 0, 5);
        x.hear(0, a);
        x.hear(3, a);
        x.hear(0, 1);
        x.marks(0, 0, 1, 2, 4);
        x.marks(3, 0, 7);
        x.marks(0, 1, 6, 0);
        is("17 the same one", x.hear(0, a), a);
        is("17 in the same one, they stay", x.points(0, 0), 7);
        is("17 each of them", x.mark(1, 0, 0, 2), 2);
        is("17 another one, though alike", x.hear(0, like), a);
        is("17 its marks of this round are gone", x.points(0, 0), 0);
        is("17 those of another round stay", x.points(3, 0), 7);
        is("17 those of another piece stay", x.points(0, 1), 6);
        is("17 the marks that are there", x.countShare() + " " + x.meanMark(), "1.0 " + 13.0 / 3.0);
        is("17 back", x.hear(0, a), like);
        for (int juror = 0; juror < 5; juror++) {
            is("17 gone for good, of juror " + juror, x.mark(juror, 0, 0, 3), -1);
        }
    }

    private static void askedMarksAreGone() {
        Run x = withTwo();
        x.hear(0, 1);
        x.marks(0, 0, 9, 8);
        x.merge(1, 2, 0);
        x.affirm(1, 0, 0);
        x.hear(0, 1);
        is("17 in the same one, they stay asked", x.asked() + " " + x.points(0, 0), "1 8");
        x.hear(0, 3);
        is("20 asked ones are gone", x.asked(), 0);
        x.refuses("19 nothing to affirm", ELEMENT, s -> s.affirm(0, 0, 0));
        is("18 none before", x.mark(0, 0, 0, 4), -1);
        is("18 and it counts", x.points(0, 0), 4);
    }

    private static void everyMark() {
        Run x = withPieces(1);
        x.hear(2, 0);
        for (int juror = 0; juror < 5; juror++) {
            for (int mark = 0; mark <= 20; mark++) {
                is("18 the mark before " + mark + " of juror " + juror, x.mark(juror, 2, 0, mark), mark - 1);
            }
            is("18 the last one, told anew", x.mark(juror, 2, 0, 0), 20);
            is("18 told anew, 0 before", x.mark(juror, 2, 0, juror), 0);
        }
        is("21 the last ones told", x.points(2, 0), 1 + 2 + 3);
        for (int no : new int[] {-1, 5}) {
            x.refuses("18 no juror " + no, INDEX, s -> s.mark(no, 2, 0, 5));
            x.refuses("18 no juror comes first " + no, INDEX, s -> s.mark(no, 2, 0, 21));
        }
        for (int no : new int[] {-1, 21}) {
            x.refuses("18 no mark " + no, ARGUMENT, s -> s.mark(0, 2, 0, no));
            x.refuses("18 no mark comes first " + no, ARGUMENT, s -> s.mark(0, 0, 0, no));
        }
    }

    /** In each round, each piece and each juror has a mark of its own. */
    private static void marksOfTheirOwn() {
        Run x = withPieces(6);
        for (int round = 0; round < 4; round++) {
            for (int piece = 0; piece < 6; piece++) {
                is("17 none before", x.hear(round, piece), -1);
                for (int juror = 0; juror < 5; juror++) {
                    int mark = (round * 7 + piece * 5 + juror * 3) % 21;
                    is("18 none before", x.mark(juror, round, piece, mark), -1);
                }
            }
        }
        for (int round = 3; round >= 0; round--) {
            for (int piece = 0; piece < 6; piece++) {
                for (int juror = 0; juror < 5; juror++) {
                    int mark = (round * 7 + piece * 5 + juror * 3) % 21;
                    is("18 juror " + juror + ", round " + round + ", piece " + piece,
                        x.mark(juror, round, piece, 0), mark);
                }
            }
        }
        is("31 all told anew", x.meanMark(), 0.0);
    }

    private static void notHeard() {
        for (int heard = 0; heard < 4; heard++) {
            Run x = withPieces(2);
            x.hear(heard, 0);
            for (int r = 0; r < 4; r++) {
                int round = r;
                if (round != heard) {
                    x.refuses("18 heard in " + heard + ", not in " + round, OPERATION, s -> s.mark(0, round, 0, 5));
                }
                x.refuses("18 another piece was heard", OPERATION, s -> s.mark(0, round, 1, 5));
                x.refuses("19 no mark", ELEMENT, s -> s.affirm(0, round, 0));
            }
            is("18 as it was heard", x.mark(0, heard, 0, 5), -1);
            is("21 in this round alone", x.points(heard, 0) - x.points((heard + 1) % 4, 0), 5);
        }
    }

    private static void heardParents() {
        Run x = withTwo();
        x.hear(0, 1);
        x.hear(1, 2);
        x.hear(2, 0);
        for (int round = 0; round < 3; round++) {
            x.mark(round, round, 0, 10 + round);
        }
        Run first = x.fork();
        first.merge(1, first.write(0, 3, 1, 0, 7), 0);
        is("the first parent was heard", asked(first), "1 0 11 12");
        Run other = x.fork();
        other.merge(other.write(0, 3, 1, 0, 7), 1, 0);
        is("the other parent was heard", asked(other), "1 0 11 12");
        Run both = x.fork();
        both.merge(1, 2, 0);
        is("both parents were heard", asked(both), "2 0 0 12");
        Run turned = x.fork();
        turned.merge(2, 1, 0);
        is("both parents were heard, turned", asked(turned), "2 0 0 12");
        Run neither = x.fork();
        neither.merge(neither.write(0, 3, 0, 0, 5), neither.write(0, 3, 1, 0, 7), 0);
        is("neither was heard", asked(neither), "0 10 11 12");
        Run below = x.fork();
        below.merge(below.write(1, 3, 1, 0, 5), below.write(2, 3, 1, 1, 7), 0);
        is("parents of parents were heard", asked(below), "0 10 11 12");
    }

    /** How many marks are asked again, and the points of the rounds 0 to 2. */
    private static String asked(Run x) {
        return x.asked() + " " + x.points(0, 0) + " " + x.points(1, 0) + " " + x.points(2, 0);
    }

    private static void veryNumber() {
        Run x = withTwo();
        int twin = x.write(0, 1, 0, 0, 5);
        x.hear(0, 1);
        x.mark(0, 0, 0, 9);
        int m = x.merge(twin, 2, 0);
        is("a version like it does not matter", x.asked(), 0);
        x.hear(0, m);
        x.mark(0, 0, 0, 8);
        x.merge(1, 2, 0);
        is("its parents do not matter", x.asked(), 0);
        x.merge(m, x.write(0, 3, 1, 1, 1), 0);
        is("a merged one that was heard", x.asked(), 1);
        Run y = withTwo();
        y.hear(0, 1);
        y.hear(0, 2);
        y.mark(0, 0, 0, 9);
        y.merge(1, y.write(0, 1, 1, 1, 3), 0);
        is("what was heard before does not matter", y.asked(), 0);
    }

    private static void someSheafUnlike() {
        Run x = withTwo();
        int like = x.write(0, 3, 0, 0, 5);
        int none = x.write(0, 4, 0, 0);
        x.hear(0, 1);
        x.hear(1, like);
        x.hear(2, none);
        for (int round = 0; round < 3; round++) {
            x.mark(round, round, 0, 10 + round);
        }
        Run y = x.fork();
        y.merge(like, 1, 0);
        is("all sheaves are like both parents', by other editors", asked(y), "0 10 11 12");
        y.merge(1, none, 0);
        is("all are like the first parent's, not like the other one's", asked(y), "1 10 11 0");
        Run z = x.fork();
        z.merge(none, 1, 0);
        is("turned", asked(z), "1 10 11 0");
        z.merge(1, 2, 0);
        is("all are unlike", asked(z), "2 0 11 0");
        for (int slot = 0; slot < 32; slot++) {
            Run w = Run.of(DUE, 8, 4);
            int a = w.write(0, 1, 7 - slot / 4, 3 - slot % 4, 5);
            int b = w.write(0, 2, slot / 4, slot % 4, 6);
            w.hear(0, a);
            w.mark(0, 0, 0, 7);
            w.merge(a, b, 0);
            is("one sheaf is unlike, slot " + slot, w.asked(), 1);
        }
        byRule('l', "1:5", "2:6", "0 1");
        byRule('n', "1:5,6", "2:6", "2 0");
        byRule('b', "1:5", "2:6", "0 0");
        byRule('b', "1:5 2:6", "3:6", "2 0");
        byRule('b', "1:1 2:2 3:3 4:4", "5:5", "2 0");
    }

    /** The points that are left of the first version, of 2, and of the other one, of 1, when a rule merged them. */
    private static void byRule(char rule, String first, String other, String want) {
        Run x = Run.of(DUE, 1, 1);
        int root = x.made(0, "0:60");
        int a = x.made(root, first);
        int b = x.made(root, other);
        x.rule(0, 0, rule);
        x.hear(0, a);
        x.hear(1, b);
        x.mark(0, 0, 0, 2);
        x.mark(0, 1, 0, 1);
        x.merge(a, b, 0);
        is("as the rule " + rule + " leaves it unlike: " + first + " and " + other,
            x.points(0, 0) + " " + x.points(1, 0), want);
    }

    private static void everyRound() {
        for (int rounds = 0; rounds < 16; rounds++) {
            Run x = withTwo();
            for (int round = 0; round < 4; round++) {
                x.hear(round, (rounds >> round & 1) == 1 ? 1 : 0);
                x.marks(round, 0, 3, 4);
            }
            x.merge(1, 2, 0);
            is("20 heard in the rounds " + rounds, x.asked(), 2 * Integer.bitCount(rounds));
            for (int round = 0; round < 4; round++) {
                is("asked of round " + round + " of " + rounds, x.points(round, 0), (rounds >> round & 1) == 1 ? 0 : 7);
                is("what was heard stays as told", x.hear(round, 0), (rounds >> round & 1) == 1 ? 1 : 0);
            }
        }
    }

    private static void marksThatAreThere() {
        for (int many = 0; many <= 5; many++) {
            Run x = withTwo();
            x.piece(2, 2);
            x.hear(1, 1);
            x.heardAndMarked(1, 1, 6, 5);
            for (int juror = 0; juror < many; juror++) {
                x.mark(4 - juror, 1, 0, juror * 5);
            }
            x.merge(2, 1, 0);
            is("20 all of " + many, x.asked(), many);
            is("21 none counts of " + many, x.points(1, 0), 0);
            is("those of another piece count", x.points(1, 1), 11);
            if (many < 5) {
                is("18 one that is told later", x.mark(0, 1, 0, 9), -1);
                is("counts", x.asked() + " " + x.points(1, 0), many + " 9");
            }
            x.hear(0, 1);
            x.mark(0, 0, 0, 2);
            is("a round heard later counts", x.points(0, 0), 2);
        }
    }

    private static void byMergesAlone() {
        Run x = withTwo();
        x.hear(0, 1);
        x.mark(0, 0, 0, 9);
        x.write(1, 1, 0, 0, 7);
        x.write(1, 1, 1, 1);
        x.rule(0, 0, 'l');
        x.hear(1, 1);
        x.give(0, 5);
        x.piece(1, 1);
        is("not by writing, nor by anything else", x.asked() + " " + x.points(0, 0), "0 9");
        x.refuses("9 a refused merge", OPERATION, s -> s.merge(1, 0, 0));
        x.refuses("9 a refused merge", ARGUMENT, s -> s.merge(1, 2, 6));
        x.merge(1, 2, 0);
        is("by a merge", x.asked() + " " + x.points(0, 0), "1 0");
        while (x.versions() < 40) {
            x.write(0, 0, 0, 0);
        }
        x.affirm(0, 0, 0);
        x.refuses("9 a refused merge at forty", IllegalStateException.class, s -> s.merge(1, 2, 0));
    }

    private static void untilToldOrAffirmed() {
        Run x = withTwo();
        x.hear(2, 1);
        x.marks(2, 0, 0, 12, 13, 20);
        x.refuses("19 it counts", ELEMENT, s -> s.affirm(0, 2, 0));
        is("20 none", x.asked(), 0);
        x.merge(1, 2, 0);
        is("20 four", x.asked(), 4);
        x.refuses("19 no mark of the juror", ELEMENT, s -> s.affirm(4, 2, 0));
        x.refuses("19 another round", ELEMENT, s -> s.affirm(0, 1, 0));
        is("19 a mark of 0", x.affirm(0, 2, 0), 0);
        is("20 three", x.asked(), 3);
        is("19 of 20", x.affirm(3, 2, 0), 20);
        is("19 of 12", x.affirm(1, 2, 0), 12);
        is("20 one, and the others count", x.asked() + " " + x.points(2, 0), "1 32");
        x.refuses("19 affirmed by then", ELEMENT, s -> s.affirm(1, 2, 0));
        is("18 the asked mark is the one before", x.mark(2, 2, 0, 5), 13);
        is("20 told again", x.asked() + " " + x.points(2, 0), "0 17");
        x.refuses("19 told again by then", ELEMENT, s -> s.affirm(2, 2, 0));
        x.merge(2, 1, 0);
        is("20 asked once more", x.asked() + " " + x.points(2, 0), "4 0");
        x.merge(2, 1, 0);
        is("20 they stay asked, once each", x.asked(), 4);
        is("19 as told again", x.affirm(2, 2, 0), 5);
        is("18 the same mark, told again", x.mark(3, 2, 0, 20), 20);
        is("20 two", x.asked() + " " + x.points(2, 0), "2 25");
        x.refuses("19 no juror", INDEX, s -> s.affirm(5, 2, 0));
        x.refuses("19 no round", INDEX, s -> s.affirm(0, 4, 0));
        x.refuses("19 no piece", INDEX, s -> s.affirm(0, 2, 1));
    }

    private static void allAsked() {
        Run x = withPieces(6);
        for (int piece = 0; piece < 6; piece++) {
            int a = x.write(piece, 1, 0, 0, 5);
            int b = x.write(piece, 2, 0, 1, 5);
            for (int round = 0; round < 4; round++) {
                x.hear(round, a);
                x.marks(round, piece, 20, 20, 20, 20, 20);
            }
            is("30 of " + piece, x.countShare(), 20.0f / (20.0f * (piece + 1)));
            x.merge(a, b, 0);
            is("20 of " + (piece + 1), x.asked(), 20 * (piece + 1));
        }
        is("30 none counts of 120", x.countShare(), 0.0f);
        x.affirm(4, 3, 5);
        is("30 one of 120", x.countShare(), 1.0f / 120.0f);
        is("31 one", x.meanMark(), 20.0);
        is("20 the others", x.asked(), 119);
    }

    private static void points() {
        int[][][] rows = {
            {{}, {0}}, {{0}, {0}}, {{20}, {20}}, {{3}, {3}}, {{3, 20}, {23}}, {{20, 20, 20}, {60}}, {{3, 20, 7}, {30}},
            {{0, 0, 20}, {20}}, {{3, 20, 7, 9}, {16}}, {{6, 6, 6, 6}, {12}}, {{0, 0, 0, 0}, {0}},
            {{20, 20, 20, 20}, {40}}, {{0, 20, 20, 20}, {40}}, {{0, 0, 0, 20}, {0}}, {{1, 2, 3, 4}, {5}},
            {{4, 3, 2, 1}, {5}}, {{2, 4, 1, 3}, {5}}, {{3, 20, 7, 9, 1}, {19}}, {{20, 20, 20, 20, 20}, {60}},
            {{0, 0, 0, 0, 0}, {0}}, {{0, 0, 5, 20, 20}, {25}}, {{5, 1, 1, 5, 5}, {11}}, {{1, 2, 3, 4, 5}, {9}},
            {{5, 4, 3, 2, 1}, {9}}, {{0, 20, 0, 20, 0}, {20}},
        };
        for (int[][] row : rows) {
            for (int round = 0; round < 4; round++) {
                Run x = withPieces(2);
                x.heardAndMarked(round, 1, row[0]);
                is("21 of " + Arrays.toString(row[0]), x.points(round, 1), row[1][0]);
                is("21 of no other round", x.points((round + 1) % 4, 1), 0);
                is("21 of no other piece", x.points(round, 0), 0);
            }
        }
        Run x = withPieces(1);
        x.refuses("21 no fifth round", INDEX, s -> s.points(4, 0));
        x.refuses("21 no second piece", INDEX, s -> s.points(0, 1));
    }

    private static void pointsOfAsked() {
        Run x = withTwo();
        x.hear(0, 1);
        x.marks(0, 0, 1, 2, 3, 4, 5);
        x.merge(1, 2, 0);
        is("21 none counts of five", x.points(0, 0), 0);
        int[] sums = {5, 9, 12, 5 + 4 + 3 + 2 - 5 - 2, 9};
        for (int juror = 4; juror >= 0; juror--) {
            x.affirm(juror, 0, 0);
            is("21 so many count of five: " + (5 - juror), x.points(0, 0), sums[4 - juror]);
        }
    }

    private static void rankedByOpenRounds() {
        Run x = withPieces(4);
        is("22 none was heard", x.order(), "0123");
        x.heardAndMarked(0, 1, 5);
        is("22 round 0 counts", x.order(), "1023");
        x.heardAndMarked(1, 2, 6);
        is("22 round 1 counts", x.order(), "2103");
        x.heardAndMarked(2, 3, 7);
        is("22 round 2 counts", x.order(), "3210");
        x.heardAndMarked(2, 1, 1);
        x.mark(1, 2, 1, 1);
        x.heardAndMarked(1, 1, 1);
        is("22 rounds together", x.order(), "1320");
        x.heardAndMarked(3, 0, 20, 20, 20);
        is("22 the hidden one does not count", x.order(), "1320");
        x.heardAndMarked(3, 2, 20, 20, 20);
        is("22 the hidden one does not count, nor together", x.order(), "1320");
        Run y = withPieces(2);
        y.heardAndMarked(0, 0, 20, 20, 20, 20);
        y.heardAndMarked(0, 1, 20, 20, 1);
        is("22 by points, not by sums of marks", y.order(), "10");
        y.refuses("22 no third rank", INDEX, s -> s.ranked(2));
        y.refuses("22 no rank -1", INDEX, s -> s.ranked(-1));
    }

    private static void rankedByHiddenRound() {
        Run x = withPieces(3);
        x.heardAndMarked(0, 0, 8);
        x.heardAndMarked(0, 1, 5, 3);
        x.heardAndMarked(1, 2, 8);
        is("22 without the hidden one", x.order(), "012");
        x.heardAndMarked(3, 2, 1);
        is("22 by the hidden one", x.order(), "201");
        x.heardAndMarked(3, 1, 2);
        is("22 by the greater hidden one", x.order(), "120");
        x.heardAndMarked(3, 0, 1, 1);
        is("22 as many hidden ones, then by marks", x.order(), "012");
        x.mark(0, 3, 2, 20);
        x.mark(1, 3, 2, 20);
        x.mark(2, 3, 2, 20);
        x.mark(3, 3, 2, 20);
        is("22 by hidden points", x.order(), "201");
        x.mark(0, 3, 0, 20);
        x.mark(1, 3, 0, 20);
        x.mark(2, 3, 0, 1);
        is("22 by hidden points, not by hidden sums of marks", x.order(), "021");
        Run y = withPieces(2);
        y.heardAndMarked(3, 0, 4, 4);
        y.heardAndMarked(3, 1, 5, 3);
        is("22 marks of the hidden round break no tie", y.order(), "01");
    }

    /** As many points each, the marks of the second row being ahead. */
    private static void rankedByMarks() {
        int[][][] pairs = {
            {{4, 4}, {5, 3}}, {{4, 4}, {3, 5}}, {{4, 4}, {8}}, {{7, 1}, {8}}, {{8}, {8, 0}}, {{8, 0}, {8, 0, 0}},
            {{6, 1, 1}, {6, 2}}, {{5, 2, 1}, {5, 3, 0}}, {{}, {0}}, {{0}, {0, 0}}, {{0, 0}, {0, 0, 0}},
            {{0, 0, 0, 0}, {0, 0, 0, 0, 0}}, {{5, 5, 2, 2}, {7, 4, 3, 1}},
            {{5, 5, 2, 1}, {5, 5, 2, 2}}, {{9, 5, 2, 1}, {9, 5, 2, 2}}, {{8, 5, 2, 2}, {9, 5, 2, 2}},
            {{7}, {0, 3, 4, 9}},
            {{19, 19, 19, 19, 0}, {20, 20, 19, 18, 0}}, {{20, 10, 10, 10, 9}, {20, 10, 10, 10, 10}},
            {{12, 12}, {12, 12, 0}}, {{3, 2, 2}, {3, 3, 1}}, {{16, 4}, {17, 3}}, {{10, 10}, {20}},
            {{20, 20}, {20, 20, 20, 20}}, {{20, 20, 20}, {20, 20, 20, 20, 20}}, {{20, 20, 20, 0}, {20, 20, 20, 20}},
            {{20, 19, 19, 19}, {20, 20, 18, 0}}, {{0, 0, 0, 0}, {1, 0, 0, 0, 0}}, {{1, 1, 1, 1, 1}, {2, 1, 1, 1, 0}},
        };
        for (int[][] pair : pairs) {
            for (int round = 0; round < 3; round++) {
                rankedByMarks(pair[0], pair[1], round);
            }
        }
        Run z = withPieces(2);
        z.heardAndMarked(0, 0, 1, 2, 3);
        z.heardAndMarked(0, 1, 3, 1, 2);
        is("22 sorted: the jurors do not matter", z.order(), "01");
    }

    /** A round in which the piece ahead has fewer points; a later one makes up for them. */
    private static void rankedByFewerPoints() {
        int[][][] pairs = {
            {{19, 19, 19, 19, 19}, {20}}, {{19, 19, 19, 19}, {20}}, {{19, 19, 19}, {20, 0}}, {{5, 5, 5, 5, 5}, {6}},
            {{5, 5, 5, 5}, {6, 0}}, {{1, 1, 1, 1, 1}, {2}}, {{1, 1, 1, 1, 1}, {1, 1, 1, 1, 1}}, {{9, 9, 9}, {10, 2}},
            {{20, 20, 19}, {20, 20, 20, 0}}, {{20, 20, 19}, {20, 20, 20, 20}}, {{7, 6, 6}, {7, 7}},
            {{7, 6, 6, 6, 6}, {7, 7}},
            {{3}, {3, 0, 0, 0, 0}}, {{3, 3, 3}, {3, 3, 3, 3}}, {{3, 3, 3}, {3, 3, 3, 0}}, {{0, 4, 5}, {6}},
            {{18, 18, 18}, {0, 19, 0}}, {{}, {0, 0, 0, 0}}, {{2, 2, 2}, {0, 0, 0, 0, 3}},
        };
        for (int[][] pair : pairs) {
            for (int round = 0; round < 2; round++) {
                for (int later = round + 1; later < 3; later++) {
                    String what = "row " + Arrays.toString(pair[1]) + " in round " + round + ", later " + later;
                    Run x = withPieces(3);
                    x.heardAndMarked(round, 1, pair[0]);
                    x.heardAndMarked(round, 2, pair[1]);
                    int fewer = x.points(round, 1) - x.points(round, 2);
                    x.hear(later, 2);
                    for (int juror = 0; juror < 3 && fewer > 0; juror++) {
                        x.mark(juror, later, 2, Math.min(fewer, 20));
                        fewer -= 20;
                    }
                    x.hear(later, 1);
                    is("23 as many points together, " + what, x.isTied(1) && x.isTied(2), true);
                    boolean alike = Arrays.equals(pair[0], pair[1]);
                    is("22 by falling marks, " + what, x.order().replace("0", ""), alike ? "12" : "21");
                }
            }
        }
    }

    private static void rankedByMarks(int[] behind, int[] ahead, int round) {
        String what = ", row " + Arrays.toString(ahead) + " in round " + round;
        Run x = withPieces(2);
        x.heardAndMarked(round, 0, behind);
        x.heardAndMarked(round, 1, ahead);
        is("22 as many points" + what, x.points(round, 0), x.points(round, 1));
        is("22 by falling marks" + what, x.order(), "10");
        Run y = withPieces(2);
        y.heardAndMarked(round, 0, ahead);
        y.heardAndMarked(round, 1, behind);
        is("22 by falling marks, turned" + what, y.order(), "01");
    }

    private static void rankedByRounds() {
        Run x = withPieces(2);
        for (int piece = 0; piece < 2; piece++) {
            x.heardAndMarked(0, piece, 2, 2);
            x.heardAndMarked(1, piece, 3, 3);
        }
        x.heardAndMarked(2, 0, 4, 4);
        x.heardAndMarked(2, 1, 5, 3);
        is("22 round 2", x.order(), "10");
        x.marks(1, 0, 4, 2);
        is("22 round 1 before 2", x.order(), "01");
        x.marks(0, 1, 4, 0);
        is("22 round 0 before 1", x.order(), "10");
        x.heardAndMarked(3, 0, 1);
        is("22 the hidden one before all", x.order(), "01");
        x.mark(2, 2, 1, 1);
        is("22 points before the hidden one", x.order(), "10");
        Run y = withPieces(2);
        y.heardAndMarked(0, 0, 5);
        y.heardAndMarked(1, 1, 5);
        is("22 more points in round 0 are greater marks in round 0", y.order(), "01");
        Run z = withPieces(2);
        z.heardAndMarked(0, 1, 5);
        z.heardAndMarked(2, 0, 5);
        is("22 more points in round 0, turned", z.order(), "10");
        z.heardAndMarked(0, 0, 0);
        is("22 round by round, not all marks in one", z.order(), "10");
        Run w = withPieces(2);
        w.heardAndMarked(0, 0, 0);
        w.heardAndMarked(1, 1, 0, 0, 0, 0, 0);
        is("22 more marks in round 0", w.order(), "01");
        w.heardAndMarked(0, 1, 0, 0);
        is("22 more marks in round 0 than the other", w.order(), "10");
    }

    private static void rankedByThoseThatCount() {
        Run x = withPieces(2);
        int a = x.write(1, 1, 0, 0, 5);
        int b = x.write(1, 2, 0, 1, 6);
        x.hear(0, a);
        x.marks(0, 1, 0, 9);
        is("22 more points", x.order(), "10");
        x.merge(a, b, 0);
        is("22 none counts", x.order(), "01");
        x.affirm(0, 0, 1);
        is("22 a mark of 0 counts again", x.order(), "10");
        x.heardAndMarked(0, 0, 0, 0);
        is("22 fewer marks that count", x.order(), "01");
        x.mark(2, 0, 1, 0);
        x.mark(3, 0, 1, 0);
        is("22 more marks that count", x.order(), "10");
    }

    private static void rankedByNumbers() {
        for (int pieces = 1; pieces <= 6; pieces++) {
            Run x = withPieces(pieces);
            is("22 by lower numbers of " + pieces, x.order(), "012345".substring(0, pieces));
            for (int piece = 0; piece < pieces; piece++) {
                for (int round = 0; round < 4; round++) {
                    x.heardAndMarked(round, piece, 7, 3);
                }
            }
            is("22 by lower numbers of like ones, " + pieces, x.order(), "012345".substring(0, pieces));
            int no = pieces;
            x.refuses("22 no further rank of " + pieces, INDEX, s -> s.ranked(no));
        }
        Run x = withPieces(6);
        int[] points = {3, 9, 3, 12, 9, 3};
        for (int piece = 5; piece >= 0; piece--) {
            x.heardAndMarked(piece % 3, piece, points[piece]);
        }
        is("22 all six", x.order(), "314025");
    }

    private static void isTied() {
        Run x = withPieces(1);
        is("23 alone", x.isTied(0), false);
        x.piece(1, 1);
        is("23 both without points", tied(x, 2), 2);
        x.piece(1, 1);
        is("23 all without points", tied(x, 3), 3);
        x.heardAndMarked(0, 2, 4);
        is("23 two of three", tied(x, 3), 2);
        is("23 not the one with more", x.isTied(2), false);
        x.heardAndMarked(3, 0, 9);
        is("23 it needs the hidden round that breaks it", x.isTied(0) && x.isTied(1), true);
        x.heardAndMarked(1, 0, 3);
        is("23 none is as many", tied(x, 3), 0);
        x.heardAndMarked(2, 0, 1);
        is("23 as many together", tied(x, 3), 2);
        is("23 with another piece", x.isTied(0) + " " + x.isTied(1) + " " + x.isTied(2), "true false true");
        x.heardAndMarked(3, 2, 9);
        is("23 the hidden one as many too", x.isTied(0) && x.isTied(2), true);
        x.heardAndMarked(3, 1, 4);
        is("23 the hidden one does not tie", x.isTied(1), false);
        x.mark(1, 0, 2, 1);
        is("23 one more point", tied(x, 3), 0);
        x.refuses("23 no such piece", INDEX, s -> s.isTied(3));
        Run y = withTwo();
        y.piece(1, 1);
        y.hear(0, 1);
        y.mark(0, 0, 0, 5);
        is("23 not tied", tied(y, 2), 0);
        y.merge(1, 2, 0);
        is("23 by marks that count", tied(y, 2), 2);
        y.affirm(0, 0, 0);
        is("23 affirmed", tied(y, 2), 0);
        Run z = withPieces(2);
        z.heardAndMarked(0, 0, 20, 20, 20, 20);
        z.heardAndMarked(1, 1, 20, 20);
        is("23 as many points, not marks", tied(z, 2), 2);
        z.heardAndMarked(3, 1, 20);
        is("23 whatever breaks it", z.isTied(0) && z.isTied(1), true);
    }

    /** How many pieces are tied. */
    private static int tied(Run x, int pieces) {
        int count = 0;
        for (int piece = 0; piece < pieces; piece++) {
            count += x.isTied(piece) ? 1 : 0;
        }
        return count;
    }

    private static void countShare() {
        Run x = withTwo();
        x.refuses("30 no marks", ARITHMETIC, ScoreSheaf::countShare);
        x.hear(0, 1);
        x.hear(1, 0);
        x.refuses("30 heard, but no marks", ARITHMETIC, ScoreSheaf::countShare);
        x.mark(0, 0, 0, 0);
        is("30 one of one", x.countShare(), 1.0f);
        x.mark(1, 0, 0, 20);
        is("30 two of two", x.countShare(), 1.0f);
        x.merge(1, 2, 0);
        is("30 none of two", x.countShare(), 0.0f);
        x.mark(2, 1, 0, 0);
        is("30 one of three", x.countShare(), 1.0f / 3.0f);
        x.affirm(0, 0, 0);
        is("30 two of three", x.countShare(), 2.0f / 3.0f);
        x.mark(3, 1, 0, 10);
        is("30 three of four", x.countShare(), 0.75f);
        x.mark(3, 1, 0, 11);
        is("30 one told anew is one", x.countShare(), 0.75f);
        x.hear(0, 2);
        is("30 those that are there", x.countShare(), 1.0f);
        x.hear(1, 2);
        x.refuses("30 they are gone", ARITHMETIC, ScoreSheaf::countShare);
    }

    private static void meanMark() {
        Run x = withTwo();
        x.refuses("31 no marks", ARITHMETIC, ScoreSheaf::meanMark);
        x.hear(0, 1);
        x.hear(1, 0);
        x.mark(0, 0, 0, 0);
        is("31 a mark of 0", x.meanMark(), 0.0);
        x.mark(1, 0, 0, 20);
        is("31 two", x.meanMark(), 10.0);
        x.mark(2, 0, 0, 5);
        is("31 three", x.meanMark(), 25.0 / 3.0);
        x.mark(3, 0, 0, 20);
        is("31 of four none is left out", x.meanMark(), 11.25);
        x.mark(2, 1, 0, 1);
        is("31 of all rounds", x.meanMark(), 9.2);
        x.merge(1, 2, 0);
        is("31 of those that count", x.meanMark(), 1.0);
        x.affirm(1, 0, 0);
        is("31 affirmed", x.meanMark(), 10.5);
        x.hear(1, 1);
        is("31 one is gone", x.meanMark(), 20.0);
        x.merge(2, 1, 0);
        x.refuses("31 none counts", ARITHMETIC, ScoreSheaf::meanMark);
        Run y = withPieces(2);
        y.heardAndMarked(3, 0, 20, 1);
        y.heardAndMarked(0, 1, 7, 7, 6);
        is("31 of all pieces, and the hidden round", y.meanMark(), 41.0 / 5.0);
    }
}

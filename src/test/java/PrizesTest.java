/** The document's 'Prizes', and the promises 24 to 28 and 33. */
public final class PrizesTest {
    private static final Class<IndexOutOfBoundsException> INDEX = IndexOutOfBoundsException.class;
    private static final Class<IllegalArgumentException> ARGUMENT = IllegalArgumentException.class;
    private static final Class<UnsupportedOperationException> OPERATION = UnsupportedOperationException.class;
    private static final Class<IllegalStateException> STATE = IllegalStateException.class;

    private static final Due DUE = new Due();

    private PrizesTest() {
    }

    public static void main(String[] args) {
        DUE.test("so many coins, 1 to 9999", PrizesTest::coins);
        DUE.test("there are 12 prizes", PrizesTest::twelvePrizes);
        DUE.test("to the piece of a rank", PrizesTest::pieceOfARank);
        DUE.test("the round with the greatest number", PrizesTest::greatestRound);
        DUE.test("never heard", PrizesTest::neverHeard);
        DUE.test("as many parts as it has notes, and 1", PrizesTest::parts);
        DUE.test("cut, and by falling rests", PrizesTest::shares);
        DUE.test("of several the lower one", PrizesTest::likeRests);
        DUE.test("many coins and many parts", PrizesTest::manyParts);
        DUE.test("each version's own editors", PrizesTest::editors);
        DUE.test("prizes are kept, and sum up", PrizesTest::sumUp);
        DUE.test("a prize stays as it was given", PrizesTest::stays);
        DUE.test("partsOf", PrizesTest::partsOf);
        DUE.test("isSound", PrizesTest::isSound);
        DUE.end("PrizesTest");
    }

    private static void is(String what, Object got, Object want) {
        DUE.is(what, got, want);
    }

    private static Run of(int bars, int parts) {
        return Run.of(DUE, bars, parts);
    }

    private static Run withPieces(int count) {
        return Run.withPieces(DUE, count);
    }

    private static void coins() {
        Run x = of(1, 1);
        x.hear(0, 0);
        is("24 the least", x.give(0, 1), 0);
        is("24 two", x.give(0, 2), 1);
        is("24 one below the greatest", x.give(0, 9998), 2);
        is("24 the greatest", x.give(0, 9999), 3);
        is("27 all of them", x.got(0), 1 + 2 + 9998 + 9999);
        for (int no : new int[] {0, -1, 10000, 10001, Integer.MIN_VALUE, Integer.MAX_VALUE}) {
            x.refuses("24 coins " + no, ARGUMENT, s -> s.give(0, no));
            x.refuses("24 the rank comes first " + no, INDEX, s -> s.give(1, no));
        }
    }

    private static void twelvePrizes() {
        Run x = withPieces(2);
        x.hear(0, 0);
        x.refuses("25 none", INDEX, s -> s.named(0));
        x.refuses("26 none", INDEX, s -> s.share(0, 0));
        is("27 none", x.got(0), 0);
        for (int prize = 0; prize < 12; prize++) {
            is("24 number", x.give(0, prize + 1), prize);
            int no = prize + 1;
            is("25 of the last one", x.named(prize), 0);
            x.refuses("25 no further one", INDEX, s -> s.named(no));
            x.refuses("26 no further one", INDEX, s -> s.share(no, 0));
        }
        x.refuses("24 twelve", STATE, s -> s.give(0, 1));
        x.refuses("24 never heard before twelve", OPERATION, s -> s.give(1, 1));
        x.refuses("24 the coins before twelve", ARGUMENT, s -> s.give(0, 0));
        x.refuses("24 the coins before never heard", ARGUMENT, s -> s.give(1, 10000));
        x.refuses("24 the rank before twelve", INDEX, s -> s.give(2, 1));
        is("27 all twelve", x.got(0), 78);
    }

    private static void pieceOfARank() {
        Run x = withPieces(3);
        x.heardAndMarked(0, 2, 9);
        x.heardAndMarked(0, 0, 4);
        x.heardAndMarked(1, 1, 7);
        is("22", x.order(), "210");
        is("25 of the first rank", x.named(x.give(0, 5)), 2);
        is("25 of the second rank", x.named(x.give(1, 5)), 1);
        is("25 of the last rank", x.named(x.give(2, 5)), 0);
        x.refuses("24 no further rank", INDEX, s -> s.give(3, 5));
        x.refuses("24 no rank -1", INDEX, s -> s.give(-1, 5));
        x.heardAndMarked(2, 0, 8);
        is("25 of the first rank by then", x.named(x.give(0, 5)), 0);
    }

    /** For each set of rounds in which a piece is heard, each time in another version. */
    private static void greatestRound() {
        for (int rounds = 1; rounds < 16; rounds++) {
            for (int turn = 0; turn < 2; turn++) {
                Run x = withPieces(2);
                for (int round = 0; round < 4; round++) {
                    x.write(0, 1, 0, 0, round);
                    x.hear(round, 1);
                }
                for (int i = 0; i < 4; i++) {
                    int round = turn == 0 ? i : 3 - i;
                    if ((rounds >> round & 1) == 1) {
                        x.hear(round, 2 + (round + 1) % 4);
                    }
                }
                int greatest = 31 - Integer.numberOfLeadingZeros(rounds);
                is("25 heard in the rounds " + rounds, x.named(x.give(0, 3)), 2 + (greatest + 1) % 4);
                x.hear(greatest, 0);
                is("25 in place of it", x.named(x.give(0, 3)), 0);
                is("25 given before", x.named(0), 2 + (greatest + 1) % 4);
            }
        }
    }

    private static void neverHeard() {
        Run x = withPieces(2);
        x.hear(3, 1);
        x.refuses("24 another piece was heard", OPERATION, s -> s.give(0, 5));
        is("24 heard in the hidden round alone", x.named(x.give(1, 5)), 1);
        x.hear(0, 0);
        is("24 heard, without a mark", x.named(x.give(0, 5)), 0);
    }

    /** The shares of a prize for a piece of one bar and one part, heard in the version with this sheaf. */
    private static String sharesOf(String sheaf, int coins) {
        Run x = of(1, 1);
        int root = x.made(0, "0:60");
        x.hear(1, x.made(root, sheaf));
        return x.shares(x.give(0, coins));
    }

    private static void parts() {
        is("26 an empty row has one part", sharesOf("2:", 9), "0 0 9 0 0 0");
        is("26 1 and 2 parts", sharesOf("2: 3:5", 9), "0 0 3 6 0 0");
        is("26 2 and 4 parts", sharesOf("2:5 3:6,7,8", 9), "0 0 3 6 0 0");
        is("26 1 and 9 parts", sharesOf("0: 5:1,2,3,4,5,6,7,8", 100), "10 0 0 0 0 90");
        is("26 two rows of an editor", sharesOf("1:5 2:6 1:7,8", 7), "0 5 2 0 0 0");
        is("26 one editor", sharesOf("4:5,6", 9999), "0 0 0 0 9999 0");
        Run x = of(1, 1);
        x.hear(0, 0);
        x.give(0, 5);
        is("26 a first version is the editor 0's", x.shares(0), "5 0 0 0 0 0");
    }

    private static void shares() {
        // 1, 2 and 3 parts by the editors 3, 1 and 5
        String sheaf = "3: 1:5 5:6,7";
        String[] shares = {"0 0 0 0 0 1", "0 1 0 0 0 1", "0 1 0 1 0 1", "0 1 0 1 0 2", "0 2 0 1 0 2", "0 2 0 1 0 3",
            "0 2 0 1 0 4", "0 3 0 1 0 4"};
        int[] coins = {1, 2, 3, 4, 5, 6, 7, 8};
        for (int i = 0; i < coins.length; i++) {
            is("26 of " + coins[i] + " coins", sharesOf(sheaf, coins[i]), shares[i]);
        }
        is("26 a greater rest of the greater editor", sharesOf("0: 1:5,6", 1), "0 1 0 0 0 0");
        is("26 the greatest rest, not the greatest share", sharesOf("0:1,2,3,4 1:5,6", 2), "1 1 0 0 0 0");
        is("26 the greatest rest is of the least share", sharesOf("0:1,2,3,4 1:5,6", 5), "3 2 0 0 0 0");
        is("26 by falling rests, two coins", sharesOf("0:1 1:2,3 2:4,5,6,7", 5), "1 2 2 0 0 0");
    }

    private static void likeRests() {
        Run x = of(6, 1);
        int last = 0;
        for (int editor = 0; editor < 6; editor++) {
            last = x.write(last, 5 - editor, editor, 0);
        }
        x.hear(2, last);
        String[] shares = {"1 0 0 0 0 0", "1 1 0 0 0 0", "1 1 1 0 0 0", "1 1 1 1 0 0", "1 1 1 1 1 0", "1 1 1 1 1 1",
            "2 1 1 1 1 1", "2 2 1 1 1 1", "2 2 2 1 1 1", "2 2 2 2 1 1", "2 2 2 2 2 1", "2 2 2 2 2 2"};
        for (int i = 0; i < 12; i++) {
            is("26 coin by coin, " + (i + 1), x.shares(x.give(0, i + 1)), shares[i]);
        }
        is("26 of two the lower one", sharesOf("5:5 4:6", 1), "0 0 0 0 1 0");
        is("26 of two, by more coins", sharesOf("5:5 4:6", 9999), "0 0 0 0 5000 4999");
        is("26 like rests of unlike shares", sharesOf("3:1,2,3,4 1:5 2:6", 3), "0 1 1 1 0 0");
        is("26 like rests behind a greater one", sharesOf("5:1,2 2:3 4:4", 5), "0 0 2 0 1 2");
    }

    private static void manyParts() {
        Run x = of(8, 4);
        int last = 0;
        for (int slot = 0; slot < 32; slot++) {
            last = x.write(last, slot % 2 == 0 ? 1 : 4, slot / 4, slot % 4, 1, 2, 3, 4, 5, 6, 7, 8);
        }
        x.hear(3, last);
        is("28 all", x.partsOf(last, 63), 288);
        is("26 halves", x.shares(x.give(0, 9999)), "0 5000 0 0 4999 0");
        last = x.write(last, 0, 7, 3);
        x.hear(3, last);
        is("28 all but one", x.partsOf(last, 63), 280);
        is("26 parts 1, 144 and 135", x.shares(x.give(0, 9999)), "36 5142 0 0 4821 0");
        is("26 of as many coins as parts", x.shares(x.give(0, 280)), "1 144 0 0 135 0");
        is("26 of one coin more", x.shares(x.give(0, 281)), "1 145 0 0 135 0");
        is("26 of one coin less", x.shares(x.give(0, 279)), "1 143 0 0 135 0");
    }

    private static void editors() {
        Run x = of(1, 2);
        int a = x.write(0, 1, 0, 0, 1);
        int b = x.write(0, 3, 0, 0, 2, 3, 4);
        int m = x.merge(a, b, 5);
        x.hear(1, m);
        is("26 all rows of all sheaves, none by the merge", x.shares(x.give(0, 70)), "10 20 0 40 0 0");
        int over = x.write(m, 2, 0, 0, 9);
        x.hear(1, over);
        is("26 not those that were written over", x.shares(x.give(0, 3)), "1 0 2 0 0 0");
        x.hear(1, a);
        is("26 of the version that was heard", x.shares(x.give(0, 3)), "1 2 0 0 0 0");
        int like = x.merge(x.write(0, 4, 0, 0, 1), a, 5);
        x.hear(1, like);
        is("26 of like sheaves the first's editor", x.shares(x.give(0, 3)), "1 0 0 0 2 0");
    }

    private static void sumUp() {
        Run x = withPieces(2);
        x.hear(0, x.write(0, 2, 0, 0, 5, 6));
        x.hear(0, x.write(1, 3, 1, 1, 7));
        int[] sums = new int[6];
        for (int prize = 0; prize < 12; prize++) {
            x.give(prize % 2, 9999 - prize);
            String[] shares = x.shares(prize).split(" ");
            int sum = 0;
            for (int editor = 0; editor < 6; editor++) {
                sums[editor] += Integer.parseInt(shares[editor]);
                sum += Integer.parseInt(shares[editor]);
                is("27 of editor " + editor + " by " + (prize + 1), x.got(editor), sums[editor]);
            }
            is("26 the shares sum to the coins", sum, 9999 - prize);
        }
        is("27 in all", sums[0] + sums[2] + sums[3], 12 * 9999 - 66);
        is("27 nothing", x.got(1) + x.got(4) + x.got(5), 0);
        for (int no : new int[] {-1, 6}) {
            x.refuses("26 no editor " + no, INDEX, s -> s.share(0, no));
            x.refuses("27 no editor " + no, INDEX, s -> s.got(no));
        }
    }

    private static void stays() {
        Run x = withPieces(2);
        int a = x.write(0, 1, 0, 0, 5);
        x.hear(2, a);
        x.give(0, 100);
        x.give(0, 1);
        String shares = x.shares(0) + " / " + x.shares(1);
        is("26 as given", shares, "60 40 0 0 0 0 / 1 0 0 0 0 0");
        x.hear(2, x.write(0, 4, 0, 0, 6, 7));
        x.hear(3, 0);
        x.heardAndMarked(0, 1, 20);
        x.merge(a, x.write(0, 5, 0, 0, 8), 3);
        x.write(a, 5, 0, 0);
        x.give(0, 50);
        is("25 a prize stays", x.named(0) + " " + x.named(1), a + " " + a);
        is("26 a prize stays", x.shares(0) + " / " + x.shares(1), shares);
        is("27 one more", x.got(0) + " " + x.got(1), "111 40");
    }

    private static void partsOf() {
        Run x = of(1, 4);
        int last = x.made(x.made(0, "0:60"), "1:5,6 2: 3:7");
        last = x.write(last, 4, 0, 1, 1, 2, 3, 4, 5, 6, 7, 8);
        last = x.write(last, 5, 0, 2, 9);
        int[] parts = {1, 3, 1, 2, 9, 2};
        for (int editors = 0; editors < 64; editors++) {
            int sum = 0;
            for (int editor = 0; editor < 6; editor++) {
                sum += (editors >> editor & 1) * parts[editor];
            }
            is("28 of the editors " + editors, x.partsOf(last, editors), sum);
        }
        is("28 a first version", x.partsOf(0, 1) * 100 + x.partsOf(0, 62), 400);
        int version = last;
        for (int no : new int[] {-1, 64, 65, 128, Integer.MIN_VALUE, Integer.MAX_VALUE}) {
            x.refuses("28 editors " + no, ARGUMENT, s -> s.partsOf(version, no));
            x.refuses("28 no such version comes first " + no, INDEX, s -> s.partsOf(version + 1, no));
        }
    }

    /** No run of calls makes it false: the other promises see to that. */
    private static void isSound() {
        Run x = withPieces(5);
        is("33 like pieces", x.isSound(), true);
        x.piece(8, 4);
        int a = x.write(x.write(0, 1, 0, 0, 5), 1, 1, 1, 6);
        int b = x.write(x.write(0, 2, 0, 1, 5), 2, 1, 0, 6);
        int m = x.merge(a, b, 0);
        is("33 a merge is unlike its parents in more sheaves", x.unlike(m, a) + " " + x.isSound(), "2 true");
        is("33 written without any change", x.unlike(x.write(m, 3, 0, 0, 5), m) + " " + x.isSound(), "0 true");
        x.hear(0, m);
        x.marks(0, 0, 4, 5);
        for (int coins = 1; coins <= 12; coins++) {
            x.give(0, coins * 7);
        }
        is("33 twelve prizes", x.isSound(), true);
        x.merge(m, x.write(0, 5, 1, 1, 9), 0);
        is("33 marks asked again", x.asked() + " " + x.isSound(), "2 true");
        while (x.versions() < 40) {
            x.write(x.versions() - 1, 5, 0, 1, x.versions());
        }
        is("33 forty versions", x.isSound(), true);
    }
}

/** The document's 'Merges', and the promises 8 to 11, 15 and 16. */
public final class MergesTest {
    private static final Class<IndexOutOfBoundsException> INDEX = IndexOutOfBoundsException.class;
    private static final Class<IllegalArgumentException> ARGUMENT = IllegalArgumentException.class;
    private static final Class<UnsupportedOperationException> OPERATION = UnsupportedOperationException.class;
    private static final Class<IllegalStateException> STATE = IllegalStateException.class;

    private static final Due DUE = new Due();

    private MergesTest() {
    }

    public static void main(String[] args) {
        DUE.test("'b' is the rule at first", MergesTest::rules);
        DUE.test("there is no such rule", MergesTest::everyRule);
        DUE.test("if both sheaves are alike, this one", MergesTest::alike);
        DUE.test("like that of the base, the other one's", MergesTest::likeTheBase);
        DUE.test("'l'", MergesTest::greaterNumber);
        DUE.test("'n'", MergesTest::moreNotes);
        DUE.test("'b'", MergesTest::both);
        DUE.test("'b', at most 4 rows", MergesTest::atMostFourRows);
        DUE.test("the rule of the part", MergesTest::ruleOfThePart);
        DUE.test("sheaf by sheaf", MergesTest::sheafBySheaf);
        DUE.test("the rule as it is told by then", MergesTest::ruleByThen);
        DUE.test("the versions above one", MergesTest::above);
        DUE.test("above over forty versions", MergesTest::aboveOverForty);
        DUE.test("the base", MergesTest::base);
        DUE.test("the base of a merge", MergesTest::baseOfAMerge);
        DUE.test("to merge", MergesTest::merge);
        DUE.test("refused merges", MergesTest::refusedMerges);
        DUE.test("sheaves are alike", MergesTest::unlike);
        DUE.test("unlike, none to many", MergesTest::unlikeMany);
        DUE.test("doubts", MergesTest::doubts);
        DUE.end("MergesTest");
    }

    private static void is(String what, Object got, Object want) {
        DUE.is(what, got, want);
    }

    private static Run of(int bars, int parts) {
        return Run.of(DUE, bars, parts);
    }

    private static Run withPieces(int count) {
        return Run.withPieces(DUE, count);
    }

    private static void rules() {
        Run x = new Run(DUE);
        for (int piece = 0; piece < 6; piece++) {
            x.piece(1, 4);
        }
        for (int piece = 0; piece < 6; piece++) {
            for (int part = 0; part < 4; part++) {
                is("8 'b' at first", x.rule(piece, part, 'l'), 'b');
                is("8 'l' before", x.rule(piece, part, 'n'), 'l');
                is("8 'n' before", x.rule(piece, part, 'n'), 'n');
                is("8 'n' before, once more", x.rule(piece, part, "lnb".charAt(part % 3)), 'n');
            }
        }
        for (int piece = 0; piece < 6; piece++) {
            for (int part = 0; part < 4; part++) {
                is("8 of its own piece and part", x.rule(piece, part, 'b'), "lnb".charAt(part % 3));
            }
        }
    }

    private static void everyRule() {
        Run x = of(1, 2);
        x.rule(0, 1, 'n');
        for (int sign = 0; sign < 65536; sign++) {
            char rule = (char) sign;
            boolean known = rule == 'l' || rule == 'n' || rule == 'b';
            is("8 rule " + sign, x.answerOf(s -> s.rule(0, 1, rule)), known ? 'n' : "throws.IllegalArgumentException");
        }
        for (char no : new char[] {0, 'a', 'c', 'k', 'm', 'o', 'B', 'L', 'N', 'l' + 256, 65535}) {
            x.refuses("8 no such rule", ARGUMENT, s -> s.rule(0, 1, no));
            x.refuses("8 the part comes first", INDEX, s -> s.rule(0, 2, no));
            x.refuses("8 the piece comes first", INDEX, s -> s.rule(1, 0, no));
        }
    }

    /**
     * The sheaf that a merge of two versions has, whose sheaves were made below one root, first that of
     * the first version, or first that of the other one, whose number then is the lower one.
     */
    private static String merged(char rule, String root, String first, String other, boolean firstAhead) {
        Run x = of(1, 1);
        int base = root.equals("0:") ? 0 : x.made(0, root);
        int a = firstAhead ? x.made(base, first) : -1;
        int b = x.made(base, other);
        if (!firstAhead) {
            a = x.made(base, first);
        }
        is("the sheaves to merge", x.sheaf(a, 0, 0) + " / " + x.sheaf(b, 0, 0), first + " / " + other);
        x.rule(0, 0, rule);
        return x.sheaf(x.merge(a, b, 0), 0, 0);
    }

    /** The numbers of the versions do not matter. */
    private static void merges(String what, char rule, String root, String first, String other, String want) {
        String call = what + ", " + rule + ": " + first + " and " + other;
        is(call, merged(rule, root, first, other, true), want);
        is(call + ", made the other way round", merged(rule, root, first, other, false), want);
    }

    private static void mergesByAnyRule(String what, String root, String first, String other, String want) {
        for (char rule : new char[] {'l', 'n', 'b'}) {
            merges(what, rule, root, first, other, want);
        }
    }

    private static void alike() {
        String what = "of like sheaves that of the first";
        mergesByAnyRule(what, "0:", "1:5", "2:5", "1:5");
        mergesByAnyRule(what, "0:", "2:5", "1:5", "2:5");
        mergesByAnyRule(what, "0:9", "1:", "2:", "1:");
        mergesByAnyRule(what, "0:", "1:5,6,7,8,5,6,7,8", "2:5,6,7,8,5,6,7,8", "1:5,6,7,8,5,6,7,8");
        mergesByAnyRule(what, "0:", "1:5 2:6", "3:5 4:6", "1:5 2:6");
        mergesByAnyRule(what, "0:", "3:5 4:6", "1:5 1:6", "3:5 4:6");
        mergesByAnyRule(what, "0:9", "1:1 2: 3:3 4:4", "5:1 5: 5:3 5:4", "1:1 2: 3:3 4:4");
        mergesByAnyRule(what + ", like the base too", "0:9", "1:9", "2:9", "1:9");
        mergesByAnyRule(what + ", like the base too", "0:", "2:", "1:", "2:");
    }

    private static void likeTheBase() {
        String what = "like the base, the other one's";
        mergesByAnyRule(what, "0:9", "1:9", "2:5", "2:5");
        mergesByAnyRule(what, "0:9", "2:5", "1:9", "2:5");
        mergesByAnyRule(what, "0:", "1:", "2:5", "2:5");
        mergesByAnyRule(what, "0:", "2:5", "1:", "2:5");
        mergesByAnyRule(what + ", of fewer notes", "0:9,9,9", "1:9,9,9", "2:5", "2:5");
        mergesByAnyRule(what + ", of fewer notes", "0:9,9,9", "2:", "1:9,9,9", "2:");
        mergesByAnyRule(what + ", of more rows", "0:9", "2:5 3:6", "1:9", "2:5 3:6");
        Run x = of(1, 2);
        int base = x.made(0, "1:5 2:6");
        int untouched = x.write(base, 3, 0, 1, 7);
        int written = x.write(base, 4, 0, 0, 5);
        is(what + ", of several rows", x.sheaf(x.merge(untouched, written, 0), 0, 0), "4:5");
        is(what + ", of several rows, turned", x.sheaf(x.merge(written, untouched, 0), 0, 0), "4:5");
        is("both changes", x.sheaf(x.merge(written, untouched, 0), 0, 1), "3:7");
        int more = x.merge(x.write(0, 5, 0, 0, 8), base, 0);
        is(what + ", with the base's rows", x.sheaf(x.merge(untouched, more, 0), 0, 0), "5:8 1:5 2:6");
        int back = x.write(x.write(base, 5, 0, 1, 8), 5, 0, 1);
        is("changed and changed back is like the base", x.sheaf(x.merge(back, untouched, 0), 0, 1), "3:7");
    }

    private static void greaterNumber() {
        String[][] pairs = {{"1:5", "2:6"}, {"1:5", "2:6,7"}, {"1:", "2:6"}, {"1:5 2:6", "3:7"}, {"1:5", "2:5 3:6"},
            {"1:5 2:6", "3:6 4:5"}};
        for (String[] pair : pairs) {
            String call = pair[0] + " and " + pair[1];
            is("'l', the other one is greater: " + call, merged('l', "0:9", pair[0], pair[1], true), pair[1]);
            is("'l', the first is greater: " + call, merged('l', "0:9", pair[0], pair[1], false), pair[0]);
            is("'l', turned: " + call, merged('l', "0:9", pair[1], pair[0], true), pair[0]);
            is("'l', turned, the first is greater: " + call, merged('l', "0:9", pair[1], pair[0], false), pair[1]);
        }
    }

    private static void moreNotes() {
        String[][] moreAndFewer = {{"1:5,6", "2:7"}, {"1:5", "2:"}, {"1:0", "2:"},
            {"1:1,2,3,4,5,6,7,8", "2:1,2,3,4,5,6,7"}, {"1:1,2,3", "2:98 3:99"}, {"1:1 2:2,3", "3:98,99"},
            {"1:1,1", "2: 3:7"},
            {"1:1 2:2 3:3 4:4", "5:6 0:7 1:8"}, {"1:1,2,3,4,5", "2:6 3:7 4:8 5:9"}, {"1:1,2 2:3,4 3:5,6 4:7,8,9",
            "5:1,2,3,4,5,6,7,8"}};
        for (String[] pair : moreAndFewer) {
            merges("more notes in all", 'n', "0:60", pair[0], pair[1], pair[0]);
            merges("more notes in all", 'n', "0:60", pair[1], pair[0], pair[0]);
        }
        String[][] asMany = {{"1:5", "2:6"}, {"1:5,6", "2:6,5"}, {"1:5,6", "2:5 3:6"}, {"1:5 2:6", "3:6 4:5"},
            {"1:5", "2: 3:7"}, {"1:5 2:", "3: 4:5"}, {"1:1 2:2 3:3 4:4", "5:9,9,9,9"},
            {"1:1,2,3,4,5,6,7,8", "2:9,9,9,9,9,9,9 3:9"}};
        for (String[] pair : asMany) {
            merges("of as many that of the first", 'n', "0:60", pair[0], pair[1], pair[0]);
            merges("of as many that of the first", 'n', "0:60", pair[1], pair[0], pair[1]);
        }
    }

    private static void both() {
        String what = "the rows of the first, then those of the other one";
        merges(what, 'b', "0:", "1:5", "2:6", "1:5 2:6");
        merges(what, 'b', "0:", "2:6", "1:5", "2:6 1:5");
        merges(what, 'b', "0:", "1:5,6", "2:6,5", "1:5,6 2:6,5");
        merges(what, 'b', "0:", "1:5", "2:5,5", "1:5 2:5,5");
        merges(what, 'b', "0:", "1:5,6", "2:5", "1:5,6 2:5");
        merges(what, 'b', "0:", "1:1,2,3,4,5,6,7,8", "2:1,2,3,4,5,6,7,9", "1:1,2,3,4,5,6,7,8 2:1,2,3,4,5,6,7,9");
        merges(what, 'b', "0:", "1:9,2", "2:8,2", "1:9,2 2:8,2");
        merges(what + ", not that of the base", 'b', "0:60", "1:5", "2:6", "1:5 2:6");
        what = "a row without a note is a row";
        merges(what, 'b', "0:9", "1:", "2:5", "1: 2:5");
        merges(what, 'b', "0:9", "1:5", "2:", "1:5 2:");
        merges(what, 'b', "0:9", "1:0", "2:", "1:0 2:");
        merges(what, 'b', "0:9", "1: 2:5", "3: 4:6", "1: 2:5 4:6");
        what = "not those that are like one that is there";
        merges(what, 'b', "0:", "1:5 2:6", "3:6 4:7", "1:5 2:6 4:7");
        merges(what, 'b', "0:", "1:5 2:6", "3:6", "1:5 2:6");
        merges(what, 'b', "0:", "1:6", "2:5 3:6", "1:6 2:5");
        merges(what, 'b', "0:", "1:5 2:6", "3:6 4:5", "1:5 2:6");
        merges(what, 'b', "0:9", "1:5 2:", "3: 4:8", "1:5 2: 4:8");
        merges(what, 'b', "0:", "1:5 2:6 3:7", "3:7 2:6 4:5", "1:5 2:6 3:7");
    }

    private static void atMostFourRows() {
        String what = "at most 4 rows";
        merges(what, 'b', "0:", "1:1 2:2 3:3", "4:4", "1:1 2:2 3:3 4:4");
        merges(what, 'b', "0:", "4:4", "1:1 2:2 3:3", "4:4 1:1 2:2 3:3");
        merges(what, 'b', "0:", "1:1 2:2", "3:3 4:4", "1:1 2:2 3:3 4:4");
        what = "further ones being lost";
        merges(what, 'b', "0:", "1:1 2:2 3:3", "4:4 5:5", "1:1 2:2 3:3 4:4");
        merges(what, 'b', "0:", "1:1", "2:2 3:3 4:4 5:5", "1:1 2:2 3:3 4:4");
        merges(what, 'b', "0:", "1:1 2:2", "3:3 4:4 5:5", "1:1 2:2 3:3 4:4");
        merges(what, 'b', "0:", "5:5,6,7,8", "1:1 2:2 3:3 4:4", "5:5,6,7,8 1:1 2:2 3:3");
        what = "the rows of the first all stay";
        merges(what, 'b', "0:", "1:1 2:2 3:3 4:4", "5:5", "1:1 2:2 3:3 4:4");
        merges(what, 'b', "0:", "1:1 2:2 3:3 4:4", "5:5 1:6 2:7 3:8", "1:1 2:2 3:3 4:4");
        merges(what, 'b', "0:", "1:1 2:2 3:3 4:4", "5:4 1:3 2:8", "1:1 2:2 3:3 4:4");
        what = "like ones take no place";
        merges(what, 'b', "0:", "1:1 2:2 3:3", "4:2 5:5", "1:1 2:2 3:3 5:5");
        merges(what, 'b', "0:", "1:1 2:2 3:3", "4:2 5:3 0:1 4:4", "1:1 2:2 3:3 4:4");
        merges(what, 'b', "0:", "1:1 2:2 3:3", "4:2 5:5 0:6", "1:1 2:2 3:3 5:5");
    }

    private static void ruleOfThePart() {
        Run x = of(2, 4);
        int a = 0;
        int b = 0;
        for (int part = 0; part < 4; part++) {
            a = x.write(a, 1, 1, part, 1, 2);
        }
        for (int part = 0; part < 4; part++) {
            b = x.write(b, 2, 1, part, 3);
        }
        String[] rules = {"lnbb", "blnb", "bbln", "nbbl", "llll", "nnnn"};
        for (String rule : rules) {
            Run y = x.fork();
            for (int part = 0; part < 4; part++) {
                y.rule(0, part, rule.charAt(part));
            }
            int m = y.merge(a, b, 0);
            for (int part = 0; part < 4; part++) {
                char own = rule.charAt(part);
                is("the rule of part " + part + " of " + rule, y.sheaf(m, 1, part),
                    own == 'l' ? "2:3" : own == 'n' ? "1:1,2" : "1:1,2 2:3");
                is("bar 0 is untouched", y.sheaf(m, 0, part), "0:");
            }
        }
        Run y = withPieces(2);
        int c = y.write(1, 1, 0, 0, 1);
        int d = y.write(1, 2, 0, 0, 2);
        y.rule(0, 0, 'l');
        is("the rule of the piece", y.sheaf(y.merge(c, d, 0), 0, 0), "1:1 2:2");
        y.rule(1, 0, 'l');
        is("the rule of the piece, told", y.sheaf(y.merge(c, d, 0), 0, 0), "2:2");
    }

    /** In each slot another case: none changed, the first, the other one, both alike, both unlike. */
    private static void sheafBySheaf() {
        for (int turn = 0; turn < 5; turn++) {
            Run x = of(8, 4);
            int a = 0;
            int b = 0;
            for (int slot = turn; slot < 32; slot += 2) {
                int kind = (slot + turn) % 5;
                a = kind == 1 || kind > 2 ? x.write(a, 1, slot / 4, slot % 4, slot) : a;
                b = kind == 2 || kind > 2 ? x.write(b, 2, slot / 4, slot % 4, kind == 3 ? slot : 50) : b;
            }
            int m = x.merge(b, a, 3);
            for (int slot = 0; slot < 32; slot++) {
                int kind = slot < turn || (slot - turn) % 2 != 0 ? 0 : (slot + turn) % 5;
                String[] wants = {"0:", "1:" + slot, "2:50", "2:" + slot, "2:50 1:" + slot};
                is("slot " + slot + ", turn " + turn, x.sheaf(m, slot / 4, slot % 4), wants[kind]);
            }
        }
    }

    private static void ruleByThen() {
        Run x = of(1, 1);
        int a = x.write(0, 1, 0, 0, 5);
        int b = x.write(0, 2, 0, 0, 6, 7);
        int byBoth = x.merge(a, b, 0);
        x.rule(0, 0, 'n');
        int byNotes = x.merge(a, b, 0);
        x.rule(0, 0, 'l');
        int byNumber = x.merge(b, a, 0);
        x.rule(0, 0, 'b');
        is("versions stay as they were merged", x.sheaf(byBoth, 0, 0) + " / " + x.sheaf(byNotes, 0, 0) + " / "
            + x.sheaf(byNumber, 0, 0), "1:5 2:6,7 / 2:6,7 / 2:6,7");
        is("'b' told again", x.sheaf(x.merge(b, a, 0), 0, 0), "2:6,7 1:5");
    }

    private static void above() {
        Run x = withPieces(2);
        int a = x.write(0, 1, 0, 0);
        int b = x.write(0, 1, 0, 1);
        int c = x.write(a, 1, 1, 0);
        int m = x.merge(c, b, 0);
        int far = x.write(m, 1, 0, 0);
        int[][] parents = {{0}, {1}, {0}, {0}, {a}, {c, b}, {m}};
        boolean[][] want = new boolean[7][7];
        for (int version = 0; version < 7; version++) {
            want[version][version] = true;
            for (int parent : parents[version]) {
                for (int upper = 0; upper < version; upper++) {
                    want[upper][version] |= want[upper][parent];
                }
            }
        }
        for (int upper = 0; upper < 7; upper++) {
            for (int lower = 0; lower < 7; lower++) {
                is("11 " + upper + " above " + lower, x.isAbove(upper, lower), want[upper][lower]);
            }
        }
        is("11 itself", x.isAbove(far, far), true);
        is("11 over both parents", x.isAbove(a, far) && x.isAbove(b, far), true);
        is("11 a child is not", x.isAbove(far, m), false);
        is("11 a sibling is not", x.isAbove(a, b) || x.isAbove(b, a), false);
        is("11 of another piece", x.isAbove(1, far) || x.isAbove(0, 1) || x.isAbove(1, 0), false);
    }

    private static void aboveOverForty() {
        Run x = of(1, 1);
        for (int version = 0; version < 38; version++) {
            x.write(version, 1, 0, 0);
        }
        int sibling = x.write(0, 2, 0, 0);
        for (int version = 0; version < 39; version++) {
            is("11 in a long line " + version, x.isAbove(version, 38), true);
            is("11 not up the line " + version, x.isAbove(38, version), version == 38);
            is("11 not over the sibling " + version, x.isAbove(version, sibling), version == 0);
            is("10 in a long line " + version, x.base(38, version), version);
            is("10 of the sibling " + version, x.base(sibling, version), 0);
        }
        is("10 the last one itself", x.base(39, 39), 39);
        x.refuses("11 no forty-first", INDEX, s -> s.isAbove(40, 0));
        x.refuses("10 no forty-first", INDEX, s -> s.base(0, 40));
    }

    private static void base() {
        Run x = withPieces(2);
        int a = x.write(0, 1, 0, 0);
        int b = x.write(0, 1, 0, 1);
        int c = x.write(a, 1, 1, 0);
        int m = x.merge(c, b, 0);
        int n = x.merge(b, c, 0);
        int far = x.write(m, 1, 0, 0);
        int[][] bases = {{a, b, 0}, {b, c, 0}, {a, c, a}, {c, c, c}, {0, 0, 0}, {0, far, 0}, {m, n, c}, {far, n, c},
            {far, b, b}, {far, a, a}, {far, m, m}, {m, c, c}, {1, 1, 1}};
        for (int[] base : bases) {
            is("10 of " + base[0] + " and " + base[1], x.base(base[0], base[1]), base[2]);
            is("10 of " + base[1] + " and " + base[0], x.base(base[1], base[0]), base[2]);
        }
        x.refuses("10 unlike pieces", OPERATION, s -> s.base(1, a));
        x.refuses("10 unlike pieces", OPERATION, s -> s.base(a, 1));
        x.refuses("10 no such version comes first", INDEX, s -> s.base(1, 8));
        Run y = of(1, 1);
        int d = y.write(0, 1, 0, 0, 5);
        int e = y.write(0, 2, 0, 0, 6);
        int o = y.merge(e, d, 0);
        int p = y.merge(d, e, 0);
        is("10 the greatest number, not the nearest of the first", y.base(o, p), e);
        is("10 of more that are above both", y.base(y.merge(o, p, 0), y.write(p, 1, 0, 0)), p);
    }

    /** A merge looks at the base with the greatest number, not at one further up. */
    private static void baseOfAMerge() {
        for (char rule : new char[] {'l', 'n', 'b'}) {
            Run x = of(1, 2);
            int root = x.write(0, 1, 0, 0, 5);
            int a = x.write(root, 2, 0, 1, 6);
            int back = x.write(root, 3, 0, 0);
            x.rule(0, 0, rule);
            is("like the first version, unlike the base, " + rule, x.sheaf(x.merge(back, a, 0), 0, 0), "3:");
            is("like the first version, turned, " + rule, x.sheaf(x.merge(a, back, 0), 0, 0), "3:");
        }
        Run x = of(1, 1);
        int b = x.write(0, 2, 0, 0, 6);
        int c = x.write(0, 1, 0, 0, 5);
        int m = x.merge(c, b, 0);
        int n = x.merge(b, c, 0);
        int likeC = x.write(m, 3, 0, 0, 5);
        int likeB = x.write(m, 4, 0, 0, 6);
        x.rule(0, 0, 'l');
        is("like the greater of two", x.sheaf(x.merge(likeC, n, 0), 0, 0), "2:6 1:5");
        is("like the lower of two, by the rule", x.sheaf(x.merge(likeB, n, 0), 0, 0), "4:6");
    }

    private static void merge() {
        Run x = of(1, 2);
        int a = x.write(0, 1, 0, 0, 5);
        int b = x.write(0, 2, 0, 1, 6);
        is("9 number", x.merge(a, b, 5), 3);
        is("9 the same ones again", x.merge(a, b, 0), 4);
        is("9 turned", x.merge(b, a, 0), 5);
        is("9 merged ones", x.merge(3, 5, 0), 6);
        is("9 versions of unlike depth", x.merge(6, x.write(0, 3, 0, 0), 0), 8);
        is("9 the parents stay", x.sheaf(a, 0, 0) + x.sheaf(a, 0, 1) + x.sheaf(b, 0, 0) + x.sheaf(b, 0, 1),
            "1:50:0:2:6");
        is("9 of the piece of its parents", x.pieceOf(8), 0);
        int both = x.merge(x.write(0, 1, 0, 0, 7), x.write(0, 2, 0, 0, 8), 3);
        is("9 two rows", x.sheaf(both, 0, 0), "1:7 2:8");
        int more = x.merge(both, a, 4);
        is("9 a merged one and a written one", x.sheaf(more, 0, 0), "1:7 2:8 1:5");
        is("9 the merged one stays", x.sheaf(both, 0, 0), "1:7 2:8");
    }

    private static void refusedMerges() {
        Run x = withPieces(2);
        int a = x.write(0, 1, 0, 0, 5);
        int b = x.write(0, 2, 0, 1, 6);
        int m = x.merge(a, b, 0);
        int low = x.write(m, 3, 1, 1, 7);
        int aside = x.write(1, 3, 1, 1, 7);
        x.hear(0, a);
        x.hear(1, b);
        x.mark(0, 0, 0, 9);
        x.mark(1, 1, 0, 8);
        int[][] refused = {{a, a}, {0, 0}, {0, a}, {a, 0}, {a, m}, {m, a}, {b, m}, {m, b}, {0, low}, {low, 0},
            {a, low}, {low, a}, {low, b}, {m, low}, {low, m}, {a, 1}, {1, a}, {0, 1}, {aside, low}, {1, aside}};
        for (int[] pair : refused) {
            String call = pair[0] + " and " + pair[1];
            x.refuses("9 " + call, OPERATION, s -> s.merge(pair[0], pair[1], 0));
            x.refuses("9 the editor comes first: " + call, ARGUMENT, s -> s.merge(pair[0], pair[1], 6));
        }
        x.refuses("9 no such version comes first", INDEX, s -> s.merge(7, a, 6));
        x.refuses("9 no such other one comes first", INDEX, s -> s.merge(a, 7, 6));
        while (x.versions() < 40) {
            x.write(0, 0, 0, 0);
        }
        x.refuses("9 forty versions", STATE, s -> s.merge(a, b, 5));
        x.refuses("9 one above before forty", OPERATION, s -> s.merge(a, low, 5));
        x.refuses("9 unlike pieces before forty", OPERATION, s -> s.merge(a, aside, 5));
        x.refuses("9 the editor before forty", ARGUMENT, s -> s.merge(a, b, 6));
        x.refuses("9 no such version before forty", INDEX, s -> s.merge(40, b, 0));
    }

    private static int unlikeOf(String sheaf, String other) {
        Run x = of(1, 1);
        int base = x.made(0, "0:60");
        int a = x.made(base, sheaf);
        int b = x.made(base, other);
        is("16 turned", x.unlike(a, b), x.unlike(b, a));
        return x.unlike(a, b);
    }

    private static void unlike() {
        String[][] alike = {{"1:5", "2:5"}, {"1:", "2:"}, {"1:5 2:6", "2:5 1:6"}, {"1:0", "2:0"},
            {"1:1,2,3,4,5,6,7,8", "2:1,2,3,4,5,6,7,8"}, {"1:1 1:2 1:3 1:4", "2:1 3:2 4:3 5:4"}};
        for (String[] pair : alike) {
            is("16 alike: " + pair[0] + " and " + pair[1], unlikeOf(pair[0], pair[1]), 0);
        }
        String[][] unlike = {{"1:5", "1:6"}, {"1:5", "1:"}, {"1:0", "1:"}, {"1:5", "1:5,5"}, {"1:5,6", "1:6,5"},
            {"1:5,6", "1:5"}, {"1:5,6", "1:6"}, {"1:5 2:6", "2:6 1:5"}, {"1:5 2:6", "1:5"}, {"1:5 2:6", "2:6"},
            {"1:5,6 1:7", "1:5 1:6,7"}, {"1:5 1:6", "1:5,6"}, {"1:5 1:", "1:5"}, {"1:5 1:", "1: 1:5"},
            {"1:1 1:2 1:3 1:4", "1:1 1:2 1:3 1:5"}, {"1:1 1:2 1:3 1:4", "1:1 1:2 1:3"},
            {"1:1,2,3,4,5,6,7,8", "1:1,2,3,4,5,6,7,9"}, {"1:1,2,3,4,5,6,7,8", "1:9,2,3,4,5,6,7,8"}};
        for (String[] pair : unlike) {
            is("16 unlike: " + pair[0] + " and " + pair[1], unlikeOf(pair[0], pair[1]), 1);
        }
    }

    private static void unlikeMany() {
        Run x = of(8, 4);
        int last = 0;
        for (int slot = 0; slot < 32; slot++) {
            last = x.write(last, 1, slot / 4, slot % 4, slot);
            is("16 so many", x.unlike(0, last), slot + 1);
            is("16 one more", x.unlike(last - 1, last), 1);
        }
        is("16 the same", x.unlike(last, last) + x.unlike(0, 0), 0);
        x.piece(8, 4);
        int other = x.firstOf(1);
        x.refuses("16 unlike pieces", OPERATION, s -> s.unlike(0, other));
        x.refuses("16 unlike pieces, turned", OPERATION, s -> s.unlike(other, 0));
        x.refuses("16 no such version comes first", INDEX, s -> s.unlike(other, 34));
    }

    private static void doubts() {
        Run x = of(8, 4);
        int a = 0;
        int b = 0;
        for (int i = 0; i < 19; i++) {
            a = x.write(a, 1, (i * 5 + 3) % 32 / 4, (i * 5 + 3) % 4, i);
        }
        for (int i = 0; i < 18; i++) {
            b = x.write(b, 2, (i * 5 + 3) % 32 / 4, (i * 5 + 3) % 4, 50);
        }
        is("15 none", x.doubts(0) + x.doubts(a) + x.doubts(b), 0);
        is("15 many", x.doubts(x.merge(a, b, 0)), 18);
        is("15 one less when it is written", x.doubts(x.write(38, 3, 0, 3, 50)), 17);
        Run y = of(1, 2);
        for (int rows = 1; rows <= 4; rows++) {
            Run z = y.fork();
            int made = z.made(0, "1:1 2:2 3:3 4:4".substring(0, 4 * rows - 1));
            is("15 of " + rows + " rows", z.doubts(made), rows == 1 ? 0 : 1);
        }
        y.refuses("15 no such version", INDEX, s -> s.doubts(1));
    }
}

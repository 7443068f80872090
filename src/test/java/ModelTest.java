import java.util.Random;

/** Long runs of drawn calls, with fixed seeds, on the class and on the plain model side by side. */
public final class ModelTest {
    private static final int RUNS = 3000;
    /** Behind so many drawn calls there is room to ask for every version, within the 512 of an object. */
    private static final int DRAWN_CALLS = 470;

    private final Due due;
    private final Random random;
    private final int seed;
    private final ScoreSheaf sheaf = new ScoreSheaf();
    private final PlainContest plain = new PlainContest();
    private int calls;

    private ModelTest(Due due, int seed) {
        this.due = due;
        this.seed = seed;
        this.random = new Random(seed);
    }

    public static void main(String[] args) {
        Due due = new Due();
        for (int seed = 0; seed < RUNS; seed++) {
            new ModelTest(due, seed).run();
        }
        due.end("ModelTest");
    }

    private void run() {
        boolean small = random.nextInt(3) > 0;
        while (calls < DRAWN_CALLS) {
            step(small);
        }
        for (int v = 0; v < plain.versions(); v++) {
            int version = v;
            both("checksum " + v, () -> sheaf.checksum(version), () -> plain.checksum(version));
        }
    }

    private void both(String what, Due.Call got, Due.Call want) {
        calls++;
        due.is("seed " + seed + ": " + what, Due.answerOf(got), Due.answerOf(want));
    }

    /** Mostly within 0 to most, now and then one off either end, or far off. */
    private int draw(int most) {
        int way = random.nextInt(60);
        if (way == 0) return -1;
        if (way == 1) return most + 1;
        if (way == 2) return random.nextInt();
        return most < 0 ? 0 : random.nextInt(most + 1);
    }

    private int version() {
        return draw(plain.versions() - 1);
    }

    private int late() {
        int v = draw(7);
        return v < 0 || v > 7 ? v : Math.max(0, plain.versions() - 1 - v);
    }

    private int piece() {
        return draw(plain.pieces.size() - 1);
    }

    private void step(boolean small) {
        int kind = random.nextInt(100);
        if (kind < 2 || plain.versions() == 0) addPiece(small);
        else if (kind < 20) type(small);
        else if (kind < 24) write(small);
        else if (kind < 30) merge();
        else if (kind < 34) tellRule();
        else if (kind < 50) askVersions(small);
        else if (kind < 60) hear();
        else if (kind < 78) mark();
        else if (kind < 90) askRanks();
        else prizes();
    }

    private void addPiece(boolean small) {
        int bars = small ? draw(1) + 1 : draw(7) + 1;
        int parts = small ? draw(1) + 1 : draw(3) + 1;
        both("piece", () -> sheaf.piece(bars, parts), () -> plain.piece(bars, parts));
    }

    private void type(boolean small) {
        int note = small ? draw(1) : draw(99);
        if (random.nextInt(12) == 0) both("wipe", sheaf::wipe, plain::wipe);
        else both("note " + note, () -> sheaf.note(note), () -> plain.note(note));
    }

    private void write(boolean small) {
        int v = random.nextBoolean() ? late() : version();
        int e = draw(5);
        int b = draw(small ? 1 : 7);
        int p = draw(small ? 1 : 3);
        both("write " + v + " " + e + " " + b + " " + p, () -> sheaf.write(v, e, b, p), () -> plain.write(v, e, b, p));
    }

    private void merge() {
        int v = late();
        int o = random.nextBoolean() ? late() : version();
        int e = draw(5);
        both("merge " + v + " " + o, () -> sheaf.merge(v, o, e), () -> plain.merge(v, o, e));
        both("asked", sheaf::asked, plain::asked);
    }

    private void tellRule() {
        int p = piece();
        int part = draw(3);
        char r = random.nextInt(20) == 0 ? (char) random.nextInt(65536) : "lnbbb".charAt(random.nextInt(5));
        both("rule", () -> sheaf.rule(p, part, r), () -> plain.rule(p, part, r));
    }

    private void askVersions(boolean small) {
        int v = version();
        int o = version();
        int b = draw(small ? 1 : 7);
        int p = draw(small ? 1 : 3);
        int row = draw(2);
        int place = draw(2);
        int bits = draw(63);
        int pc = piece();
        switch (random.nextInt(12)) {
            case 0 -> both("firstOf", () -> sheaf.firstOf(pc), () -> plain.firstOf(pc));
            case 1 -> both("pieceOf", () -> sheaf.pieceOf(v), () -> plain.pieceOf(v));
            case 2 -> both("base", () -> sheaf.base(v, o), () -> plain.base(v, o));
            case 3 -> both("isAbove", () -> sheaf.isAbove(v, o), () -> plain.isAbove(v, o));
            case 4 -> both("rows", () -> sheaf.rows(v, b, p), () -> plain.rows(v, b, p));
            case 5 -> both("noteAt", () -> sheaf.noteAt(v, b, p, row, place), () -> plain.noteAt(v, b, p, row, place));
            case 6 -> both("writer", () -> sheaf.writer(v, b, p, row), () -> plain.writer(v, b, p, row));
            case 7 -> both("doubts", () -> sheaf.doubts(v), () -> plain.doubts(v));
            case 8 -> both("unlike", () -> sheaf.unlike(v, o), () -> plain.unlike(v, o));
            case 9 -> both("partsOf", () -> sheaf.partsOf(v, bits), () -> plain.partsOf(v, bits));
            case 10 -> both("versions", sheaf::versions, plain::versions);
            default -> both("checksum", () -> sheaf.checksum(v), () -> plain.checksum(v));
        }
    }

    private void hear() {
        int r = draw(3);
        int v = random.nextInt(3) == 0 ? version() : late();
        both("hear", () -> sheaf.hear(r, v), () -> plain.hear(r, v));
    }

    private void mark() {
        int j = draw(4);
        int r = draw(3);
        int p = piece();
        int m = random.nextBoolean() ? draw(2) : draw(20);
        if (random.nextInt(4) == 0) both("affirm", () -> sheaf.affirm(j, r, p), () -> plain.affirm(j, r, p));
        else both("mark", () -> sheaf.mark(j, r, p, m), () -> plain.mark(j, r, p, m));
    }

    private void askRanks() {
        int r = draw(3);
        int p = piece();
        switch (random.nextInt(7)) {
            case 0 -> both("asked", sheaf::asked, plain::asked);
            case 1 -> both("points", () -> sheaf.points(r, p), () -> plain.points(r, p));
            case 2, 3 -> both("ranked", () -> sheaf.ranked(p), () -> plain.ranked(p));
            case 4 -> both("isTied", () -> sheaf.isTied(p), () -> plain.isTied(p));
            case 5 -> both("countShare", sheaf::countShare, plain::countShare);
            default -> both("meanMark", sheaf::meanMark, plain::meanMark);
        }
    }

    private void prizes() {
        int rank = piece();
        int coins = random.nextInt(4) == 0 ? draw(9998) + 1 : draw(20);
        int n = draw(plain.prizes.size() - 1);
        int e = draw(5);
        switch (random.nextInt(5)) {
            case 0 -> both("give", () -> sheaf.give(rank, coins), () -> plain.give(rank, coins));
            case 1 -> both("named", () -> sheaf.named(n), () -> plain.named(n));
            case 2 -> both("share", () -> sheaf.share(n, e), () -> plain.share(n, e));
            case 3 -> both("got", () -> sheaf.got(e), () -> plain.got(e));
            default -> both("isSound", sheaf::isSound, plain::isSound);
        }
    }
}

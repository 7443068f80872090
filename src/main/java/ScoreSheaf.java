import java.util.Arrays;
import java.util.NoSuchElementException;

/** A music contest whose scores are sheets in a store of merged versions. */
public final class ScoreSheaf {
    private static final int MOST_PIECES = 6;
    private static final int MOST_VERSIONS = 40;
    private static final int MOST_BARS = 8;
    private static final int MOST_PARTS = 4;
    private static final int MOST_ROWS = 4;
    private static final int MOST_NOTES = 8;
    private static final int MOST_PRIZES = 12;
    private static final int MOST_COINS = 9999;
    private static final int GREATEST_NOTE = 99;
    private static final int GREATEST_MARK = 20;
    private static final int EDITORS = 6;
    private static final int JURORS = 5;
    private static final int ROUNDS = 4;
    private static final int HIDDEN_ROUND = 3;
    private static final int MARKS_TO_CUT = 4;
    private static final int SLOTS = MOST_BARS * MOST_PARTS;
    private static final int ALL_EDITORS = (1 << EDITORS) - 1;
    private static final int NONE = -1;

    private final Piece[] pieceList = new Piece[MOST_PIECES];
    private int pieceCount;
    private final Version[] versionList = new Version[MOST_VERSIONS];
    private int versionCount;
    private final Hearing[] hearings = new Hearing[MOST_PIECES * ROUNDS];
    private final Prize[] prizeList = new Prize[MOST_PRIZES];
    private int prizeCount;
    private final int[] typed = new int[MOST_NOTES];
    private int typedCount;

    public ScoreSheaf() {
    }

    public int piece(int bars, int parts) throws IllegalArgumentException, IllegalStateException {
        if (bars < 1 || bars > MOST_BARS || parts < 1 || parts > MOST_PARTS) {
            throw new IllegalArgumentException("a piece has 1 to 8 bars and 1 to 4 parts");
        }
        if (pieceCount >= MOST_PIECES || versionCount >= MOST_VERSIONS) {
            throw new IllegalStateException("no further piece or version");
        }
        int added = pieceCount;
        Version first = new Version(versionCount, added, 0L, NONE);
        first.fillEmpty(bars, parts);
        pieceList[added] = new Piece(versionCount, parts);
        for (int round = 0; round < ROUNDS; round++) {
            hearings[added * ROUNDS + round] = new Hearing();
        }
        pieceCount++;
        keep(first);
        return added;
    }

    public int firstOf(int piece) throws IndexOutOfBoundsException {
        Piece asked = pieceAt(piece);
        if (asked == null) {
            throw new IndexOutOfBoundsException("no such piece");
        }
        return asked.first;
    }

    public int pieceOf(int version) throws IndexOutOfBoundsException {
        Version asked = versionAt(version);
        if (asked == null) {
            throw new IndexOutOfBoundsException("no such version");
        }
        return asked.pieceNumber;
    }

    public int note(int note) throws IllegalArgumentException, IllegalStateException {
        if (note < 0 || note > GREATEST_NOTE) {
            throw new IllegalArgumentException("a note is 0 to 99");
        }
        if (typedCount >= MOST_NOTES) {
            throw new IllegalStateException("the row has 8 notes");
        }
        typed[typedCount] = note;
        typedCount++;
        return typedCount;
    }

    public int wipe() {
        int had = typedCount;
        typedCount = 0;
        return had;
    }

    public int write(int version, int editor, int bar, int part)
            throws IndexOutOfBoundsException, IllegalArgumentException, IllegalStateException {
        Version parent = versionAt(version);
        if (parent == null || parent.sheafAt(bar, part) == null) {
            throw new IndexOutOfBoundsException("no such version, bar or part");
        }
        if (!isEditor(editor)) {
            throw new IllegalArgumentException("an editor is 0 to 5");
        }
        if (versionCount >= MOST_VERSIONS) {
            throw new IllegalStateException("there are 40 versions");
        }
        Version written = new Version(versionCount, parent.pieceNumber, parent.above, parent.number);
        written.copySheaves(parent);
        written.put(bar * MOST_PARTS + part, sheafOf(new Row(editor, Arrays.copyOf(typed, typedCount))));
        typedCount = 0;
        keep(written);
        return written.number;
    }

    public char rule(int piece, int part, char rule) throws IndexOutOfBoundsException, IllegalArgumentException {
        Piece told = pieceAt(piece);
        if (told == null || !told.hasPart(part)) {
            throw new IndexOutOfBoundsException("no such piece or part");
        }
        if (rule != 'l' && rule != 'n' && rule != 'b') {
            throw new IllegalArgumentException("a rule is l, n or b");
        }
        char before = told.rules[part];
        told.rules[part] = rule;
        return before;
    }

    // The editor of a merged version writes no row, so nothing asks for it later.
    public int merge(int version, int other, int editor) throws IndexOutOfBoundsException,
            IllegalArgumentException, UnsupportedOperationException, IllegalStateException {
        Version first = versionAt(version);
        Version second = versionAt(other);
        if (first == null || second == null) {
            throw new IndexOutOfBoundsException("no such version");
        }
        if (!isEditor(editor)) {
            throw new IllegalArgumentException("an editor is 0 to 5");
        }
        Piece piece = pieceAt(first.pieceNumber);
        // Versions of unlike pieces have no base.
        Version base = versionAt(baseOf(first, second));
        if (piece == null || base == null || first.isUnder(second) || second.isUnder(first)) {
            throw new UnsupportedOperationException("unlike pieces, or one above the other");
        }
        if (versionCount >= MOST_VERSIONS) {
            throw new IllegalStateException("there are 40 versions");
        }
        Version merged = new Version(versionCount, first.pieceNumber, first.above | second.above, NONE);
        merged.mergeSheaves(first, second, base, piece);
        keep(merged);
        askAgain(merged, first);
        askAgain(merged, second);
        return merged.number;
    }

    public int base(int version, int other) throws IndexOutOfBoundsException, UnsupportedOperationException {
        Version first = versionAt(version);
        Version second = versionAt(other);
        if (first == null || second == null) {
            throw new IndexOutOfBoundsException("no such version");
        }
        if (first.pieceNumber != second.pieceNumber) {
            throw new UnsupportedOperationException("unlike pieces");
        }
        return baseOf(first, second);
    }

    public boolean isAbove(int version, int other) throws IndexOutOfBoundsException {
        Version upper = versionAt(version);
        Version lower = versionAt(other);
        if (upper == null || lower == null) {
            throw new IndexOutOfBoundsException("no such version");
        }
        return lower.isUnder(upper);
    }

    public int rows(int version, int bar, int part) throws IndexOutOfBoundsException {
        Sheaf sheaf = sheafAt(version, bar, part);
        if (sheaf == null) {
            throw new IndexOutOfBoundsException("no such version, bar or part");
        }
        return sheaf.count;
    }

    public int noteAt(int version, int bar, int part, int row, int place)
            throws IndexOutOfBoundsException, NoSuchElementException {
        Sheaf sheaf = sheafAt(version, bar, part);
        if (sheaf == null) {
            throw new IndexOutOfBoundsException("no such version, bar or part");
        }
        Row asked = sheaf.rowAt(row);
        if (asked == null || place < 0 || place >= asked.notes.length) {
            throw new NoSuchElementException("no such row or note");
        }
        return asked.notes[place];
    }

    public int writer(int version, int bar, int part, int row)
            throws IndexOutOfBoundsException, NoSuchElementException {
        Sheaf sheaf = sheafAt(version, bar, part);
        if (sheaf == null) {
            throw new IndexOutOfBoundsException("no such version, bar or part");
        }
        Row asked = sheaf.rowAt(row);
        if (asked == null) {
            throw new NoSuchElementException("no such row");
        }
        return asked.editor;
    }

    public int doubts(int version) throws IndexOutOfBoundsException {
        Version asked = versionAt(version);
        if (asked == null) {
            throw new IndexOutOfBoundsException("no such version");
        }
        return asked.sheavesInDoubt();
    }

    public int unlike(int version, int other) throws IndexOutOfBoundsException, UnsupportedOperationException {
        Version first = versionAt(version);
        Version second = versionAt(other);
        if (first == null || second == null) {
            throw new IndexOutOfBoundsException("no such version");
        }
        if (first.pieceNumber != second.pieceNumber) {
            throw new UnsupportedOperationException("unlike pieces");
        }
        return first.sheavesUnlike(second);
    }

    public int hear(int round, int version) throws IndexOutOfBoundsException {
        Version heard = versionAt(version);
        Hearing hearing = heard == null ? null : hearingAt(round, heard.pieceNumber);
        if (hearing == null) {
            throw new IndexOutOfBoundsException("no such round or version");
        }
        int before = hearing.version;
        if (before != version) {
            hearing.startWith(version);
        }
        return before;
    }

    public int mark(int juror, int round, int piece, int mark)
            throws IndexOutOfBoundsException, IllegalArgumentException, UnsupportedOperationException {
        Hearing hearing = hearingAt(round, piece);
        if (hearing == null || !isJuror(juror)) {
            throw new IndexOutOfBoundsException("no such juror, round or piece");
        }
        if (mark < 0 || mark > GREATEST_MARK) {
            throw new IllegalArgumentException("a mark is 0 to 20");
        }
        if (hearing.version == NONE) {
            throw new UnsupportedOperationException("the piece was not heard in this round");
        }
        int before = hearing.told[juror];
        hearing.told[juror] = mark;
        hearing.counted[juror] = mark;
        return before;
    }

    public int affirm(int juror, int round, int piece) throws IndexOutOfBoundsException, NoSuchElementException {
        Hearing hearing = hearingAt(round, piece);
        if (hearing == null || !isJuror(juror)) {
            throw new IndexOutOfBoundsException("no such juror, round or piece");
        }
        int mark = hearing.told[juror];
        if (mark == NONE || hearing.counted[juror] != NONE) {
            throw new NoSuchElementException("no such mark that is asked again");
        }
        hearing.counted[juror] = mark;
        return mark;
    }

    public int asked() {
        return marksTold() - marksCounted();
    }

    public int points(int round, int piece) throws IndexOutOfBoundsException {
        Hearing hearing = hearingAt(round, piece);
        if (hearing == null) {
            throw new IndexOutOfBoundsException("no such round or piece");
        }
        return hearing.score();
    }

    public int ranked(int rank) throws IndexOutOfBoundsException {
        int piece = pieceWithRank(rank);
        if (piece == NONE) {
            throw new IndexOutOfBoundsException("no such rank");
        }
        return piece;
    }

    public boolean isTied(int piece) throws IndexOutOfBoundsException {
        if (pieceAt(piece) == null) {
            throw new IndexOutOfBoundsException("no such piece");
        }
        int own = openScore(piece);
        for (int other = 0; other < pieceCount; other++) {
            if (other != piece && openScore(other) == own) {
                return true;
            }
        }
        return false;
    }

    public int give(int rank, int coins) throws IndexOutOfBoundsException, IllegalArgumentException,
            UnsupportedOperationException, IllegalStateException {
        int piece = pieceWithRank(rank);
        if (piece == NONE) {
            throw new IndexOutOfBoundsException("no such rank");
        }
        if (coins < 1 || coins > MOST_COINS) {
            throw new IllegalArgumentException("a prize has 1 to 9999 coins");
        }
        Version heard = versionAt(lastHeard(piece));
        if (heard == null) {
            throw new UnsupportedOperationException("the piece was never heard");
        }
        if (prizeCount >= MOST_PRIZES) {
            throw new IllegalStateException("there are 12 prizes");
        }
        Prize prize = new Prize(heard.number, coins);
        prize.shareOut(heard);
        int number = prizeCount;
        prizeList[number] = prize;
        prizeCount++;
        return number;
    }

    public int named(int prize) throws IndexOutOfBoundsException {
        Prize given = prizeAt(prize);
        if (given == null) {
            throw new IndexOutOfBoundsException("no such prize");
        }
        return given.version;
    }

    public int share(int prize, int editor) throws IndexOutOfBoundsException {
        Prize given = prizeAt(prize);
        if (given == null || !isEditor(editor)) {
            throw new IndexOutOfBoundsException("no such prize or editor");
        }
        return given.shares[editor];
    }

    public int got(int editor) throws IndexOutOfBoundsException {
        if (!isEditor(editor)) {
            throw new IndexOutOfBoundsException("no such editor");
        }
        int sum = 0;
        for (int number = 0; number < prizeCount; number++) {
            Prize given = prizeAt(number);
            if (given != null) {
                sum += given.shares[editor];
            }
        }
        return sum;
    }

    public int partsOf(int version, int editors) throws IndexOutOfBoundsException, IllegalArgumentException {
        Version asked = versionAt(version);
        if (asked == null) {
            throw new IndexOutOfBoundsException("no such version");
        }
        if (editors < 0 || editors > ALL_EDITORS) {
            throw new IllegalArgumentException("editors are bits 0 to 5");
        }
        return asked.partsBy(editors);
    }

    public int versions() {
        return versionCount;
    }

    public float countShare() throws ArithmeticException {
        int told = marksTold();
        if (told == 0) {
            throw new ArithmeticException("there are no marks");
        }
        return (float) marksCounted() / (float) told;
    }

    public double meanMark() throws ArithmeticException {
        int count = marksCounted();
        if (count == 0) {
            throw new ArithmeticException("no marks count");
        }
        return (double) sumCounted() / (double) count;
    }

    public long checksum(int version) throws IndexOutOfBoundsException {
        Version asked = versionAt(version);
        if (asked == null) {
            throw new IndexOutOfBoundsException("no such version");
        }
        return asked.sum();
    }

    public boolean isSound() {
        return prizesAreShared() && writtenAreNear() && ranksAreOwn();
    }

    private Piece pieceAt(int piece) {
        return piece < 0 || piece >= pieceCount ? null : pieceList[piece];
    }

    private Version versionAt(int version) {
        return version < 0 || version >= versionCount ? null : versionList[version];
    }

    private Prize prizeAt(int prize) {
        return prize < 0 || prize >= prizeCount ? null : prizeList[prize];
    }

    private Sheaf sheafAt(int version, int bar, int part) {
        Version holder = versionAt(version);
        return holder == null ? null : holder.sheafAt(bar, part);
    }

    private Hearing hearingAt(int round, int piece) {
        if (round < 0 || round >= ROUNDS || piece < 0 || piece >= pieceCount) {
            return null;
        }
        return hearings[piece * ROUNDS + round];
    }

    private static boolean isEditor(int editor) {
        return editor >= 0 && editor < EDITORS;
    }

    private static boolean isJuror(int juror) {
        return juror >= 0 && juror < JURORS;
    }

    private void keep(Version version) {
        if (versionCount < MOST_VERSIONS) {
            versionList[versionCount] = version;
            versionCount++;
        }
    }

    private int baseOf(Version first, Version second) {
        long both = first.above & second.above;
        for (int number = versionCount - 1; number >= 0; number--) {
            if ((both >> number & 1L) == 1L) {
                return number;
            }
        }
        return NONE;
    }

    private void askAgain(Version merged, Version parent) {
        if (merged.sheavesUnlike(parent) == 0) {
            return;
        }
        for (int round = 0; round < ROUNDS; round++) {
            Hearing hearing = hearingAt(round, parent.pieceNumber);
            if (hearing != null && hearing.version == parent.number) {
                Arrays.fill(hearing.counted, NONE);
            }
        }
    }

    private int marksTold() {
        int count = 0;
        for (int at = 0; at < hearings.length; at++) {
            Hearing hearing = hearings[at];
            if (hearing != null) {
                count += countOf(hearing.told);
            }
        }
        return count;
    }

    private int marksCounted() {
        int count = 0;
        for (int at = 0; at < hearings.length; at++) {
            Hearing hearing = hearings[at];
            if (hearing != null) {
                count += countOf(hearing.counted);
            }
        }
        return count;
    }

    private int sumCounted() {
        int sum = 0;
        for (int at = 0; at < hearings.length; at++) {
            Hearing hearing = hearings[at];
            if (hearing != null) {
                sum += sumOf(hearing.counted);
            }
        }
        return sum;
    }

    private static int countOf(int[] marks) {
        int count = 0;
        for (int mark : marks) {
            if (mark != NONE) {
                count++;
            }
        }
        return count;
    }

    private static int sumOf(int[] marks) {
        int sum = 0;
        for (int mark : marks) {
            if (mark != NONE) {
                sum += mark;
            }
        }
        return sum;
    }

    private int scoreIn(int round, int piece) {
        Hearing hearing = hearingAt(round, piece);
        return hearing == null ? 0 : hearing.score();
    }

    private int openScore(int piece) {
        int sum = 0;
        for (int round = 0; round < HIDDEN_ROUND; round++) {
            sum += scoreIn(round, piece);
        }
        return sum;
    }

    private long fallingMarksIn(int round, int piece) {
        Hearing hearing = hearingAt(round, piece);
        return hearing == null ? 0L : hearing.fallingMarks();
    }

    private boolean isAhead(int piece, int other) {
        int open = openScore(piece) - openScore(other);
        if (open != 0) {
            return open > 0;
        }
        int hidden = scoreIn(HIDDEN_ROUND, piece) - scoreIn(HIDDEN_ROUND, other);
        if (hidden != 0) {
            return hidden > 0;
        }
        for (int round = 0; round < HIDDEN_ROUND; round++) {
            long own = fallingMarksIn(round, piece);
            long others = fallingMarksIn(round, other);
            if (own != others) {
                return own > others;
            }
        }
        return piece < other;
    }

    private int rankOf(int piece) {
        int rank = 0;
        for (int other = 0; other < pieceCount; other++) {
            if (other != piece && isAhead(other, piece)) {
                rank++;
            }
        }
        return rank;
    }

    private int pieceWithRank(int rank) {
        for (int piece = 0; piece < pieceCount; piece++) {
            if (rankOf(piece) == rank) {
                return piece;
            }
        }
        return NONE;
    }

    private int lastHeard(int piece) {
        for (int round = ROUNDS - 1; round >= 0; round--) {
            Hearing hearing = hearingAt(round, piece);
            if (hearing != null && hearing.version != NONE) {
                return hearing.version;
            }
        }
        return NONE;
    }

    private boolean prizesAreShared() {
        for (int number = 0; number < prizeCount; number++) {
            Prize given = prizeAt(number);
            if (given != null && sumOf(given.shares) != given.coins) {
                return false;
            }
        }
        return true;
    }

    private boolean writtenAreNear() {
        for (int number = 0; number < versionCount; number++) {
            Version version = versionAt(number);
            if (version == null) {
                continue;
            }
            Version parent = versionAt(version.writtenFrom);
            if (parent != null && version.sheavesUnlike(parent) > 1) {
                return false;
            }
        }
        return true;
    }

    private boolean ranksAreOwn() {
        int taken = 0;
        for (int piece = 0; piece < pieceCount; piece++) {
            int bit = 1 << rankOf(piece);
            if ((taken & bit) != 0) {
                return false;
            }
            taken |= bit;
        }
        return true;
    }

    private static Sheaf sheafOf(Row row) {
        Sheaf sheaf = new Sheaf();
        sheaf.take(row);
        return sheaf;
    }

    // The same object is like itself: most versions share most of their sheaves.
    // Two nulls are a bar and part that the piece does not have.
    private static boolean areAlike(Sheaf first, Sheaf second) {
        return first == second || first != null && first.isLike(second);
    }

    /** A row of notes; it never changes, so that versions share it. */
    private static final class Row {
        final int editor;
        final int[] notes;

        Row(int editor, int[] notes) {
            this.editor = editor;
            this.notes = notes;
        }

        boolean isLike(Row that) {
            if (that == null || that.notes.length != notes.length) {
                return false;
            }
            for (int place = 0; place < notes.length; place++) {
                if (notes[place] != that.notes[place]) {
                    return false;
                }
            }
            return true;
        }

        int partsBy(int editors) {
            return (editors >> editor & 1) == 1 ? notes.length + 1 : 0;
        }

        long sumOnto(long sum) {
            long result = 31L * sum + editor;
            for (int note : notes) {
                result = 31L * result + note;
            }
            return 31L * result + 100L;
        }
    }

    /** The rows of one bar of one part; once a version has it, it never changes. */
    private static final class Sheaf {
        final Row[] held = new Row[MOST_ROWS];
        int count;

        Row rowAt(int row) {
            return row < 0 || row >= count ? null : held[row];
        }

        void take(Row row) {
            if (row != null && count < MOST_ROWS) {
                held[count] = row;
                count++;
            }
        }

        void takeUnlike(Sheaf that) {
            for (int at = 0; at < that.count; at++) {
                Row row = that.rowAt(at);
                if (!hasLike(row)) {
                    take(row);
                }
            }
        }

        boolean hasLike(Row row) {
            for (int at = 0; at < count; at++) {
                Row own = rowAt(at);
                if (own != null && own.isLike(row)) {
                    return true;
                }
            }
            return false;
        }

        boolean isLike(Sheaf that) {
            if (that == null || that.count != count) {
                return false;
            }
            for (int at = 0; at < count; at++) {
                Row own = rowAt(at);
                if (own == null || !own.isLike(that.rowAt(at))) {
                    return false;
                }
            }
            return true;
        }

        int notesInAll() {
            // A row has one part more than notes.
            return partsBy(ALL_EDITORS) - count;
        }

        int partsBy(int editors) {
            int sum = 0;
            for (int at = 0; at < count; at++) {
                Row own = rowAt(at);
                if (own != null) {
                    sum += own.partsBy(editors);
                }
            }
            return sum;
        }

        long sumOnto(long sum) {
            long result = sum;
            for (int at = 0; at < count; at++) {
                Row own = rowAt(at);
                if (own != null) {
                    result = own.sumOnto(result);
                }
            }
            return result;
        }
    }

    /** A version: its sheaves bar by bar, part by part, null where the piece has no such bar or part. */
    private static final class Version {
        final int number;
        final int pieceNumber;
        /** The versions above this one, by their numbers, as bits. */
        final long above;
        /** The parent of a written version; NONE for first and merged ones. */
        final int writtenFrom;
        final Sheaf[] sheaves = new Sheaf[SLOTS];

        Version(int number, int pieceNumber, long aboveParents, int writtenFrom) {
            this.number = number;
            this.pieceNumber = pieceNumber;
            this.above = aboveParents | 1L << number;
            this.writtenFrom = writtenFrom;
        }

        Sheaf sheafAt(int bar, int part) {
            if (bar < 0 || bar >= MOST_BARS || part < 0 || part >= MOST_PARTS) {
                return null;
            }
            return sheaves[bar * MOST_PARTS + part];
        }

        void put(int slot, Sheaf sheaf) {
            if (slot >= 0 && slot < SLOTS) {
                sheaves[slot] = sheaf;
            }
        }

        void fillEmpty(int bars, int parts) {
            Sheaf empty = sheafOf(new Row(0, new int[0]));
            for (int bar = 0; bar < bars; bar++) {
                for (int part = 0; part < parts; part++) {
                    put(bar * MOST_PARTS + part, empty);
                }
            }
        }

        void copySheaves(Version parent) {
            for (int slot = 0; slot < SLOTS; slot++) {
                sheaves[slot] = parent.sheaves[slot];
            }
        }

        void mergeSheaves(Version first, Version second, Version base, Piece piece) {
            for (int slot = 0; slot < SLOTS; slot++) {
                char rule = piece.rules[slot % MOST_PARTS];
                Sheaf one = first.sheaves[slot];
                Sheaf two = second.sheaves[slot];
                if (areAlike(one, two) || areAlike(two, base.sheaves[slot])) {
                    sheaves[slot] = one;
                } else if (areAlike(one, base.sheaves[slot])) {
                    sheaves[slot] = two;
                } else if (rule == 'l') {
                    sheaves[slot] = first.number > second.number ? one : two;
                } else {
                    sheaves[slot] = rule == 'n' ? fuller(one, two) : both(one, two);
                }
            }
        }

        static Sheaf fuller(Sheaf first, Sheaf second) {
            if (first == null || second == null) {
                return first;
            }
            return second.notesInAll() > first.notesInAll() ? second : first;
        }

        static Sheaf both(Sheaf first, Sheaf second) {
            if (first == null || second == null) {
                return first;
            }
            Sheaf joined = new Sheaf();
            for (int at = 0; at < first.count; at++) {
                joined.take(first.rowAt(at));
            }
            joined.takeUnlike(second);
            return joined;
        }

        boolean isUnder(Version that) {
            return (above >> that.number & 1L) == 1L;
        }

        int sheavesUnlike(Version that) {
            int count = 0;
            for (int slot = 0; slot < SLOTS; slot++) {
                if (!areAlike(sheaves[slot], that.sheaves[slot])) {
                    count++;
                }
            }
            return count;
        }

        int sheavesInDoubt() {
            int count = 0;
            for (Sheaf sheaf : sheaves) {
                if (sheaf != null && sheaf.count > 1) {
                    count++;
                }
            }
            return count;
        }

        int partsBy(int editors) {
            int sum = 0;
            for (Sheaf sheaf : sheaves) {
                if (sheaf != null) {
                    sum += sheaf.partsBy(editors);
                }
            }
            return sum;
        }

        long sum() {
            long sum = 7L;
            for (Sheaf sheaf : sheaves) {
                if (sheaf != null) {
                    sum = sheaf.sumOnto(sum);
                }
            }
            return sum;
        }
    }

    /** What a piece has besides its versions. */
    private static final class Piece {
        final int first;
        final int parts;
        final char[] rules = new char[MOST_PARTS];

        Piece(int first, int parts) {
            this.first = first;
            this.parts = parts;
            for (int part = 0; part < MOST_PARTS; part++) {
                rules[part] = 'b';
            }
        }

        boolean hasPart(int part) {
            return part >= 0 && part < parts && part < MOST_PARTS;
        }
    }

    /** A piece in a round: in which version it was heard, and its marks. */
    private static final class Hearing {
        int version = NONE;
        final int[] told = new int[JURORS];
        /** The marks that count; a mark that is told, but not here, is asked again. */
        final int[] counted = new int[JURORS];

        Hearing() {
            Arrays.fill(told, NONE);
            Arrays.fill(counted, NONE);
        }

        void startWith(int heard) {
            version = heard;
            Arrays.fill(told, NONE);
            Arrays.fill(counted, NONE);
        }

        int score() {
            int count = 0;
            int sum = 0;
            int least = GREATEST_MARK;
            int greatest = 0;
            for (int mark : counted) {
                if (mark != NONE) {
                    count++;
                    sum += mark;
                    least = mark < least ? mark : least;
                    greatest = mark > greatest ? mark : greatest;
                }
            }
            return count >= MARKS_TO_CUT ? sum - least - greatest : sum;
        }

        // Three bits for each mark tell how many jurors gave it, greater marks in higher
        // bits: the numbers then compare as the marks sorted by falling do, one by one,
        // and with more marks the number is greater.
        long fallingMarks() {
            long key = 0L;
            for (int mark : counted) {
                if (mark != NONE) {
                    key += 1L << 3 * mark;
                }
            }
            return key;
        }
    }

    /** A prize, with the coins that each editor gets of it. */
    private static final class Prize {
        final int version;
        final int coins;
        final int[] shares = new int[EDITORS];

        Prize(int version, int coins) {
            this.version = version;
            this.coins = coins;
        }

        void shareOut(Version heard) {
            int all = heard.partsBy(ALL_EDITORS);
            if (all <= 0) {
                return;
            }
            int[] rests = new int[EDITORS];
            int left = coins;
            for (int editor = 0; editor < EDITORS; editor++) {
                int due = coins * heard.partsBy(1 << editor);
                shares[editor] = due / all;
                rests[editor] = due % all;
                left -= shares[editor];
            }
            // Each rest is less than one coin: fewer coins are left than there are rests.
            for (int coin = 0; coin < left; coin++) {
                int next = greatestOf(rests);
                shares[next]++;
                rests[next] = NONE;
            }
        }

        static int greatestOf(int[] rests) {
            int best = 0;
            for (int editor = 1; editor < EDITORS; editor++) {
                if (rests[editor] > rests[best]) {
                    best = editor;
                }
            }
            return best;
        }
    }
}

import java.util.ArrayList;
import java.util.List;

/**
 * A contest under test. It keeps the calls that change it, so that it can be made anew as it stands:
 * no object is used for more than 512 calls, since the document leaves free what later ones answer.
 */
final class Run {
    interface Call {
        Object on(ScoreSheaf x);
    }

    static final int MOST_CALLS = 512;

    private final Due due;
    private final ScoreSheaf live = new ScoreSheaf();
    private final List<Call> changes = new ArrayList<>();
    private int calls;
    private int pieces;
    private int changesLookedAt = -1;
    private String looked;

    Run(Due due) {
        this.due = due;
    }

    /** A contest with so many pieces of two bars and two parts. */
    static Run withPieces(Due due, int count) {
        Run run = new Run(due);
        for (int i = 0; i < count; i++) {
            run.piece(2, 2);
        }
        return run;
    }

    /** A contest with one piece of these bars and parts. */
    static Run of(Due due, int bars, int parts) {
        Run run = new Run(due);
        run.piece(bars, parts);
        return run;
    }

    int calls() {
        return calls;
    }

    private Object call(Call call) {
        calls++;
        if (calls > MOST_CALLS) {
            throw new AssertionError("a run has at most 512 calls");
        }
        return call.on(live);
    }

    private int ask(Call call) {
        return (Integer) call(call);
    }

    private Object change(Call call) {
        Object answer = call(call);
        changes.add(call);
        return answer;
    }

    private int changeTo(Call call) {
        return (Integer) change(call);
    }

    /** A new object with all that has been changed so far. */
    private ScoreSheaf anew() {
        ScoreSheaf x = new ScoreSheaf();
        for (Call change : changes) {
            change.on(x);
        }
        return x;
    }

    /** Another run that stands where this one stands. */
    Run fork() {
        Run other = new Run(due);
        for (Call change : changes) {
            other.change(change);
        }
        other.pieces = pieces;
        return other;
    }

    /** The call throws this very class, and all that can be asked is as if it had not been made. */
    void refuses(String what, Class<? extends RuntimeException> want, Call call) {
        due.is(what, answerOf(call), "throws." + want.getSimpleName());
        leaves(what, call);
    }

    /** The call, whatever it answers, changes nothing. */
    void leaves(String what, Call call) {
        if (changesLookedAt != changes.size()) {
            looked = allThatStands(x -> 0);
            changesLookedAt = changes.size();
        }
        due.is(what + ", what stands after it", allThatStands(call), looked);
    }

    /** The answer of the call, or what it throws, on an object of its own. */
    Object answerOf(Call call) {
        ScoreSheaf x = anew();
        return Due.answerOf(() -> call.on(x));
    }

    private String allThatStands(Call ahead) {
        List<Call> looks = Looks.all(pieces, anew().versions());
        StringBuilder text = new StringBuilder();
        int room = MOST_CALLS - 1 - changes.size();
        if (room < Looks.DEAREST) {
            throw new AssertionError("no room for a look");
        }
        ScoreSheaf x = null;
        int left = 0;
        for (Call look : looks) {
            if (left < Looks.DEAREST) {
                x = anew();
                ScoreSheaf next = x;
                Due.answerOf(() -> ahead.on(next));
                left = room;
            }
            ScoreSheaf asked = x;
            text.append(Due.answerOf(() -> look.on(asked))).append(' ');
            left -= look instanceof Looks.Dear ? Looks.DEAREST : Looks.PLAIN;
        }
        return text.toString();
    }

    int piece(int bars, int parts) {
        int number = changeTo(x -> x.piece(bars, parts));
        pieces++;
        return number;
    }

    int firstOf(int piece) {
        return ask(x -> x.firstOf(piece));
    }

    int pieceOf(int version) {
        return ask(x -> x.pieceOf(version));
    }

    int note(int note) {
        return changeTo(x -> x.note(note));
    }

    void type(int... notes) {
        for (int note : notes) {
            note(note);
        }
    }

    int wipe() {
        return changeTo(ScoreSheaf::wipe);
    }

    /** Types the notes, then writes them. */
    int write(int version, int editor, int bar, int part, int... notes) {
        type(notes);
        return changeTo(x -> x.write(version, editor, bar, part));
    }

    char rule(int piece, int part, char rule) {
        return (Character) change(x -> x.rule(piece, part, rule));
    }

    int merge(int version, int other, int editor) {
        return changeTo(x -> x.merge(version, other, editor));
    }

    int base(int version, int other) {
        return ask(x -> x.base(version, other));
    }

    boolean isAbove(int version, int other) {
        return (Boolean) call(x -> x.isAbove(version, other));
    }

    int rows(int version, int bar, int part) {
        return ask(x -> x.rows(version, bar, part));
    }

    int noteAt(int version, int bar, int part, int row, int place) {
        return ask(x -> x.noteAt(version, bar, part, row, place));
    }

    int writer(int version, int bar, int part, int row) {
        return ask(x -> x.writer(version, bar, part, row));
    }

    int doubts(int version) {
        return ask(x -> x.doubts(version));
    }

    int unlike(int version, int other) {
        return ask(x -> x.unlike(version, other));
    }

    int hear(int round, int version) {
        return changeTo(x -> x.hear(round, version));
    }

    int mark(int juror, int round, int piece, int mark) {
        return changeTo(x -> x.mark(juror, round, piece, mark));
    }

    /** Hears the first version in a round, and marks it by the jurors from 0 on. */
    void heardAndMarked(int round, int piece, int... marks) {
        hear(round, firstOf(piece));
        marks(round, piece, marks);
    }

    void marks(int round, int piece, int... marks) {
        for (int juror = 0; juror < marks.length; juror++) {
            mark(juror, round, piece, marks[juror]);
        }
    }

    int affirm(int juror, int round, int piece) {
        return changeTo(x -> x.affirm(juror, round, piece));
    }

    int asked() {
        return ask(ScoreSheaf::asked);
    }

    int points(int round, int piece) {
        return ask(x -> x.points(round, piece));
    }

    int ranked(int rank) {
        return ask(x -> x.ranked(rank));
    }

    boolean isTied(int piece) {
        return (Boolean) call(x -> x.isTied(piece));
    }

    int give(int rank, int coins) {
        return changeTo(x -> x.give(rank, coins));
    }

    int named(int prize) {
        return ask(x -> x.named(prize));
    }

    int got(int editor) {
        return ask(x -> x.got(editor));
    }

    int partsOf(int version, int editors) {
        return ask(x -> x.partsOf(version, editors));
    }

    int versions() {
        return ask(ScoreSheaf::versions);
    }

    float countShare() {
        return (Float) call(ScoreSheaf::countShare);
    }

    double meanMark() {
        return (Double) call(ScoreSheaf::meanMark);
    }

    long checksum(int version) {
        return (Long) call(x -> x.checksum(version));
    }

    boolean isSound() {
        return (Boolean) call(ScoreSheaf::isSound);
    }

    /** A sheaf as a text, asked of an object of its own: for each row its editor, a colon and its notes. */
    String sheaf(int version, int bar, int part) {
        return Looks.sheaf(anew(), version, bar, part);
    }

    /** The pieces by their ranks. */
    String order() {
        StringBuilder text = new StringBuilder();
        for (int rank = 0; rank < pieces; rank++) {
            text.append(ranked(rank));
        }
        return text.toString();
    }

    /** The shares of the editors 0 to 5 in a prize. */
    String shares(int prize) {
        StringBuilder text = new StringBuilder();
        for (int editor = 0; editor < 6; editor++) {
            int asked = editor;
            text.append(editor == 0 ? "" : " ").append(ask(x -> x.share(prize, asked)));
        }
        return text.toString();
    }

    /**
     * A version of the piece of a root in which the sheaf of bar 0 of part 0 is the one told by a text,
     * as sheaf() gives it: its rows are written below the root and merged by the rule 'b'.
     */
    int made(int root, String sheaf) {
        int version = -1;
        for (String row : sheaf.split(" ")) {
            int written = writeRow(root, row);
            version = version < 0 ? written : merge(version, written, 0);
        }
        return version;
    }

    private int writeRow(int root, String row) {
        String[] halves = row.split(":", -1);
        if (!halves[1].isEmpty()) {
            for (String note : halves[1].split(",")) {
                note(Integer.parseInt(note));
            }
        }
        return write(root, Integer.parseInt(halves[0]), 0, 0);
    }
}

import java.util.ArrayList;
import java.util.List;

/** All that can be asked of a contest, also by calls that change it. */
final class Looks {
    /** A look that needs many calls. */
    interface Dear extends Run.Call {
    }

    /** So many calls a look needs at most, and the dearest one. */
    static final int PLAIN = 2;
    static final int DEAREST = 16;

    private Looks() {
    }

    static List<Run.Call> all(int pieces, int versions) {
        List<Run.Call> looks = new ArrayList<>();
        looks.add((Dear) Looks::row);
        looks.add(ScoreSheaf::versions);
        looks.add(ScoreSheaf::asked);
        looks.add(ScoreSheaf::countShare);
        looks.add(ScoreSheaf::meanMark);
        looks.add(ScoreSheaf::isSound);
        addVersions(looks, versions);
        addPrizes(looks);
        for (int piece = 0; piece <= pieces; piece++) {
            addPiece(looks, piece);
        }
        for (int piece = 0; piece < pieces; piece++) {
            addMarks(looks, piece);
        }
        return looks;
    }

    /** The row that is told note by note: only a version shows its notes. */
    private static Object row(ScoreSheaf x) {
        StringBuilder text = new StringBuilder();
        Object version = Due.answerOf(() -> x.write(0, 5, 0, 0));
        text.append(version).append(' ');
        if (version instanceof Integer) {
            text.append(sheaf(x, (Integer) version, 0, 0));
        }
        return text.append(' ').append(x.wipe()).toString();
    }

    private static void addVersions(List<Run.Call> looks, int versions) {
        for (int v = 0; v <= versions; v++) {
            int version = v;
            looks.add(x -> x.pieceOf(version));
            looks.add(x -> x.checksum(version));
            looks.add(x -> x.doubts(version));
            looks.add(x -> x.partsOf(version, 21));
            looks.add(x -> x.unlike(version, version - 1));
            for (int o = 0; o < v; o++) {
                int other = o;
                looks.add(x -> x.isAbove(other, version));
            }
        }
    }

    private static void addPrizes(List<Run.Call> looks) {
        for (int p = 0; p <= 12; p++) {
            int prize = p;
            looks.add(x -> x.named(prize));
            for (int e = 0; e < 6; e++) {
                int editor = e;
                looks.add(x -> x.share(prize, editor));
                looks.add(x -> x.got(editor));
            }
        }
    }

    private static void addPiece(List<Run.Call> looks, int piece) {
        looks.add(x -> x.firstOf(piece));
        looks.add(x -> x.ranked(piece));
        looks.add(x -> x.isTied(piece));
        for (int r = 0; r < 4; r++) {
            int round = r;
            looks.add(x -> x.points(round, piece));
        }
    }

    /** These change the contest, so they come last. */
    private static void addMarks(List<Run.Call> looks, int piece) {
        for (int p = 0; p < 4; p++) {
            int part = p;
            looks.add(x -> x.rule(piece, part, 'l'));
        }
        for (int r = 0; r < 4; r++) {
            int round = r;
            for (int j = 0; j < 5; j++) {
                int juror = j;
                looks.add(x -> x.affirm(juror, round, piece));
                looks.add(x -> x.mark(juror, round, piece, 1));
            }
            looks.add(x -> x.hear(round, x.firstOf(piece)));
        }
    }

    /** A sheaf as a text: for each row its editor, a colon and its notes. */
    static String sheaf(ScoreSheaf x, int version, int bar, int part) {
        StringBuilder text = new StringBuilder();
        int rows = x.rows(version, bar, part);
        for (int row = 0; row < rows; row++) {
            text.append(row == 0 ? "" : " ").append(x.writer(version, bar, part, row)).append(':');
            appendNotes(text, x, version, bar, part, row);
        }
        return text.toString();
    }

    private static void appendNotes(StringBuilder text, ScoreSheaf x, int version, int bar, int part, int row) {
        for (int p = 0; p < 9; p++) {
            int place = p;
            Object note = Due.answerOf(() -> x.noteAt(version, bar, part, row, place));
            if (!(note instanceof Integer)) {
                text.append("throws.NoSuchElementException".equals(note) ? "" : note);
                return;
            }
            text.append(place == 0 ? "" : ",").append(note);
        }
    }
}

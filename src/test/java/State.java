/** All that can be asked of a contest without changing it, as a text. */
final class State {
    private State() {
    }

    static String of(ScoreSheaf x) {
        StringBuilder text = new StringBuilder();
        for (int v = 0; v < x.versions(); v++) {
            text.append('v').append(x.pieceOf(v)).append(' ').append(x.checksum(v));
            text.append(' ').append(x.doubts(v)).append(' ').append(x.partsOf(v, 21));
            for (int o = 0; o < v; o++) {
                text.append(x.isAbove(o, v) ? '+' : '-');
            }
            text.append('\n');
        }
        for (int p = 0; p < 6; p++) {
            appendPiece(text, x, p);
        }
        for (int n = 0; n < 12; n++) {
            int prize = n;
            text.append(Due.answerOf(() -> x.named(prize))).append(' ');
            for (int e = 0; e < 6; e++) {
                int editor = e;
                text.append(Due.answerOf(() -> x.share(prize, editor))).append(' ');
            }
        }
        text.append('\n').append(x.asked()).append(' ').append(Due.answerOf(x::countShare));
        text.append(' ').append(Due.answerOf(x::meanMark)).append(' ').append(x.isSound());
        return text.toString();
    }

    private static void appendPiece(StringBuilder text, ScoreSheaf x, int piece) {
        text.append(Due.answerOf(() -> x.firstOf(piece))).append(' ');
        text.append(Due.answerOf(() -> x.ranked(piece))).append(' ');
        text.append(Due.answerOf(() -> x.isTied(piece))).append(' ');
        for (int r = 0; r < 4; r++) {
            int round = r;
            text.append(Due.answerOf(() -> x.points(round, piece))).append(' ');
        }
        text.append('\n');
    }
}

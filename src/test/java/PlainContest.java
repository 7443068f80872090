import java.util.ArrayList;
import java.util.Collections;
import java.util.HashMap;
import java.util.List;
import java.util.Map;
import java.util.NoSuchElementException;
import java.util.TreeSet;

/** The document once more, as plainly as the Java library allows, to compare the class with. */
final class PlainContest {
    record Row(int editor, List<Integer> notes) { }

    record Version(int piece, TreeSet<Integer> above, int writtenFrom, List<List<Row>> sheaves) { }

    record Piece(int bars, int parts, int first, char[] rules) { }

    record Prize(int version, int coins, int[] shares) { }

    static final class Mark {
        int mark;
        boolean asked;
    }

    final List<Piece> pieces = new ArrayList<>();
    final List<Version> all = new ArrayList<>();
    final List<Prize> prizes = new ArrayList<>();
    final Map<String, Integer> heard = new HashMap<>();
    final Map<String, Map<Integer, Mark>> marks = new HashMap<>();
    List<Integer> typed = new ArrayList<>();

    private static void index(boolean holds) {
        if (!holds) throw new IndexOutOfBoundsException();
    }

    private static void argument(boolean holds) {
        if (!holds) throw new IllegalArgumentException();
    }

    private static void state(boolean holds) {
        if (!holds) throw new IllegalStateException();
    }

    private static void operation(boolean holds) {
        if (!holds) throw new UnsupportedOperationException();
    }

    private static void element(boolean holds) {
        if (!holds) throw new NoSuchElementException();
    }

    private static boolean in(int number, int least, int most) {
        return least <= number && number <= most;
    }

    private boolean isVersion(int v) {
        return in(v, 0, all.size() - 1);
    }

    private boolean isPiece(int p) {
        return in(p, 0, pieces.size() - 1);
    }

    private List<Row> sheaf(int v, int bar, int part) {
        index(isVersion(v));
        Piece p = pieces.get(all.get(v).piece());
        index(in(bar, 0, p.bars() - 1) && in(part, 0, p.parts() - 1));
        return all.get(v).sheaves().get(bar * p.parts() + part);
    }

    private static List<List<Integer>> notesOf(List<Row> sheaf) {
        List<List<Integer>> notes = new ArrayList<>();
        for (Row r : sheaf) notes.add(r.notes());
        return notes;
    }

    private static boolean alike(List<Row> a, List<Row> b) {
        return notesOf(a).equals(notesOf(b));
    }

    int piece(int bars, int parts) {
        argument(in(bars, 1, 8) && in(parts, 1, 4));
        state(pieces.size() < 6 && all.size() < 40);
        List<List<Row>> sheaves = new ArrayList<>();
        for (int i = 0; i < bars * parts; i++) sheaves.add(List.of(new Row(0, List.of())));
        char[] rules = {'b', 'b', 'b', 'b'};
        pieces.add(new Piece(bars, parts, all.size(), rules));
        all.add(new Version(pieces.size() - 1, new TreeSet<>(List.of(all.size())), -1, sheaves));
        return pieces.size() - 1;
    }

    int firstOf(int piece) {
        index(isPiece(piece));
        return pieces.get(piece).first();
    }

    int pieceOf(int v) {
        index(isVersion(v));
        return all.get(v).piece();
    }

    int note(int note) {
        argument(in(note, 0, 99));
        state(typed.size() < 8);
        typed.add(note);
        return typed.size();
    }

    int wipe() {
        int had = typed.size();
        typed = new ArrayList<>();
        return had;
    }

    int write(int v, int editor, int bar, int part) {
        sheaf(v, bar, part);
        argument(in(editor, 0, 5));
        state(all.size() < 40);
        Version parent = all.get(v);
        List<List<Row>> sheaves = new ArrayList<>(parent.sheaves());
        sheaves.set(bar * pieces.get(parent.piece()).parts() + part, List.of(new Row(editor, typed)));
        TreeSet<Integer> above = new TreeSet<>(parent.above());
        above.add(all.size());
        all.add(new Version(parent.piece(), above, v, sheaves));
        typed = new ArrayList<>();
        return all.size() - 1;
    }

    char rule(int piece, int part, char rule) {
        index(isPiece(piece) && in(part, 0, pieces.get(piece).parts() - 1));
        argument("lnb".indexOf(rule) >= 0);
        char before = pieces.get(piece).rules()[part];
        pieces.get(piece).rules()[part] = rule;
        return before;
    }

    int base(int v, int other) {
        index(isVersion(v) && isVersion(other));
        operation(all.get(v).piece() == all.get(other).piece());
        TreeSet<Integer> both = new TreeSet<>(all.get(v).above());
        both.retainAll(all.get(other).above());
        return both.last();
    }

    private static int noteCount(List<Row> sheaf) {
        return sheaf.stream().mapToInt(r -> r.notes().size()).sum();
    }

    private List<Row> ruled(char rule, int v, int other, List<Row> one, List<Row> two) {
        if (rule == 'l') return v > other ? one : two;
        if (rule == 'n') return noteCount(one) >= noteCount(two) ? one : two;
        List<Row> rows = new ArrayList<>(one);
        for (Row r : two) {
            if (!notesOf(rows).contains(r.notes())) rows.add(r);
        }
        return rows.size() > 4 ? new ArrayList<>(rows.subList(0, 4)) : rows;
    }

    int merge(int v, int other, int editor) {
        index(isVersion(v) && isVersion(other));
        argument(in(editor, 0, 5));
        operation(all.get(v).piece() == all.get(other).piece() && !isAbove(v, other) && !isAbove(other, v));
        state(all.size() < 40);
        Version a = all.get(v);
        Version b = all.get(other);
        Version root = all.get(base(v, other));
        Piece p = pieces.get(a.piece());
        List<List<Row>> sheaves = new ArrayList<>();
        for (int i = 0; i < a.sheaves().size(); i++) {
            List<Row> one = a.sheaves().get(i);
            List<Row> two = b.sheaves().get(i);
            if (alike(one, two)) sheaves.add(one);
            else if (alike(one, root.sheaves().get(i))) sheaves.add(two);
            else if (alike(two, root.sheaves().get(i))) sheaves.add(one);
            else sheaves.add(ruled(p.rules()[i % p.parts()], v, other, one, two));
        }
        TreeSet<Integer> above = new TreeSet<>(a.above());
        above.addAll(b.above());
        above.add(all.size());
        all.add(new Version(a.piece(), above, -1, sheaves));
        int made = all.size() - 1;
        for (int round = 0; round < 4; round++) {
            Integer was = heard.get(key(round, a.piece()));
            if (was != null && (was == v || was == other) && unlike(made, was) > 0) {
                for (Mark m : marksIn(round, a.piece()).values()) m.asked = true;
            }
        }
        return made;
    }

    boolean isAbove(int v, int other) {
        index(isVersion(v) && isVersion(other));
        return all.get(other).above().contains(v);
    }

    int rows(int v, int bar, int part) {
        return sheaf(v, bar, part).size();
    }

    int noteAt(int v, int bar, int part, int row, int place) {
        List<Row> s = sheaf(v, bar, part);
        element(in(row, 0, s.size() - 1) && in(place, 0, s.get(row).notes().size() - 1));
        return s.get(row).notes().get(place);
    }

    int writer(int v, int bar, int part, int row) {
        List<Row> s = sheaf(v, bar, part);
        element(in(row, 0, s.size() - 1));
        return s.get(row).editor();
    }

    int doubts(int v) {
        index(isVersion(v));
        return (int) all.get(v).sheaves().stream().filter(s -> s.size() > 1).count();
    }

    int unlike(int v, int other) {
        index(isVersion(v) && isVersion(other));
        operation(all.get(v).piece() == all.get(other).piece());
        int count = 0;
        for (int i = 0; i < all.get(v).sheaves().size(); i++) {
            if (!alike(all.get(v).sheaves().get(i), all.get(other).sheaves().get(i))) count++;
        }
        return count;
    }

    private static String key(int round, int piece) {
        return round + "/" + piece;
    }

    private Map<Integer, Mark> marksIn(int round, int piece) {
        return marks.computeIfAbsent(key(round, piece), k -> new HashMap<>());
    }

    int hear(int round, int v) {
        index(in(round, 0, 3) && isVersion(v));
        Integer before = heard.put(key(round, pieceOf(v)), v);
        if (before != null && before != v) marksIn(round, pieceOf(v)).clear();
        return before == null ? -1 : before;
    }

    int mark(int juror, int round, int piece, int mark) {
        index(in(juror, 0, 4) && in(round, 0, 3) && isPiece(piece));
        argument(in(mark, 0, 20));
        operation(heard.containsKey(key(round, piece)));
        Mark told = new Mark();
        told.mark = mark;
        Mark before = marksIn(round, piece).put(juror, told);
        return before == null ? -1 : before.mark;
    }

    int affirm(int juror, int round, int piece) {
        index(in(juror, 0, 4) && in(round, 0, 3) && isPiece(piece));
        Mark told = marksIn(round, piece).get(juror);
        element(told != null && told.asked);
        told.asked = false;
        return told.mark;
    }

    private List<Mark> everyMark() {
        List<Mark> every = new ArrayList<>();
        for (Map<Integer, Mark> some : marks.values()) every.addAll(some.values());
        return every;
    }

    int asked() {
        return (int) everyMark().stream().filter(m -> m.asked).count();
    }

    private List<Integer> falling(int round, int piece) {
        List<Integer> list = new ArrayList<>();
        for (Mark m : marksIn(round, piece).values()) {
            if (!m.asked) list.add(m.mark);
        }
        list.sort(Collections.reverseOrder());
        return list;
    }

    int points(int round, int piece) {
        index(in(round, 0, 3) && isPiece(piece));
        List<Integer> list = falling(round, piece);
        if (list.size() >= 4) list = list.subList(1, list.size() - 1);
        return list.stream().mapToInt(m -> m).sum();
    }

    private int open(int piece) {
        return points(0, piece) + points(1, piece) + points(2, piece);
    }

    /** Below 0 if the first piece is ahead. */
    private int compare(int p, int q) {
        if (open(p) != open(q)) return open(q) - open(p);
        if (points(3, p) != points(3, q)) return points(3, q) - points(3, p);
        for (int round = 0; round < 3; round++) {
            List<Integer> a = falling(round, p);
            List<Integer> b = falling(round, q);
            for (int i = 0; i < Math.min(a.size(), b.size()); i++) {
                if (!a.get(i).equals(b.get(i))) return b.get(i) - a.get(i);
            }
            if (a.size() != b.size()) return b.size() - a.size();
        }
        return p - q;
    }

    int ranked(int rank) {
        index(in(rank, 0, pieces.size() - 1));
        List<Integer> order = new ArrayList<>();
        for (int p = 0; p < pieces.size(); p++) order.add(p);
        order.sort(this::compare);
        return order.get(rank);
    }

    boolean isTied(int piece) {
        index(isPiece(piece));
        for (int p = 0; p < pieces.size(); p++) {
            if (p != piece && open(p) == open(piece)) return true;
        }
        return false;
    }

    int give(int rank, int coins) {
        int piece = ranked(rank);
        argument(in(coins, 1, 9999));
        int version = -1;
        for (int round = 0; round < 4; round++) version = heard.getOrDefault(key(round, piece), version);
        operation(version >= 0);
        state(prizes.size() < 12);
        int[] shares = new int[6];
        int left = coins;
        int total = partsOf(version, 63);
        List<Integer> editors = new ArrayList<>();
        for (int e = 0; e < 6; e++) {
            shares[e] = coins * partsOf(version, 1 << e) / total;
            left -= shares[e];
            editors.add(e);
        }
        int named = version;
        editors.sort((e, f) -> coins * partsOf(named, 1 << f) % total - coins * partsOf(named, 1 << e) % total);
        for (int i = 0; i < left; i++) shares[editors.get(i)]++;
        prizes.add(new Prize(version, coins, shares));
        return prizes.size() - 1;
    }

    int named(int prize) {
        index(in(prize, 0, prizes.size() - 1));
        return prizes.get(prize).version();
    }

    int share(int prize, int editor) {
        index(in(prize, 0, prizes.size() - 1) && in(editor, 0, 5));
        return prizes.get(prize).shares()[editor];
    }

    int got(int editor) {
        index(in(editor, 0, 5));
        return prizes.stream().mapToInt(p -> p.shares()[editor]).sum();
    }

    int partsOf(int v, int editors) {
        index(isVersion(v));
        argument(in(editors, 0, 63));
        int sum = 0;
        for (List<Row> sheaf : all.get(v).sheaves()) {
            for (Row r : sheaf) {
                if ((editors & 1 << r.editor()) != 0) sum += r.notes().size() + 1;
            }
        }
        return sum;
    }

    int versions() {
        return all.size();
    }

    float countShare() {
        List<Mark> every = everyMark();
        if (every.isEmpty()) throw new ArithmeticException();
        return (float) (every.size() - asked()) / (float) every.size();
    }

    double meanMark() {
        List<Mark> counting = everyMark().stream().filter(m -> !m.asked).toList();
        if (counting.isEmpty()) throw new ArithmeticException();
        return (double) counting.stream().mapToInt(m -> m.mark).sum() / (double) counting.size();
    }

    long checksum(int v) {
        index(isVersion(v));
        long sum = 7;
        for (List<Row> sheaf : all.get(v).sheaves()) {
            for (Row r : sheaf) {
                sum = 31 * sum + r.editor();
                for (int note : r.notes()) sum = 31 * sum + note;
                sum = 31 * sum + 100;
            }
        }
        return sum;
    }

    boolean isSound() {
        return true;
    }
}

import java.util.ArrayList;
import java.util.List;
import java.util.regex.Matcher;
import java.util.regex.Pattern;

/**
 * The document a second time, written as slowly and as differently as can be: every question shapes anew, every
 * change of a glyph makes a new one, syllables are found by a regular expression. ModelTest compares Joinhand with it.
 */
final class Model {
    static final int NONE = -100;

    static final class Rule {
        final int[] n;

        Rule(int... n) {
            this.n = n;
        }
    }

    static final class Table {
        int kind, feature, stage, tongue, skip;
        final List<Rule> rules = new ArrayList<>();
    }

    static final class Face {
        final List<Table> tables = new ArrayList<>();
        final int[] mark = new int[256];
        final int[] group = new int[256];
        final int[] width = new int[256];

        Face() {
            for (int i = 0; i < 256; i++) {
                boolean is = List.of(21, 22, 23, 44, 65).contains(i);
                mark[i] = is ? 0 : NONE;
                width[i] = is || i == 2 || i == 3 ? 0 : 10;
            }
        }

        boolean fits(int item, G g) {
            return g != null && (item < 256 ? g.n == item : group[g.n] == item - 300);
        }
    }

    static final class G {
        int n, cluster, extra, form = NONE, origin, part = NONE, parts = 1;
        int advance, height, dx, dy, x;
        G on, became;

        G(int n, int cluster, int extra, int form, int origin) {
            this.n = n;
            this.cluster = cluster;
            this.extra = extra;
            this.form = form;
            this.origin = origin;
        }

        G as(int number) {
            G g = new G(number, cluster, extra, form, origin);
            g.part = part;
            g.parts = parts;
            return g;
        }
    }

    static final class Run {
        int from, to, face, left, width;
        boolean s;
        List<G> row = new ArrayList<>();
    }

    static final class Sign {
        int sign, extra;

        Sign(int sign) {
            this.sign = sign;
        }
    }

    final Face[] faces = {new Face(), new Face()};
    int used = 0;
    int tongue = 1;
    final boolean[] lacked = new boolean[45];
    final List<Sign> text = new ArrayList<>();

    // ---- what is told

    int useFace(int face) {
        if (face != 0 && face != 1) throw new IndexOutOfBoundsException();
        int was = used;
        used = face;
        return was;
    }

    int lookup(int kind, int feature, int stage, int tongue, int skip) {
        if (kind < 0 || kind > 9 || feature < 0 || feature > 6) throw new IndexOutOfBoundsException();
        if (stage < 0 || stage > 1 || tongue < 0 || tongue > 2 || skip < 0 || skip > 5) throw new IllegalArgumentException();
        List<Table> tables = faces[used].tables;
        if (tables.size() == 12) throw new IllegalStateException();
        Table t = new Table();
        t.kind = kind;
        t.feature = feature;
        t.stage = stage;
        t.tongue = tongue;
        t.skip = skip;
        tables.add(t);
        return tables.size() - 1;
    }

    private static final String[] TOLD = {"ig0000", "iggG00", "iggg00", "iiIg00", "IiIIef", "IiIg00", "iin000", "iNN000", "ipcnn0", "icnn00"};

    int rule(int lookup, int... n) {
        List<Table> tables = faces[used].tables;
        if (lookup < 0 || lookup >= tables.size()) throw new IndexOutOfBoundsException();
        Table t = tables.get(lookup);
        for (int i = 0; i < 6; i++) {
            int v = n[i];
            boolean glyph = v >= 0 && v < 256;
            boolean item = glyph || v >= 300 && v <= 305;
            boolean number = v >= -50 && v <= 50;
            boolean ok = switch (TOLD[t.kind].charAt(i)) {
                case 'i' -> item;
                case 'I' -> item || v == NONE;
                case 'g' -> glyph;
                case 'G' -> glyph || v == NONE;
                case 'n' -> number;
                case 'N' -> number || v == NONE;
                case 'p' -> v == 0 || v == 1 || v == 2 || v == NONE;
                case 'c' -> v >= 0 && v <= 3;
                case 'e' -> v == 0 || v == 1 && n[2] != NONE;
                case 'f' -> v >= 0 && v <= 11;
                default -> v == 0;
            };
            if (!ok) throw new IllegalArgumentException();
        }
        if (t.rules.size() == 8) throw new IllegalStateException();
        t.rules.add(new Rule(n.clone()));
        return t.rules.size();
    }

    int setMark(int glyph, int its) {
        if (glyph < 0 || glyph > 255) throw new IndexOutOfBoundsException();
        if (its != NONE && (its < 0 || its > 3)) throw new IllegalArgumentException();
        int was = faces[used].mark[glyph];
        faces[used].mark[glyph] = its;
        return was;
    }

    int setGroup(int glyph, int group) {
        if (glyph < 0 || glyph > 255 || group < 0 || group > 5) throw new IndexOutOfBoundsException();
        int was = faces[used].group[glyph];
        faces[used].group[glyph] = group;
        return was;
    }

    int setWidth(int glyph, int width) {
        if (glyph < 0 || glyph > 255) throw new IndexOutOfBoundsException();
        if (width < 0 || width > 100) throw new IllegalArgumentException();
        int was = faces[used].width[glyph];
        faces[used].width[glyph] = width;
        return was;
    }

    static boolean known(int sign) {
        return sign >= 0 && sign <= 23 || sign >= 30 && sign <= 44;
    }

    boolean lack(int sign) {
        if (!known(sign)) throw new IllegalArgumentException();
        lacked[sign] ^= true;
        return lacked[sign];
    }

    int size(int lookup) {
        Face face = faces[used];
        if (lookup < 0 || lookup >= face.tables.size()) throw new IndexOutOfBoundsException();
        Table t = face.tables.get(lookup);
        int sum = 0;
        List<List<Integer>> lists = new ArrayList<>();
        for (int g = 0; g < 256; g++) {
            List<Integer> list = new ArrayList<>();
            for (int r = 0; r < t.rules.size(); r++) {
                if (face.fits(t.rules.get(r).n[t.kind == 4 || t.kind == 5 ? 1 : 0], new G(g, 0, 0, NONE, 0))) list.add(r);
            }
            if (!list.isEmpty()) sum++;
            if (!lists.contains(list)) {
                lists.add(list);
                sum += list.size();
            }
        }
        return sum;
    }

    int insert(int place, int sign) {
        if (place < 0 || place > text.size()) throw new IndexOutOfBoundsException();
        if (!known(sign)) throw new IllegalArgumentException();
        if (text.size() == 16) throw new IllegalStateException();
        text.add(place, new Sign(sign));
        return text.size();
    }

    int cut(int place) {
        need(place);
        return text.remove(place).sign;
    }

    int setTongue(int its) {
        if (its != 1 && its != 2) throw new IllegalArgumentException();
        int was = tongue;
        tongue = its;
        return was;
    }

    int setExtra(int from, int to, int value) {
        need(from);
        need(to);
        if (to < from) throw new IndexOutOfBoundsException();
        if (value < 0 || value > 3) throw new IllegalArgumentException();
        int changed = 0;
        for (Sign s : text.subList(from, to + 1)) {
            if (s.extra != value) changed++;
            s.extra = value;
        }
        return changed;
    }

    private void need(int place) {
        if (place < 0 || place >= text.size()) throw new IndexOutOfBoundsException();
    }

    // ---- what is asked

    int glyphs() {
        return all(shape(text)).size();
    }

    List<G> row() {
        return all(shape(text));
    }

    private G at(int place) {
        List<G> all = row();
        if (place < 0 || place >= all.size()) throw new IndexOutOfBoundsException();
        return all.get(place);
    }

    int glyph(int place) {
        return at(place).n;
    }

    int cluster(int place) {
        return at(place).cluster;
    }

    int place(int place, int what) {
        G g = at(place);
        if (what < 0 || what > 2) throw new IllegalArgumentException();
        return what == 0 ? g.x : what == 1 ? g.height : g.advance;
    }

    int form(int place) {
        need(place);
        Run run = runAt(parted(text), place);
        return run.s ? NONE : formOf(text, run, place);
    }

    int run(int place) {
        need(place);
        List<Run> runs = parted(text);
        Run run = runAt(runs, place);
        return runs.indexOf(run) * 100 + (run.s ? 10 : 0) + run.face;
    }

    int caret(int place) {
        need(place);
        Run run = runAt(shape(text), place);
        int own = owner(run, place);
        int far = 0;
        if (own >= 0) {
            int k = 0;
            int j = 0;
            for (int i = run.from; i < run.to; i++) {
                if (owner(run, i) == own) {
                    k++;
                    if (i < place) j++;
                }
            }
            int sum = 0;
            for (G g : run.row) {
                if (g.cluster < own) far += g.advance;
                if (g.cluster == own) sum += g.advance;
            }
            far += Math.floorDiv(sum * j, k);
        }
        return run.s ? run.left + far : run.left + run.width - far;
    }

    int hit(int x) {
        if (x < -1000 || x > 10000) throw new IllegalArgumentException();
        int best = NONE;
        for (int i = text.size() - 1; i >= 0; i--) {
            if (best == NONE || Math.abs(caret(i) - x) <= Math.abs(caret(best) - x)) best = i;
        }
        return best;
    }

    boolean isSafe(int place) {
        if (place < 1 || place > text.size() - 1) throw new IndexOutOfBoundsException();
        String one = told(all(shape(text)), 0, new ArrayList<>());
        List<G> before = all(shape(text.subList(0, place)));
        String two = told(before, 0, new ArrayList<>());
        two += told(all(shape(text.subList(place, text.size()))), place, before);
        return one.equals(two);
    }

    private static String told(List<G> glyphs, int added, List<G> before) {
        StringBuilder s = new StringBuilder();
        for (G g : glyphs) {
            s.append(g.n).append(' ').append(g.cluster + added).append(' ').append(g.advance).append(' ').append(g.height);
            if (g.on != null) s.append(" on ").append(before.size() + glyphs.indexOf(g.on)).append(' ').append(g.dx).append(' ').append(g.dy);
            s.append(';');
        }
        return s.toString();
    }

    int fill(int width) {
        if (width < 0 || width > 10000) throw new IllegalArgumentException();
        int[] filled = filled(width);
        return filled == null ? NONE : filled[text.size()];
    }

    int filling(int width, int place) {
        need(place);
        if (width < 0 || width > 10000) throw new IllegalArgumentException();
        int[] filled = filled(width);
        return filled == null ? 0 : filled[place];
    }

    private int[] filled(int width) {
        int[] filled = new int[text.size() + 1];
        List<Run> runs = shape(text);
        int missing = width;
        for (G g : all(runs)) missing -= g.advance;
        if (missing < 0) return null;
        List<Integer> spots = new ArrayList<>();
        List<Integer> blanks = new ArrayList<>();
        for (int i = 0; i < text.size(); i++) {
            int sign = text.get(i).sign;
            if (sign == 0) blanks.add(i);
            Run run = runAt(runs, i);
            if (!(sign >= 10 && sign <= 15 || sign == 20)) continue;
            int form = formOf(text, run, i);
            if (form != 1 && form != 2) continue;
            int next = i + 1;
            while (next < run.to && isJMark(text.get(next).sign)) next++;
            if (next < run.to && owner(run, next) != owner(run, i)) spots.add(0, i);
        }
        int wide = faces[0].width[20];
        if (wide > 0 && !spots.isEmpty()) {
            for (int turn = 0; missing >= wide; turn++) {
                filled[spots.get(turn % spots.size())]++;
                missing -= wide;
            }
        }
        if (!blanks.isEmpty()) {
            for (int turn = 0; missing > 0; turn++) {
                filled[blanks.get(turn % blanks.size())]++;
                missing--;
            }
        }
        filled[text.size()] = missing;
        return filled;
    }

    // ---- shaping

    private static List<G> all(List<Run> runs) {
        List<G> all = new ArrayList<>();
        for (Run r : runs) all.addAll(r.row);
        return all;
    }

    private static Run runAt(List<Run> runs, int place) {
        for (Run r : runs) {
            if (place >= r.from && place < r.to) return r;
        }
        throw new AssertionError();
    }

    /** The greatest cluster of the run that is not above the place, or -1. */
    private static int owner(Run run, int place) {
        return run.row.stream().mapToInt(g -> g.cluster).filter(c -> c <= place).max().orElse(-1);
    }

    private List<Run> parted(List<Sign> t) {
        List<Run> runs = new ArrayList<>();
        boolean[] s = new boolean[t.size()];
        for (int i = 0; i < t.size(); i++) {
            int from = i;
            while (from >= 0 && t.get(from).sign < 10) from--;
            if (from < 0) {
                from = 0;
                while (from < t.size() && t.get(from).sign < 10) from++;
            }
            s[i] = from < t.size() && t.get(from).sign >= 30;
        }
        for (int i = 0; i < t.size(); i++) {
            int face = lacked[t.get(i).sign] ? 1 : 0;
            Run last = runs.isEmpty() ? null : runs.get(runs.size() - 1);
            if (last == null || last.s != s[i] || last.face != face) {
                last = new Run();
                last.from = i;
                last.s = s[i];
                last.face = face;
                runs.add(last);
            }
            last.to = i + 1;
        }
        return runs;
    }

    private static boolean isJMark(int sign) {
        return sign >= 21 && sign <= 23;
    }

    private static int formOf(List<Sign> t, Run run, int place) {
        int sign = t.get(place).sign;
        if (sign < 10 || sign > 20) return NONE;
        List<Integer> letters = new ArrayList<>();
        int at = -1;
        for (int i = run.from; i < run.to; i++) {
            if (i == place) at = letters.size();
            if (!isJMark(t.get(i).sign)) letters.add(t.get(i).sign);
        }
        List<Integer> both = List.of(10, 11, 12, 13, 14, 15, 20);
        int before = at > 0 ? letters.get(at - 1) : 1;
        int after = at + 1 < letters.size() ? letters.get(at + 1) : 1;
        boolean ahead = sign != 19 && (both.contains(before) || before == 2);
        boolean behind = both.contains(sign) && (both.contains(after) || after == 2 || after >= 16 && after <= 18);
        return ahead && behind ? 2 : ahead ? 3 : behind ? 1 : 0;
    }

    private List<Run> shape(List<Sign> t) {
        List<Run> runs = parted(t);
        int left = 0;
        for (Run run : runs) {
            Face face = faces[run.face];
            if (run.s) beginS(t, run);
            else beginJ(t, run);
            change(face, run, 0);
            if (run.s) setBack(run);
            change(face, run, 1);
            run.row.removeIf(g -> g.n == 2 || g.n == 3);
            place(face, run.row);
            for (G g : run.row) run.width += g.advance;
            run.left = left;
            left += run.width;
            int sum = 0;
            for (G g : run.row) {
                g.x = run.s ? run.left + sum : left - sum - g.advance;
                sum += g.advance;
                if (g.on != null) {
                    g.x = g.on.x + g.dx;
                    g.height = g.on.height + g.dy;
                }
            }
        }
        return runs;
    }

    private static void beginJ(List<Sign> t, Run run) {
        for (int i = run.from; i < run.to; i++) {
            int sign = t.get(i).sign;
            int cluster = i;
            if (isJMark(sign)) {
                int j = i;
                while (j >= run.from && isJMark(t.get(j).sign)) j--;
                if (j >= run.from) cluster = j;
            }
            run.row.add(new G(sign, cluster, t.get(i).extra, formOf(t, run, i), sign));
        }
    }

    private static final Pattern SYLLABLE = Pattern.compile("[CL](KJ?[CL])*(KJ?)?[AV]*|I[AV]*|(?<carrier>(?=[KAV])(KJ?[CL])*(KJ?)?[AV]*)|.");

    private static char letter(int sign) {
        if (sign == 38) return 'L';
        if (sign >= 30 && sign < 38) return 'C';
        return switch (sign) {
            case 39 -> 'K';
            case 2, 3 -> 'J';
            case 40 -> 'A';
            case 41, 42, 44 -> 'V';
            case 43 -> 'I';
            default -> 'o';
        };
    }

    private static void beginS(List<Sign> t, Run run) {
        StringBuilder letters = new StringBuilder();
        for (int i = run.from; i < run.to; i++) letters.append(letter(t.get(i).sign));
        Matcher m = SYLLABLE.matcher(letters);
        while (m.find()) {
            int start = run.from + m.start();
            List<G> glyphs = new ArrayList<>();
            if (m.group("carrier") != null) glyphs.add(new G(64, start, 0, NONE, 30));
            for (int i = m.start(); i < m.end(); i++) {
                Sign s = t.get(run.from + i);
                glyphs.add(new G(s.sign, start, s.extra, NONE, s.sign));
            }
            if (m.group().matches("LK[CL].*")) {
                G climbing = glyphs.remove(0);
                glyphs.remove(0);
                int last = 0;
                for (int i = 0; i < glyphs.size(); i++) {
                    if (glyphs.get(i).n >= 30 && glyphs.get(i).n <= 38) last = i;
                }
                last++;
                while (last < glyphs.size() && List.of(39, 2, 3).contains(glyphs.get(last).n)) last++;
                glyphs.add(last, new G(65, start, climbing.extra, NONE, -1));
            }
            List<G> ahead = new ArrayList<>(glyphs);
            ahead.removeIf(g -> g.n != 40);
            glyphs.removeIf(g -> g.n == 40);
            run.row.addAll(ahead);
            run.row.addAll(glyphs);
        }
    }

    private static void setBack(Run run) {
        List<G> done = new ArrayList<>();
        while (!run.row.isEmpty()) {
            List<G> syllable = new ArrayList<>();
            while (!run.row.isEmpty() && (syllable.isEmpty() || run.row.get(0).cluster == syllable.get(0).cluster)) syllable.add(run.row.remove(0));
            List<G> vowels = new ArrayList<>();
            List<G> rest = new ArrayList<>();
            for (G g : syllable) {
                if (rest.isEmpty() && g.origin == 40) vowels.add(g);
                else rest.add(g);
            }
            int behind = 0;
            for (int i = 0; i < rest.size(); i++) {
                if (rest.get(i).n == 39 && rest.subList(i + 1, rest.size()).stream().anyMatch(g -> g.origin >= 30 && g.origin <= 38)) behind = i + 1;
            }
            rest.addAll(behind, vowels);
            done.addAll(rest);
        }
        run.row.addAll(done);
    }

    private boolean ofTongue(Table t) {
        return t.tongue == 0 || t.tongue == tongue;
    }

    private static boolean skips(Face face, Table t, G g) {
        int mark = face.mark[g.n];
        return mark != NONE && (t.skip == 1 || t.skip >= 2 && t.skip - 2 != mark);
    }

    private static boolean has(Table t, G g) {
        return t.feature == 0 || t.feature == 5 && g.extra > 0 || t.feature >= 1 && t.feature <= 4 && g.form == t.feature - 1;
    }

    /** The glyphs that a lookup sees, and nulls round them. */
    private static List<G> seen(Face face, Table t, List<G> row) {
        List<G> seen = new ArrayList<>(row);
        seen.removeIf(g -> skips(face, t, g));
        for (int i = 0; i < 3; i++) {
            seen.add(0, null);
            seen.add(null);
        }
        return seen;
    }

    private void change(Face face, Run run, int stage) {
        for (Table t : face.tables) {
            if (t.kind > 5 || t.stage != stage || !ofTongue(t)) continue;
            if (t.kind == 5) {
                for (int i = run.row.size() - 1; i >= 0; i--) {
                    G g = run.row.get(i);
                    if (has(t, g) && !skips(face, t, g)) apply(face, t, run.row, g, 0);
                }
            } else {
                G next = run.row.isEmpty() ? null : run.row.get(0);
                while (next != null) {
                    G last = has(t, next) && !skips(face, t, next) ? apply(face, t, run.row, next, 0) : null;
                    int at = run.row.indexOf(last == null ? next : last);
                    next = at + 1 < run.row.size() ? run.row.get(at + 1) : null;
                }
            }
        }
    }

    /** Does the first rule that fits; answers the last glyph of what was done, or null. */
    private G apply(Face face, Table t, List<G> row, G g, int depth) {
        List<G> seen = seen(face, t, row);
        int s = seen.indexOf(g);
        int at = row.indexOf(g);
        for (Rule rule : t.rules) {
            int[] n = rule.n;
            if (!face.fits(n[t.kind == 4 || t.kind == 5 ? 1 : 0], g)) continue;
            if (t.kind == 0) return replace(row, g, n[1]);
            if (t.kind == 1) {
                if (row.size() + (n[3] == NONE ? 1 : 2) > 64) continue;
                return n[3] == NONE ? replace(row, g, n[1], n[2]) : replace(row, g, n[1], n[2], n[3]);
            }
            if (t.kind == 2) {
                if (g.extra == 0) continue;
                return replace(row, g, n[g.extra]);
            }
            if (t.kind == 3) {
                if (!face.fits(n[1], seen.get(s + 1)) || n[2] != NONE && !face.fits(n[2], seen.get(s + 2))) continue;
                return ligature(face, row, seen.subList(s, s + (n[2] == NONE ? 2 : 3)), n[3]);
            }
            if (t.kind == 4) {
                int behind = n[2] == NONE ? s + 1 : s + 2;
                if (n[0] != NONE && !face.fits(n[0], seen.get(s - 1))) continue;
                if (n[2] != NONE && !face.fits(n[2], seen.get(s + 1))) continue;
                if (n[3] != NONE && !face.fits(n[3], seen.get(behind))) continue;
                G last = seen.get(behind - 1);
                G first = n[4] == 0 ? g : seen.get(s + 1);
                if (n[5] < face.tables.size()) {
                    Table called = face.tables.get(n[5]);
                    if (called.kind <= 3 && !skips(face, called, first)) apply(face, called, row, first, depth + 1);
                }
                return last.became == null ? last : last.became;
            }
            if (n[0] != NONE && !face.fits(n[0], seen.get(s - 1)) || n[2] != NONE && !face.fits(n[2], seen.get(s + 1))) continue;
            return replace(row, g, n[3]);
        }
        return null;
    }

    private static G replace(List<G> row, G g, int... numbers) {
        int at = row.indexOf(g);
        row.remove(at);
        for (int i = 0; i < numbers.length; i++) row.add(at + i, g.as(numbers[i]));
        g.became = row.get(at + numbers.length - 1);
        return g.became;
    }

    private static G ligature(Face face, List<G> row, List<G> items, int number) {
        int before = 0;
        for (int i = 0; i < items.size(); i++) {
            G item = items.get(i);
            List<G> marks = new ArrayList<>();
            int last = row.indexOf(item) + 1;
            while (last < row.size() && !items.contains(row.get(last)) && face.mark[row.get(last).n] != NONE) marks.add(row.get(last++));
            for (G mark : marks) mark.part = before + (mark.part == NONE ? item.parts - 1 : mark.part);
            before += item.parts;
        }
        int least = items.stream().mapToInt(g -> g.cluster).min().getAsInt();
        int greatest = items.stream().mapToInt(g -> g.cluster).max().getAsInt();
        for (G g : row) {
            if (g.cluster >= least && g.cluster <= greatest) g.cluster = least;
        }
        G made = items.get(0).as(number);
        made.parts = before;
        row.set(row.indexOf(items.get(0)), made);
        for (G item : items) {
            row.remove(item);
            item.became = made;
        }
        return made;
    }

    private void place(Face face, List<G> row) {
        for (G g : row) g.advance = face.width[g.n];
        for (Table t : face.tables) {
            if (t.kind < 6 || !ofTongue(t)) continue;
            List<G> seen = seen(face, t, row);
            for (int i = 3; i < seen.size() - 3; i++) {
                G g = seen.get(i);
                G next = seen.get(i + 1);
                if (!has(t, g)) continue;
                int[] n = null;
                if (t.kind == 6) n = first(face, t, g, r -> face.fits(r[1], next));
                if (n != null) g.advance += n[2];
                if (t.kind == 7 && next != null && has(t, next)) {
                    int[] one = first(face, t, g, r -> true);
                    int[] two = first(face, t, next, r -> true);
                    if (one != null && two != null && one[2] != NONE && two[1] != NONE) next.height = g.height + one[2] - two[1];
                }
                if (t.kind < 8 || face.mark[g.n] == NONE) continue;
                G under = seen.get(i - 1);
                if (t.kind == 8) {
                    int at = row.indexOf(g);
                    while (at >= 0 && face.mark[row.get(at).n] != NONE) at--;
                    under = at < 0 ? null : row.get(at);
                }
                if (under == null || t.kind == 9 && face.mark[under.n] == NONE) continue;
                int part = g.part == NONE ? under.parts - 1 : g.part;
                if (t.kind == 8) n = first(face, t, under, r -> (r[1] == NONE || r[1] == part) && r[2] == face.mark[g.n]);
                else n = first(face, t, under, r -> r[1] == face.mark[g.n]);
                if (n == null) continue;
                g.on = under;
                g.dx = n[t.kind == 8 ? 3 : 2];
                g.dy = n[t.kind == 8 ? 4 : 3];
            }
        }
    }

    private interface More {
        boolean fits(int[] numbers);
    }

    private static int[] first(Face face, Table t, G g, More more) {
        for (Rule r : t.rules) {
            if (face.fits(r.n[0], g) && more.fits(r.n)) return r.n;
        }
        return null;
    }
}

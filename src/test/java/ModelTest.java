import java.util.ArrayList;
import java.util.List;
import java.util.Random;

/** Long runs of calls with fixed seeds, each answer compared with the Model's. */
final class ModelTest {
    private static final Check CHECK = new Check();
    private static final int[] SIGNS_J = {0, 1, 2, 3, 4, 10, 11, 12, 16, 17, 19, 20, 21, 22, 10, 11, 21, 23};
    private static final int[] SIGNS_S = {0, 2, 3, 5, 30, 31, 38, 39, 40, 41, 43, 44, 30, 39, 38, 40, 39, 31};
    private static final int[] MADE = {100, 101, 102, 103};
    /** What a narrow run is about: few kinds of lookups at once, so that they meet. */
    private static final int[][] THEMES = {
        {4, 0, 1, 2, 3}, {4, 3, 8}, {3, 8, 9}, {1, 3, 4, 8}, {5, 0, 3}, {6, 1, 3}, {7, 8, 9}, {0, 1, 2, 3}, {8, 9, 7, 6, 3, 0}, {0, 1, 3, 4, 5, 7},
    };

    private static int compared = 0;

    private final Random random;
    private final Joinhand real = new Joinhand();
    private final Model model = new Model();
    private final boolean likesJ;
    private final boolean likesS;
    private final boolean grows;
    private final boolean isNarrow;
    private final int[] fewSigns;
    private final int[] theme;
    private final StringBuilder told = new StringBuilder();

    private ModelTest(long seed) {
        random = new Random(seed * 7919);
        int taste = below(5);
        likesJ = taste != 1 && taste != 3;
        likesS = taste != 0 && taste != 2;
        grows = chance(4);
        isNarrow = below(6) != 0;
        fewSigns = new int[1 + below(5)];
        for (int i = 0; i < fewSigns.length; i++) fewSigns[i] = anySign();
        theme = THEMES[below(THEMES.length)];
    }

    private int below(int bound) {
        return random.nextInt(bound);
    }

    private boolean chance(int of) {
        return below(of) == 0;
    }

    private int sign() {
        return isNarrow && !chance(20) ? fewSigns[below(fewSigns.length)] : anySign();
    }

    private int anySign() {
        int[] from = likesJ && (!likesS || chance(2)) ? SIGNS_J : SIGNS_S;
        return chance(80) ? below(48) - 1 : from[below(from.length)];
    }

    private int glyphNumber() {
        if (chance(150)) return -1 + 257 * below(2);
        if (chance(3)) return MADE[below(isNarrow ? 2 : MADE.length)];
        if (chance(12)) return 64 + below(2);
        return Math.max(0, Math.min(255, sign()));
    }

    private int item() {
        if (chance(200)) return 299 + 7 * below(2);
        if (isNarrow) return chance(3) ? 300 + below(2) : glyphNumber();
        return chance(4) ? 300 + below(chance(3) ? 6 : 3) : glyphNumber();
    }

    private int itemOrNone() {
        return chance(2) ? Model.NONE : item();
    }

    private int step() {
        return chance(100) ? -51 + 102 * below(2) : below(41) - 20;
    }

    private int markClass() {
        return chance(8) ? below(4) : below(2);
    }

    private List<Model.Table> tables() {
        return model.faces[model.used].tables;
    }

    /** Mostly a lookup that can be called. */
    private int called() {
        List<Integer> fit = new ArrayList<>();
        for (int i = 0; i < tables().size(); i++) {
            if (tables().get(i).kind <= 3) fit.add(i);
        }
        return fit.isEmpty() || chance(8) ? below(12) : fit.get(below(fit.size()));
    }

    private int[] numbers(int kind) {
        int[] n = new int[6];
        switch (kind) {
            case 0 -> fillIn(n, item(), glyphNumber());
            case 1 -> fillIn(n, item(), glyphNumber(), glyphNumber(), chance(2) ? Model.NONE : glyphNumber());
            case 2 -> fillIn(n, item(), glyphNumber(), glyphNumber(), glyphNumber());
            case 3 -> fillIn(n, item(), item(), itemOrNone(), glyphNumber());
            case 4 -> fillIn(n, itemOrNone(), item(), itemOrNone(), itemOrNone(), below(2), called());
            case 5 -> fillIn(n, itemOrNone(), item(), itemOrNone(), glyphNumber());
            case 6 -> fillIn(n, item(), item(), step());
            case 7 -> fillIn(n, item(), chance(4) ? Model.NONE : step(), chance(4) ? Model.NONE : step());
            case 8 -> fillIn(n, item(), chance(2) ? Model.NONE : below(3), markClass(), step(), step());
            default -> fillIn(n, item(), markClass(), step(), step());
        }
        if (chance(60)) n[below(6)] = below(320) - 110;
        return n;
    }

    private static void fillIn(int[] n, int... from) {
        System.arraycopy(from, 0, n, 0, from.length);
    }

    private void same(String call, Check.Call mine, Check.Call due) {
        String one = outcome(mine);
        String two = outcome(due);
        told.append("\n  ").append(call).append(" = ").append(two);
        compared++;
        if (!one.equals(two)) {
            CHECK.tell("answered " + one + ", the model " + two + " at the end of:" + told);
            throw new IllegalStateException("differs");
        }
    }

    private static String outcome(Check.Call call) {
        try {
            return Long.toString(call.answer());
        } catch (IndexOutOfBoundsException | IllegalArgumentException | IllegalStateException e) {
            return e.getClass().getSimpleName();
        }
    }

    private void tellLookup() {
        int kind = chance(60) ? 10 : isNarrow ? theme[below(theme.length)] : grows && chance(2) ? 1 : below(10);
        int feature = chance(2) ? 0 : chance(60) ? 7 : below(7);
        int stage = chance(60) ? 2 : below(2);
        int tongue = chance(60) ? 3 : chance(2) ? 0 : below(3);
        int skip = chance(60) ? 6 : chance(2) ? below(2) : below(6);
        same("lookup(" + kind + ", " + feature + ", " + stage + ", " + tongue + ", " + skip + ")",
            () -> real.lookup(kind, feature, stage, tongue, skip), () -> model.lookup(kind, feature, stage, tongue, skip));
    }

    private void tellRule() {
        int count = tables().size();
        int at = chance(40) || count == 0 ? count : below(count);
        int[] n = numbers(at < count ? tables().get(at).kind : 0);
        same("rule(" + at + ", " + n[0] + ", " + n[1] + ", " + n[2] + ", " + n[3] + ", " + n[4] + ", " + n[5] + ")",
            () -> real.rule(at, n[0], n[1], n[2], n[3], n[4], n[5]), () -> model.rule(at, n));
    }

    private void tellGlyph() {
        int glyph = glyphNumber();
        int which = below(4);
        if (which == 0) {
            int its = chance(2) ? markClass() : chance(30) ? 4 : Model.NONE;
            same("setMark(" + glyph + ", " + its + ")", () -> real.setMark(glyph, its), () -> model.setMark(glyph, its));
        } else if (which == 1) {
            int width = below(105) - 1;
            same("setWidth(" + glyph + ", " + width + ")", () -> real.setWidth(glyph, width), () -> model.setWidth(glyph, width));
        } else {
            int group = chance(30) ? 6 : below(isNarrow ? 2 : 4);
            same("setGroup(" + glyph + ", " + group + ")", () -> real.setGroup(glyph, group), () -> model.setGroup(glyph, group));
        }
    }

    private void tellFace() {
        int which = below(10);
        if (which == 0) {
            int f = chance(30) ? 2 : chance(2) ? 0 : below(2);
            same("useFace(" + f + ")", () -> real.useFace(f), () -> model.useFace(f));
        } else if (which < 4) {
            tellLookup();
        } else if (which < 8) {
            tellRule();
        } else {
            tellGlyph();
        }
    }

    private void tellText() {
        int length = model.text.size();
        switch (below(12)) {
            case 0 -> {
                int sign = sign();
                same("lack(" + sign + ")", () -> real.lack(sign) ? 1 : 0, () -> model.lack(sign) ? 1 : 0);
            }
            case 1 -> {
                int tongue = chance(20) ? 3 : 1 + below(2);
                same("setTongue(" + tongue + ")", () -> real.setTongue(tongue), () -> model.setTongue(tongue));
            }
            case 2, 3 -> {
                int from = below(length + 1);
                int to = Math.min(length, from + below(4)) - (chance(10) ? 2 : 0);
                int value = chance(30) ? 4 : below(4);
                same("setExtra(" + from + ", " + to + ", " + value + ")", () -> real.setExtra(from, to, value), () -> model.setExtra(from, to, value));
            }
            case 4, 5 -> {
                int place = below(length + 1);
                same("cut(" + place + ")", () -> real.cut(place), () -> model.cut(place));
            }
            default -> tellSign();
        }
    }

    private void tellSign() {
        int length = model.text.size();
        int place = chance(60) ? length + 1 : chance(2) ? length : below(length + 1);
        int sign = sign();
        same("insert(" + place + ", " + sign + ")", () -> real.insert(place, sign), () -> model.insert(place, sign));
    }

    private void askGlyphs() {
        List<Model.G> row = model.row();
        int glyphs = row.size();
        same("glyphs()", real::glyphs, () -> glyphs);
        for (int i = 0; i < glyphs; i++) {
            int at = i;
            Model.G g = row.get(i);
            same("glyph(" + at + ")", () -> real.glyph(at), () -> g.n);
            same("glyphAnew(" + at + ")", () -> real.glyphAnew(at), () -> g.n);
            same("cluster(" + at + ")", () -> real.cluster(at), () -> g.cluster);
            same("place(" + at + ", 0)", () -> real.place(at, 0), () -> g.x);
            same("place(" + at + ", 1)", () -> real.place(at, 1), () -> g.height);
            same("place(" + at + ", 2)", () -> real.place(at, 2), () -> g.advance);
        }
        int any = below(glyphs + 2) - 1;
        same("glyph(" + any + ")", () -> real.glyph(any), () -> model.glyph(any));
        same("glyphAnew(" + any + ")", () -> real.glyphAnew(any), () -> model.glyph(any));
        same("cluster(" + any + ")", () -> real.cluster(any), () -> model.cluster(any));
        int what = below(5) - 1;
        same("place(" + any + ", " + what + ")", () -> real.place(any, what), () -> model.place(any, what));
    }

    private void askSigns() {
        int length = model.text.size();
        for (int i = 0; i <= length; i++) {
            int at = i;
            same("form(" + at + ")", () -> real.form(at), () -> model.form(at));
            same("run(" + at + ")", () -> real.run(at), () -> model.run(at));
            same("caret(" + at + ")", () -> real.caret(at), () -> model.caret(at));
        }
        int x = below(400) - 60;
        same("hit(" + x + ")", () -> real.hit(x), () -> model.hit(x));
    }

    private void askLines() {
        int length = model.text.size();
        for (int i = 0; i <= length; i++) {
            int at = i;
            same("isSafe(" + at + ")", () -> real.isSafe(at) ? 1 : 0, () -> model.isSafe(at) ? 1 : 0);
        }
        int width = below(chance(3) ? 1200 : 300) - 2;
        same("fill(" + width + ")", () -> real.fill(width), () -> model.fill(width));
        for (int i = 0; i <= length; i++) {
            int at = i;
            same("filling(" + width + ", " + at + ")", () -> real.filling(width, at), () -> model.filling(width, at));
        }
        int lookup = below(13);
        same("size(" + lookup + ")", () -> real.size(lookup), () -> model.size(lookup));
    }

    private void ask() {
        int before = told.length();
        askGlyphs();
        if (chance(3)) askSigns();
        if (chance(3)) askLines();
        told.setLength(before);
    }

    private void go() {
        for (int i = 3 + below(6); i >= 0; i--) tellLookup();
        for (int i = 8 + below(16); i >= 0; i--) tellRule();
        for (int i = below(8); i >= 0; i--) tellGlyph();
        for (int i = below(10); i >= 0; i--) tellSign();
        for (int round = 0; round < 10; round++) {
            for (int i = below(4); i > 0; i--) tellFace();
            for (int i = below(6); i >= 0; i--) tellText();
            ask();
        }
    }

    public static void main(String[] args) {
        int runs = args.length > 0 ? Integer.parseInt(args[0]) : 2500;
        int first = args.length > 1 ? Integer.parseInt(args[1]) : 0;
        for (int seed = first; seed < first + runs; seed++) {
            ModelTest test = new ModelTest(seed);
            try {
                test.go();
            } catch (IllegalStateException e) {
                System.out.println("(seed " + seed + ")");
                break;
            }
        }
        System.out.println("ModelTest: " + compared + " answers compared");
        CHECK.end("ModelTest");
    }
}

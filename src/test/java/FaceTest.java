/** Promises 1 to 9: a new object, faces, lookups, rules and the size of their tables. */
final class FaceTest {
    private static final int NONE = Joinhand.NONE;
    private static final Check CHECK = new Check();

    private static void newObject() {
        Joinhand x = new Joinhand();
        CHECK.is("1: no glyphs", 0, x::glyphs);
        CHECK.index("1: no sign", () -> x.form(0));
        CHECK.index("1: no sign to cut", () -> x.cut(0));
        CHECK.index("1: no lookup", () -> x.size(0));
        CHECK.is("1: nothing to hit", NONE, () -> x.hit(0));
        CHECK.is("1: all is left of a line", 7, () -> x.fill(7));
        CHECK.is("1: the tongue is 1", 1, () -> x.setTongue(1));
        CHECK.is("1: the face 0 is in use", 0, () -> x.useFace(1));
        CHECK.index("1: no lookup in the face 1", () -> x.size(0));
        for (int sign = 0; sign <= 44; sign++) {
            if (sign > 23 && sign < 30) continue;
            int its = sign;
            Joinhand y = Check.with(sign);
            CHECK.is("1: sign " + sign + " is not lacked", sign >= 30 ? 10 : 0, () -> y.run(0));
            CHECK.is("8: sign " + sign + " comes to be lacked", 1, () -> y.lack(its) ? 1 : 0);
            CHECK.is("8: and is so", sign >= 30 ? 11 : 1, () -> y.run(0));
        }
        for (int face = 0; face < 2; face++) {
            x.useFace(face);
            for (int glyph = 0; glyph < 256; glyph++) {
                int its = glyph;
                boolean isMark = glyph >= 21 && glyph <= 23 || glyph == 44 || glyph == 65;
                CHECK.is("1: mark " + glyph, isMark ? 0 : NONE, () -> x.setMark(its, 3));
                CHECK.is("1: group " + glyph, 0, () -> x.setGroup(its, 5));
                CHECK.is("1: width " + glyph, isMark || glyph == 2 || glyph == 3 ? 0 : 10, () -> x.setWidth(its, 100));
            }
        }
    }

    private static void useFace() {
        Joinhand x = new Joinhand();
        CHECK.is("2: the face 0 was in use", 0, () -> x.useFace(1));
        CHECK.index("2: no face -1", () -> x.useFace(-1));
        CHECK.index("2: no face 2", () -> x.useFace(2));
        CHECK.is("2: a wrong face changes nothing", 1, () -> x.useFace(1));
        x.lookup(0, 0, 0, 0, 0);
        CHECK.is("2: the face 1 was in use", 1, () -> x.useFace(0));
        CHECK.index("2: lookups are of one face", () -> x.size(0));
        x.setWidth(10, 4);
        x.useFace(1);
        CHECK.is("2: widths are of one face", 10, () -> x.setWidth(10, 5));
    }

    private static void lookups() {
        Joinhand x = new Joinhand();
        CHECK.index("3: no kind -1", () -> x.lookup(-1, 0, 0, 0, 0));
        CHECK.index("3: no kind 10, and a wrong stage", () -> x.lookup(10, 0, 2, 0, 0));
        CHECK.index("3: no feature -1", () -> x.lookup(0, -1, 0, 0, 0));
        CHECK.index("3: no feature 7, and wrong others", () -> x.lookup(0, 7, 2, 3, 6));
        CHECK.argument("3: no stage -1", () -> x.lookup(0, 0, -1, 0, 0));
        CHECK.argument("3: no stage 2", () -> x.lookup(0, 0, 2, 0, 0));
        CHECK.argument("3: no tongue -1", () -> x.lookup(0, 0, 0, -1, 0));
        CHECK.argument("3: no tongue 3", () -> x.lookup(0, 0, 0, 3, 0));
        CHECK.argument("3: no skip -1", () -> x.lookup(0, 0, 0, 0, -1));
        CHECK.argument("3: no skip 6", () -> x.lookup(0, 0, 0, 0, 6));
        for (int i = 0; i < 12; i++) {
            int its = i;
            CHECK.is("3: lookup " + i, i, () -> x.lookup(its % 10, its % 7, its % 2, its % 3, its % 6));
        }
        CHECK.state("3: a face has 12 lookups at most", () -> x.lookup(0, 0, 0, 0, 0));
        CHECK.argument("3: a wrong stage goes ahead of a full face", () -> x.lookup(0, 0, 2, 0, 0));
        CHECK.index("3: a wrong kind goes ahead of all", () -> x.lookup(10, 0, 2, 0, 0));
        x.useFace(1);
        CHECK.is("3: the other face has none of them", 0, () -> x.lookup(9, 6, 1, 2, 5));
    }

    private static final class Told {
        final int kind;
        final int[] good;
        final int[][] wrong;

        Told(int kind, int[] good, int[]... wrong) {
            this.kind = kind;
            this.good = good;
            this.wrong = wrong;
        }
    }

    private static int[] n(int... numbers) {
        return numbers;
    }

    /** For each kind what is right, and for each of the six numbers what is wrong in its place. */
    private static final Told[] TOLD = {
        new Told(0, n(300, 255, 0, 0, 0, 0), n(-1, 256, 299, 306, NONE), n(-1, 256, 300, NONE), n(1, -1, NONE), n(1, NONE), n(1, NONE), n(1, -1)),
        new Told(1, n(305, 0, 255, NONE, 0, 0), n(-1, 256, 306, NONE), n(-1, 256, 300, NONE), n(-1, 256, NONE), n(-1, 256, 300), n(1, NONE), n(1)),
        new Told(2, n(255, 1, 2, 3, 0, 0), n(256, NONE), n(-1, 256), n(NONE, 256, -1), n(NONE, 256, 300), n(1), n(1)),
        new Told(3, n(0, 300, NONE, 255, 0, 0), n(-1, 299, NONE), n(256, NONE), n(256, 306, -1), n(-1, 256, 300, NONE), n(1), n(1)),
        new Told(4, n(NONE, 5, NONE, 305, 0, 11), n(-1, 256, 306), n(NONE, 256), n(-1, 256), n(-1, 299), n(1, -1, 2, NONE), n(-1, 12)),
        new Told(4, n(7, 300, 9, NONE, 1, 0), n(-2, 256), n(NONE, -1), n(-1, 256, NONE), n(-1, 306), n(2, -1), n(-1, 12)),
        new Told(5, n(NONE, 5, NONE, 6, 0, 0), n(-1, 306), n(NONE, 256), n(-1, 299), n(NONE, 300, 256, -1), n(1), n(1)),
        new Told(6, n(5, 300, -50, 0, 0, 0), n(NONE, 256), n(NONE, 256), n(-51, 51, NONE), n(1), n(1), n(1)),
        new Told(7, n(5, NONE, 50, 0, 0, 0), n(NONE, 256), n(-51, 51), n(-51, 51), n(1, NONE), n(1), n(1)),
        new Told(7, n(301, -50, NONE, 0, 0, 0), n(NONE, 256), n(-51, 51), n(-51, 51), n(1), n(1), n(1)),
        new Told(8, n(5, 2, 3, -50, 50, 0), n(NONE, 256), n(-1, 3), n(-1, 4, NONE), n(-51, 51, NONE), n(-51, 51, NONE), n(1)),
        new Told(8, n(5, NONE, 0, 50, -50, 0), n(NONE, 256), n(-1, 3), n(-1, 4), n(-51, 51), n(-51, 51), n(1, -1)),
        new Told(9, n(300, 3, -50, 50, 0, 0), n(NONE, 299), n(-1, 4, NONE), n(-51, 51, NONE), n(-51, 51, NONE), n(1), n(1)),
    };

    private static long tell(Joinhand x, int[] n) {
        return x.rule(0, n[0], n[1], n[2], n[3], n[4], n[5]);
    }

    private static void rules() {
        for (Told told : TOLD) {
            String name = "4: kind " + told.kind + ": ";
            Joinhand x = new Joinhand();
            CHECK.index(name + "no lookup yet", () -> tell(x, told.good));
            x.lookup(told.kind, 0, 0, 0, 0);
            for (int i = 0; i < 8; i++) {
                for (int j = 0; j < told.wrong.length; j++) {
                    for (int wrong : told.wrong[j]) {
                        int[] bad = told.good.clone();
                        bad[j] = wrong;
                        CHECK.argument(name + wrong + " as the number " + j, () -> tell(x, bad));
                    }
                }
                CHECK.is(name + "what is right", i + 1, () -> tell(x, told.good));
            }
            CHECK.state(name + "a lookup has 8 rules at most", () -> tell(x, told.good));
            int[] bad = told.good.clone();
            bad[0] = 256;
            CHECK.argument(name + "what is wrong goes ahead of a full lookup", () -> tell(x, bad));
            CHECK.index(name + "no lookup goes ahead of all", () -> x.rule(1, 256, 0, 0, 0, 0, 0));
            CHECK.index(name + "no lookup -1", () -> x.rule(-1, 0, 0, 0, 0, 0, 0));
            x.useFace(1);
            CHECK.index(name + "the other face has no such lookup", () -> tell(x, told.good));
        }
        Joinhand x = Check.with(4);
        x.lookup(0, 0, 0, 0, 0);
        CHECK.argument("4: a wrong rule", () -> x.rule(0, 4, 256, 0, 0, 0, 0));
        CHECK.glyphs("4: a wrong rule changes nothing", x, 4);
        x.rule(0, 4, 5, 0, 0, 0, 0);
        x.rule(0, 4, 6, 0, 0, 0, 0);
        CHECK.glyphs("4: the first rule that fits", x, 5);
    }

    private static void marks() {
        Joinhand x = new Joinhand();
        CHECK.index("5: no glyph -1", () -> x.setMark(-1, 0));
        CHECK.index("5: no glyph 256, and a wrong class", () -> x.setMark(256, 4));
        CHECK.argument("5: no class 4", () -> x.setMark(21, 4));
        CHECK.argument("5: no class -1", () -> x.setMark(21, -1));
        CHECK.is("5: what was wrong changed nothing", 0, () -> x.setMark(21, 2));
        CHECK.is("5: the class before", 2, () -> x.setMark(21, NONE));
        CHECK.is("5: none before", NONE, () -> x.setMark(21, 3));
        x.useFace(1);
        CHECK.is("5: the other face is as it was", 0, () -> x.setMark(21, 1));
        x.useFace(0);
        x.setMark(21, NONE);
        x.lookup(Joinhand.LIGATURE, 0, 0, 0, 1);
        x.rule(0, 10, 11, NONE, 100, 0, 0);
        Check.type(x, 10, 4, 11);
        CHECK.glyphs("5: no mark is skipped", x, 10, 4, 11);
        x.setMark(4, 1);
        CHECK.glyphs("5: a mark is skipped", x, 100, 4);
        x.setMark(4, NONE);
        CHECK.glyphs("5: and no more", x, 10, 4, 11);
    }

    private static void groups() {
        Joinhand x = Check.with(4, 5);
        CHECK.index("6: no glyph -1", () -> x.setGroup(-1, 0));
        CHECK.index("6: no glyph 256", () -> x.setGroup(256, 0));
        CHECK.index("6: no group -1", () -> x.setGroup(0, -1));
        CHECK.index("6: no group 6", () -> x.setGroup(0, 6));
        CHECK.is("6: the group before", 0, () -> x.setGroup(4, 5));
        CHECK.is("6: the group before", 5, () -> x.setGroup(4, 2));
        x.lookup(0, 0, 0, 0, 0);
        x.rule(0, 302, 9, 0, 0, 0, 0);
        CHECK.glyphs("6: one of a group", x, 9, 5);
        x.setGroup(5, 2);
        CHECK.glyphs("6: two of a group", x, 9, 9);
        x.setGroup(4, 0);
        CHECK.glyphs("6: one of them no more", x, 4, 9);
        x.useFace(1);
        CHECK.is("6: groups are of one face", 0, () -> x.setGroup(5, 1));
    }

    private static void widths() {
        Joinhand x = Check.with(4, 5);
        CHECK.index("7: no glyph -1", () -> x.setWidth(-1, 0));
        CHECK.index("7: no glyph 256, and a wrong width", () -> x.setWidth(256, 101));
        CHECK.argument("7: no width -1", () -> x.setWidth(0, -1));
        CHECK.argument("7: no width 101", () -> x.setWidth(0, 101));
        CHECK.is("7: the width before", 10, () -> x.setWidth(4, 100));
        CHECK.is("7: the width before", 100, () -> x.setWidth(4, 0));
        x.setWidth(5, 33);
        CHECK.places("7: widths are advances", x, 2, 0, 33);
        x.useFace(1);
        CHECK.is("7: widths are of one face", 10, () -> x.setWidth(5, 1));
        CHECK.places("7: of the face of the run", x, 2, 0, 33);
        x.lack(5);
        CHECK.places("7: of the face of the run", x, 2, 0, 1);
    }

    private static void lacks() {
        Joinhand x = new Joinhand();
        for (int wrong : new int[] {-1, 24, 25, 29, 45, 64, 65, NONE, 1000}) CHECK.argument("8: no sign " + wrong, () -> x.lack(wrong) ? 1 : 0);
        x.useFace(1);
        CHECK.is("8: lacked, whatever face is in use", 1, () -> x.lack(10) ? 1 : 0);
        CHECK.is("8: lacked no more", 0, () -> x.lack(10) ? 1 : 0);
        CHECK.is("8: lacked again", 1, () -> x.lack(10) ? 1 : 0);
        Check.type(x, 10, 11);
        CHECK.runs("8: a run of the face 1", x, 1, 100);
        CHECK.forms("8: no join over runs", x, 0, 0);
    }

    private static void sizes() {
        Joinhand x = new Joinhand();
        CHECK.index("9: no lookup", () -> x.size(0));
        x.lookup(Joinhand.SINGLE, 0, 0, 0, 0);
        CHECK.index("9: no lookup 1", () -> x.size(1));
        CHECK.index("9: no lookup -1", () -> x.size(-1));
        CHECK.is("9: no rules", 0, () -> x.size(0));
        x.rule(0, 10, 11, 0, 0, 0, 0);
        CHECK.is("9: a glyph and its rule", 2, () -> x.size(0));
        x.rule(0, 11, 11, 0, 0, 0, 0);
        CHECK.is("9: two glyphs, two lists", 4, () -> x.size(0));
        x.rule(0, 301, 11, 0, 0, 0, 0);
        CHECK.is("9: an empty group", 4, () -> x.size(0));
        x.setGroup(10, 1);
        CHECK.is("9: 10 has two rules, 11 has one", 2 + 2 + 1, () -> x.size(0));
        x.setGroup(12, 1);
        x.setGroup(13, 1);
        CHECK.is("9: 12 and 13 have the same list", 4 + 2 + 1 + 1, () -> x.size(0));
        x.setGroup(11, 1);
        CHECK.is("9: lists with the same length are two", 4 + 2 + 2 + 1, () -> x.size(0));
        x.rule(0, 300, 11, 0, 0, 0, 0);
        CHECK.is("9: all others have a list of one", 256 + 2 + 2 + 1 + 1, () -> x.size(0));
        for (int i = 4; i < 8; i++) x.rule(0, 300, 11, 0, 0, 0, 0);
        CHECK.is("9: all others have a list of five", 256 + 2 + 2 + 1 + 5, () -> x.size(0));
        Joinhand y = new Joinhand();
        y.lookup(Joinhand.CONTEXT, 0, 0, 0, 0);
        y.rule(0, 300, 10, 301, 300, 0, 0);
        CHECK.is("9: CONTEXT begins with b", 2, () -> y.size(0));
        y.lookup(Joinhand.BACKWARD, 0, 0, 0, 0);
        y.rule(1, NONE, 300, 5, 7, 0, 0);
        CHECK.is("9: BACKWARD begins with b", 257, () -> y.size(1));
        for (int kind : new int[] {1, 2, 3, 6, 7, 8, 9}) {
            Joinhand z = new Joinhand();
            z.setGroup(200, 4);
            z.setGroup(201, 4);
            z.lookup(kind, 0, 0, 0, 1);
            CHECK.is("9: kind " + kind, 1, () -> z.rule(0, 304, 1, kind == 3 ? NONE : 1, kind == 1 || kind == 2 || kind == 3 || kind > 7 ? 1 : 0, kind == 8 ? 1 : 0, 0));
            CHECK.is("9: kind " + kind + " begins with a", 3, () -> z.size(0));
        }
        y.useFace(1);
        CHECK.index("9: the other face has none", () -> y.size(0));
    }

    /** The least and the greatest numbers, wherever a number is told. */
    private static void farNumbers() {
        for (int far : new int[] {Integer.MIN_VALUE, Integer.MIN_VALUE + 1, Integer.MAX_VALUE, Integer.MAX_VALUE - 1}) {
            Joinhand x = Check.with(10, 30);
            CHECK.index("2: far", () -> x.useFace(far));
            CHECK.index("3: far", () -> x.lookup(far, far, far, far, far));
            CHECK.index("3: far", () -> x.lookup(0, far, far, far, far));
            CHECK.argument("3: far", () -> x.lookup(0, 0, far, 0, 0));
            CHECK.argument("3: far", () -> x.lookup(0, 0, 0, far, 0));
            CHECK.argument("3: far", () -> x.lookup(0, 0, 0, 0, far));
            for (int kind = 0; kind < 10; kind++) {
                int its = kind;
                x.lookup(kind, 0, 0, 0, 0);
                CHECK.index("4: far", () -> x.rule(far, 0, 0, 0, 0, 0, 0));
                CHECK.argument("4: far", () -> x.rule(its, far, 0, 0, 0, 0, 0));
                CHECK.argument("4: far", () -> x.rule(its, 0, far, 0, 0, 0, 0));
                CHECK.argument("4: far", () -> x.rule(its, 0, 0, far, 0, 0, 0));
                CHECK.argument("4: far", () -> x.rule(its, 0, 0, 0, far, 0, 0));
                CHECK.argument("4: far", () -> x.rule(its, 0, 0, 0, 0, far, 0));
                CHECK.argument("4: far", () -> x.rule(its, 0, 0, 0, 0, 0, far));
            }
            CHECK.index("5: far", () -> x.setMark(far, far));
            CHECK.argument("5: far", () -> x.setMark(0, far));
            CHECK.index("6: far", () -> x.setGroup(far, 0));
            CHECK.index("6: far", () -> x.setGroup(0, far));
            CHECK.index("7: far", () -> x.setWidth(far, far));
            CHECK.argument("7: far", () -> x.setWidth(0, far));
            CHECK.argument("8: far", () -> x.lack(far) ? 1 : 0);
            CHECK.index("9: far", () -> x.size(far));
            CHECK.index("10: far", () -> x.insert(far, far));
            CHECK.argument("10: far", () -> x.insert(0, far));
            CHECK.index("11: far", () -> x.cut(far));
            CHECK.argument("12: far", () -> x.setTongue(far));
            CHECK.index("13: far", () -> x.setExtra(far, 0, far));
            CHECK.index("13: far", () -> x.setExtra(0, far, far));
            CHECK.argument("13: far", () -> x.setExtra(0, 0, far));
            CHECK.index("15: far", () -> x.glyph(far));
            CHECK.index("16: far", () -> x.glyphAnew(far));
            CHECK.index("17: far", () -> x.cluster(far));
            CHECK.index("18: far", () -> x.place(far, far));
            CHECK.argument("18: far", () -> x.place(0, far));
            CHECK.index("19: far", () -> x.form(far));
            CHECK.index("20: far", () -> x.run(far));
            CHECK.index("21: far", () -> x.caret(far));
            CHECK.argument("22: far", () -> x.hit(far));
            CHECK.index("23: far", () -> x.isSafe(far) ? 1 : 0);
            CHECK.argument("24: far", () -> x.fill(far));
            CHECK.index("25: far", () -> x.filling(far, far));
            CHECK.argument("25: far", () -> x.filling(far, 0));
            CHECK.glyphs("15: nothing was changed", x, 10, 30);
        }
    }

    public static void main(String[] args) {
        farNumbers();
        newObject();
        useFace();
        lookups();
        rules();
        marks();
        groups();
        widths();
        lacks();
        sizes();
        CHECK.end("FaceTest");
    }
}

/** The document's terms about lookups: for each sentence that names a boundary, a test of its own. */
final class LookupEdgesTest {
    private static final int NONE = Joinhand.NONE;
    private static final Check CHECK = new Check();

    // ---- what a lookup is for

    private static void twelveLookups() {
        CHECK.says("A face has lookups, numbered from 0, up to 12");
        Joinhand x = new Joinhand();
        for (int face = 0; face < 2; face++) {
            x.useFace(face);
            for (int i = 0; i < 12; i++) CHECK.is("the number of a lookup", i, () -> x.lookup(0, 0, 0, 0, 0));
            CHECK.state("the thirteenth", () -> x.lookup(0, 0, 0, 0, 0));
            CHECK.is("the last one", 0, () -> x.size(11));
            CHECK.index("none behind it", () -> x.size(12));
        }
    }

    private static void eightRules() {
        CHECK.says("each with up to 8 rules, in the order in which they are told");
        for (int kind = 0; kind < 10; kind++) {
            Joinhand x = new Joinhand();
            x.lookup(kind, 0, 0, 0, 0);
            x.lookup(kind, 0, 0, 0, 0);
            for (int i = 1; i <= 8; i++) CHECK.is("rules of the kind " + kind, i, () -> x.rule(0, 4, 2, 0, 0, 0, 0));
            CHECK.state("the ninth", () -> x.rule(0, 4, 2, 0, 0, 0, 0));
            CHECK.is("another lookup", 1, () -> x.rule(1, 4, 2, 0, 0, 0, 0));
        }
        Joinhand order = Check.with(4, 5);
        order.lookup(Joinhand.SINGLE, 0, 0, 0, 0);
        for (int i = 0; i < 7; i++) order.rule(0, 5, 100 + i, 0, 0, 0, 0);
        order.rule(0, 300, 107, 0, 0, 0, 0);
        CHECK.glyphs("the first and the last one", order, 107, 100);
    }

    /** The forms are BEGIN, MIDDLE, END, none, ALONE and none; EXTRA is 0 to 3, and 0. */
    private static Joinhand withFeature(int feature) {
        Joinhand x = Check.with(10, 11, 12, 0, 13, 21);
        x.setExtra(1, 1, 1);
        x.setExtra(2, 2, 2);
        x.setExtra(3, 3, 3);
        x.lookup(Joinhand.SINGLE, feature, 0, 0, 0);
        x.rule(0, 300, 99, 0, 0, 0, 0);
        return x;
    }

    private static void features() {
        CHECK.says("a glyph has ALWAYS; it has ALONE, BEGIN, MIDDLE or END if that is its form; EXTRA, if its value is above 0; never CALLED.");
        CHECK.glyphs("ALWAYS", withFeature(0), 99, 99, 99, 99, 99, 99);
        CHECK.glyphs("ALONE", withFeature(1), 10, 11, 12, 0, 99, 21);
        CHECK.glyphs("BEGIN", withFeature(2), 99, 11, 12, 0, 13, 21);
        CHECK.glyphs("MIDDLE", withFeature(3), 10, 99, 12, 0, 13, 21);
        CHECK.glyphs("END", withFeature(4), 10, 11, 99, 0, 13, 21);
        CHECK.glyphs("EXTRA", withFeature(5), 10, 99, 99, 99, 13, 21);
        CHECK.glyphs("CALLED", withFeature(6), 10, 11, 12, 0, 13, 21);
    }

    private static void tongues() {
        CHECK.says("A lookup is for a tongue, 1 or 2, or for any, 0: it is passed over if the tongue of the text, 1 at first, is another one.");
        for (int kind = 0; kind < 10; kind++) {
            for (int tongue = 0; tongue <= 2; tongue++) {
                Joinhand x = tongued(kind, tongue);
                boolean isDone = tongue != 2;
                CHECK.is("the kind " + kind + " for the tongue " + tongue + ", at first", isDone ? 1 : 0, () -> isChanged(x) ? 1 : 0);
                x.setTongue(2);
                boolean isDoneThen = tongue != 1;
                CHECK.is("the kind " + kind + " for the tongue " + tongue + ", then 2", isDoneThen ? 1 : 0, () -> isChanged(x) ? 1 : 0);
                x.setTongue(1);
                CHECK.is("the kind " + kind + " for the tongue " + tongue + ", then 1", isDone ? 1 : 0, () -> isChanged(x) ? 1 : 0);
            }
        }
    }

    /** The text 4, 4 and 21, all with EXTRA 1, and a lookup that changes something of it; a CONTEXT calls the lookup 1. */
    private static Joinhand tongued(int kind, int tongue) {
        Joinhand x = Check.with(4, 4, 21);
        x.setExtra(0, 2, 1);
        x.setMark(5, 0);
        x.lookup(kind, 0, 0, tongue, 0);
        x.lookup(Joinhand.SINGLE, Joinhand.CALLED, 0, 0, 0);
        x.rule(1, 4, 6, 0, 0, 0, 0);
        int[][] rules = {
            {4, 6, 0, 0, 0, 0}, {4, 4, 6, NONE, 0, 0}, {4, 6, 6, 6, 0, 0}, {4, 4, NONE, 6, 0, 0}, {NONE, 4, NONE, NONE, 0, 1},
            {NONE, 4, NONE, 6, 0, 0}, {4, 4, 3, 0, 0, 0}, {4, 3, 5, 0, 0, 0}, {4, NONE, 0, 3, 3, 0}, {21, 0, 3, 3, 0, 0},
        };
        int[] n = rules[kind];
        x.rule(0, n[0], n[1], n[2], n[3], n[4], n[5]);
        if (kind == Joinhand.MARK) x.insert(3, 22);
        return x;
    }

    private static boolean isChanged(Joinhand x) {
        for (int i = 0; i < x.glyphs(); i++) {
            if (x.glyph(i) == 6 || x.place(i, 1) != 0 || x.place(i, 2) == 13) return true;
        }
        return false;
    }

    private static void skips() {
        CHECK.says("A lookup skips nothing, all marks, or all marks but those of a class: the glyphs that it skips are as if they were not there for it.");
        for (int its = 0; its < 4; its++) {
            for (int skip = 0; skip < 6; skip++) {
                boolean isSkipped = skip == 1 || skip >= 2 && skip - 2 != its;
                String name = "the class " + its + ", skip " + skip;
                Joinhand x = Check.with(10, 21, 11);
                x.setMark(21, its);
                x.lookup(Joinhand.LIGATURE, 0, 0, 0, skip);
                x.rule(0, 10, 11, NONE, 100, 0, 0);
                if (isSkipped) CHECK.glyphs(name, x, 100, 21);
                else CHECK.glyphs(name, x, 10, 21, 11);
                Joinhand y = Check.with(10, 21, 11);
                y.setMark(21, its);
                y.lookup(Joinhand.SINGLE, 0, 0, 0, skip);
                y.rule(0, 300, 100, 0, 0, 0, 0);
                CHECK.glyphs(name + ", the mark itself", y, 100, isSkipped ? 21 : 100, 100);
                Joinhand none = Check.with(10, 21, 11);
                none.setMark(21, NONE);
                none.lookup(Joinhand.LIGATURE, 0, 0, 0, skip);
                none.rule(0, 10, 11, NONE, 100, 0, 0);
                CHECK.glyphs("no mark, skip " + skip, none, 10, 21, 11);
            }
        }
    }

    private static void firstMarks() {
        CHECK.says("A glyph of a face is a mark of a class, 0 to 3, or none: 21, 22, 23, 44 and 65 are marks of the class 0 at first.");
        Joinhand x = new Joinhand();
        for (int face = 0; face < 2; face++) {
            x.useFace(face);
            for (int glyph = 0; glyph < 256; glyph++) {
                int its = glyph;
                boolean isMark = glyph >= 21 && glyph <= 23 || glyph == 44 || glyph == 65;
                CHECK.is("the glyph " + glyph, isMark ? 0 : NONE, () -> x.setMark(its, 3));
            }
        }
    }

    private static void farMarks() {
        CHECK.says("A glyph of a face is a mark of a class, 0 to 3, or none");
        for (int far : n(0, 255)) {
            for (int its = 0; its < 4; its++) {
                Joinhand x = Check.with(10, 4, 11, 4);
                x.lookup(Joinhand.SINGLE, 0, 0, 0, 0);
                x.rule(0, 4, far, 0, 0, 0, 0);
                x.lookup(Joinhand.LIGATURE, 0, 0, 0, 1);
                x.rule(1, 10, 11, NONE, 100, 0, 0);
                x.lookup(Joinhand.BASE, 0, 0, 0, 0);
                x.rule(2, 100, 0, its, 0, 10, 0);
                x.rule(2, 100, 1, its, 0, 11, 0);
                CHECK.glyphs("the glyph " + far + ", no mark", x, 10, far, 11, far);
                x.setMark(far, its);
                CHECK.glyphs("the glyph " + far + ", a mark", x, 100, far, far);
                CHECK.places("the glyph " + far + " on its parts", x, 1, 0, 10, 11);
            }
        }
    }

    private static void firstGroups() {
        CHECK.says("Each glyph of a face is in a group, 0 to 5, 0 at first.");
        Joinhand x = new Joinhand();
        for (int face = 0; face < 2; face++) {
            x.useFace(face);
            for (int glyph = 0; glyph < 256; glyph++) {
                int its = glyph;
                CHECK.is("the glyph " + glyph, 0, () -> x.setGroup(its, 5));
                CHECK.is("the glyph " + glyph + " then", 5, () -> x.setGroup(its, 0));
            }
        }
    }

    private static void items() {
        CHECK.says("An item, in a rule, is a glyph, told by its number, or one of a group, told by 300 and the group.");
        for (int item = -110; item <= 310; item++) {
            int its = item;
            Joinhand x = new Joinhand();
            x.lookup(Joinhand.SINGLE, 0, 0, 0, 0);
            boolean isItem = item >= 0 && item <= 255 || item >= 300 && item <= 305;
            if (isItem) CHECK.is("the item " + item, 1, () -> x.rule(0, its, 4, 0, 0, 0, 0));
            else CHECK.argument("the item " + item, () -> x.rule(0, its, 4, 0, 0, 0, 0));
        }
        for (int far : n(0, 255)) {
            Joinhand x = Check.with(4, 5, 6);
            x.lookup(Joinhand.SINGLE, 0, 0, 0, 0);
            x.rule(0, 5, far, 0, 0, 0, 0);
            x.lookup(Joinhand.CONTEXT, 0, 0, 0, 0);
            x.lookup(Joinhand.BACKWARD, 0, 0, 0, 0);
            x.lookup(Joinhand.LIGATURE, 0, 0, 0, 0);
            x.rule(2, far, 6, NONE, 7, 0, 0);
            x.rule(2, NONE, 4, far, 8, 0, 0);
            CHECK.glyphs("the glyph " + far + " ahead and behind", x, 8, far, 7);
            x.rule(3, 8, far, 7, 100, 0, 0);
            CHECK.glyphs("the glyph " + far + " in a ligature", x, 100);
        }
        for (int group = 0; group < 6; group++) {
            Joinhand x = Check.with(4, 5);
            x.setGroup(5, (group + 1) % 6);
            x.setGroup(4, group);
            x.lookup(Joinhand.SINGLE, 0, 0, 0, 0);
            x.rule(0, 300 + group, 100, 0, 0, 0, 0);
            CHECK.glyphs("one of the group " + group, x, 100, 5);
        }
    }

    // ---- kinds

    private static Joinhand ruled(int kind, int[] n, int... signs) {
        Joinhand x = Check.with(signs);
        x.lookup(kind, 0, 0, 0, 0);
        x.rule(0, n[0], n[1], n[2], n[3], n[4], n[5]);
        return x;
    }

    private static int[] n(int... numbers) {
        return numbers;
    }

    private static void single() {
        CHECK.says("SINGLE: a is an item, b the glyph in its place.");
        CHECK.glyphs("the least and the greatest glyph", ruled(Joinhand.SINGLE, n(0, 255, 0, 0, 0, 0), 0, 4, 0), 255, 4, 255);
        Joinhand x = ruled(Joinhand.SINGLE, n(0, 255, 0, 0, 0, 0), 0);
        x.lookup(Joinhand.SINGLE, 0, 0, 0, 0);
        x.rule(1, 255, 0, 0, 0, 0, 0);
        CHECK.glyphs("and back", x, 0);
    }

    private static void several() {
        CHECK.says("SEVERAL: a is an item, b and c, and d if it is not NONE, the glyphs in its place.");
        CHECK.glyphs("two", ruled(Joinhand.SEVERAL, n(4, 5, 6, NONE, 0, 0), 9, 4, 9), 9, 5, 6, 9);
        CHECK.glyphs("three", ruled(Joinhand.SEVERAL, n(4, 5, 6, 0, 0, 0), 9, 4, 9), 9, 5, 6, 0, 9);
    }

    private static void choice() {
        CHECK.says("CHOICE: a is an item, b, c or d the glyph in its place, by the value of EXTRA, 1, 2 or 3; with 0 the rule does not fit.");
        Joinhand x = ruled(Joinhand.CHOICE, n(4, 101, 102, 103, 0, 0), 4, 4, 4, 4, 5);
        x.setExtra(1, 1, 1);
        x.setExtra(2, 2, 2);
        x.setExtra(3, 4, 3);
        CHECK.glyphs("0 to 3", x, 4, 101, 102, 103, 5);
        Joinhand called = ruled(Joinhand.CONTEXT, n(NONE, 4, NONE, NONE, 0, 1), 4);
        called.lookup(Joinhand.CHOICE, Joinhand.CALLED, 0, 0, 0);
        called.rule(1, 4, 101, 102, 103, 0, 0);
        CHECK.glyphs("called, with 0", called, 4);
        called.setExtra(0, 0, 2);
        CHECK.glyphs("called, with 2", called, 102);
        Joinhand once = ruled(Joinhand.CHOICE, n(4, 5, 5, 5, 0, 0), 4, 4, 4);
        once.setExtra(0, 2, 1);
        once.rule(0, 5, 6, 6, 6, 0, 0);
        CHECK.glyphs("it goes on behind it", once, 5, 5, 5);
    }

    private static void ligature() {
        CHECK.says("LIGATURE: a and b, and c if it is not NONE, are items, one behind the other; d is the glyph in the place of the first one; the others are taken out.");
        int[] three = n(4, 5, 6, 100, 0, 0);
        CHECK.glyphs("three", ruled(Joinhand.LIGATURE, three, 9, 4, 5, 6, 9), 9, 100, 9);
        CHECK.glyphs("three up to the end", ruled(Joinhand.LIGATURE, three, 4, 5, 6), 100);
        CHECK.glyphs("two of three up to the end", ruled(Joinhand.LIGATURE, three, 4, 5), 4, 5);
        CHECK.glyphs("one of three up to the end", ruled(Joinhand.LIGATURE, three, 4), 4);
        CHECK.glyphs("another third", ruled(Joinhand.LIGATURE, three, 4, 5, 7), 4, 5, 7);
        CHECK.glyphs("another second", ruled(Joinhand.LIGATURE, three, 4, 7, 6), 4, 7, 6);
        CHECK.glyphs("one between", ruled(Joinhand.LIGATURE, three, 4, 9, 5, 6), 4, 9, 5, 6);
        int[] two = n(4, 5, NONE, 100, 0, 0);
        CHECK.glyphs("two up to the end", ruled(Joinhand.LIGATURE, two, 6, 4, 5), 6, 100);
        CHECK.glyphs("one of two up to the end", ruled(Joinhand.LIGATURE, two, 5, 4), 5, 4);
    }

    /** A CONTEXT that calls a SINGLE, which makes 100. */
    private static Joinhand context(int a, int b, int c, int d, int e, int... signs) {
        Joinhand x = ruled(Joinhand.CONTEXT, n(a, b, c, d, e, 1), signs);
        x.lookup(Joinhand.SINGLE, Joinhand.CALLED, 0, 0, 0);
        x.rule(1, 300, 100, 0, 0, 0, 0);
        return x;
    }

    private static void context() {
        CHECK.says("CONTEXT: b and, if it is not NONE, c are items, one behind the other; a, if it is not NONE, the one ahead of them, d, if it is not NONE, the one behind them");
        CHECK.glyphs("b alone", context(NONE, 4, NONE, NONE, 0, 4), 100);
        CHECK.glyphs("b and c", context(NONE, 4, 5, NONE, 0, 4, 5), 100, 5);
        CHECK.glyphs("another c", context(NONE, 4, 5, NONE, 0, 4, 6), 4, 6);
        CHECK.glyphs("no c", context(NONE, 4, 300, NONE, 0, 5, 4), 5, 4);
        CHECK.glyphs("a", context(6, 4, NONE, NONE, 0, 6, 4), 6, 100);
        CHECK.glyphs("another a", context(6, 4, NONE, NONE, 0, 7, 4), 7, 4);
        CHECK.glyphs("no a", context(300, 4, NONE, NONE, 0, 4, 6), 4, 6);
        CHECK.glyphs("d behind b", context(NONE, 4, NONE, 7, 0, 4, 7), 100, 7);
        CHECK.glyphs("another d behind b", context(NONE, 4, NONE, 7, 0, 4, 8), 4, 8);
        CHECK.glyphs("no d behind b", context(NONE, 4, NONE, 300, 0, 7, 4), 7, 4);
        CHECK.glyphs("d behind c", context(NONE, 4, 5, 7, 0, 4, 5, 7), 100, 5, 7);
        CHECK.glyphs("another d behind c", context(NONE, 4, 5, 7, 0, 4, 5, 8), 4, 5, 8);
        CHECK.glyphs("no d behind c", context(NONE, 4, 5, 300, 0, 7, 4, 5), 7, 4, 5);
        CHECK.glyphs("all of them", context(6, 4, 5, 7, 0, 6, 4, 5, 7), 6, 100, 5, 7);
        CHECK.glyphs("all but a", context(6, 4, 5, 7, 0, 8, 4, 5, 7), 8, 4, 5, 7);
    }

    private static void callingAt() {
        CHECK.says("the lookup f is called at the first one (e is 0), or the second one (e is 1)");
        CHECK.glyphs("the first one", context(6, 4, 5, 7, 0, 6, 4, 5, 7), 6, 100, 5, 7);
        CHECK.glyphs("the second one", context(6, 4, 5, 7, 1, 6, 4, 5, 7), 6, 4, 100, 7);
        for (int f = -1; f <= 12; f++) {
            int its = f;
            Joinhand x = Check.with(4);
            x.lookup(Joinhand.CONTEXT, 0, 0, 0, 0);
            for (int i = 1; i < 12; i++) {
                x.lookup(Joinhand.SINGLE, Joinhand.CALLED, 0, 0, 0);
                x.rule(i, 4, 100 + i, 0, 0, 0, 0);
            }
            if (f < 0 || f > 11) {
                CHECK.argument("f is " + f, () -> x.rule(0, NONE, 4, NONE, NONE, 0, its));
                CHECK.glyphs("f is " + f, x, 4);
            } else {
                CHECK.is("f is " + f, 1, () -> x.rule(0, NONE, 4, NONE, NONE, 0, its));
                CHECK.glyphs("f is " + f, x, f == 0 ? 4 : 100 + f);
            }
        }
    }

    private static void backward() {
        CHECK.says("BACKWARD: b is an item, a, if it is not NONE, the one ahead, c, if it is not NONE, the one behind; d is the glyph in its place.");
        CHECK.glyphs("b alone", ruled(Joinhand.BACKWARD, n(NONE, 4, NONE, 100, 0, 0), 4), 100);
        CHECK.glyphs("a", ruled(Joinhand.BACKWARD, n(5, 4, NONE, 100, 0, 0), 5, 4), 5, 100);
        CHECK.glyphs("another a", ruled(Joinhand.BACKWARD, n(5, 4, NONE, 100, 0, 0), 6, 4), 6, 4);
        CHECK.glyphs("no a", ruled(Joinhand.BACKWARD, n(300, 4, NONE, 100, 0, 0), 4, 5), 4, 5);
        CHECK.glyphs("c", ruled(Joinhand.BACKWARD, n(NONE, 4, 5, 100, 0, 0), 4, 5), 100, 5);
        CHECK.glyphs("another c", ruled(Joinhand.BACKWARD, n(NONE, 4, 5, 100, 0, 0), 4, 6), 4, 6);
        CHECK.glyphs("no c", ruled(Joinhand.BACKWARD, n(NONE, 4, 300, 100, 0, 0), 5, 4), 5, 4);
        CHECK.glyphs("a and c", ruled(Joinhand.BACKWARD, n(5, 4, 5, 100, 0, 0), 5, 4, 5, 4, 4, 5), 5, 100, 5, 4, 4, 5);
    }

    // ---- how a lookup goes

    private static void fromTheFirstToTheLast() {
        CHECK.says("A lookup of the kinds SINGLE to BACKWARD goes from glyph to glyph of the row, from the first to the last one (BACKWARD from the last to the first one).");
        CHECK.glyphs("from the first one", ruled(Joinhand.LIGATURE, n(4, 4, NONE, 5, 0, 0), 4, 4, 4), 5, 4);
        CHECK.glyphs("a CONTEXT too", context(4, 4, NONE, NONE, 0, 4, 4, 4), 4, 100, 4);
        CHECK.glyphs("from the last one", ruled(Joinhand.BACKWARD, n(NONE, 4, 4, 5, 0, 0), 4, 4, 4), 4, 5, 4);
        CHECK.glyphs("what is ahead is as it was", ruled(Joinhand.BACKWARD, n(4, 4, NONE, 5, 0, 0), 4, 4, 4), 4, 5, 5);
        CHECK.glyphs("in a run of S", ruled(Joinhand.BACKWARD, n(NONE, 30, 30, 31, 0, 0), 30, 30, 30), 30, 31, 30);
    }

    private static void firstThatFits() {
        CHECK.says("At each one that it does not skip, and that has its feature, the first of its rules that fits is done; a rule fits if all its items do.");
        Joinhand x = ruled(Joinhand.LIGATURE, n(4, 5, 6, 100, 0, 0), 4, 5, 7, 4, 5, 6, 4, 6);
        x.rule(0, 4, 5, NONE, 101, 0, 0);
        x.rule(0, 4, 300, NONE, 102, 0, 0);
        x.rule(0, 4, 6, NONE, 103, 0, 0);
        CHECK.glyphs("the first, the second and the third", x, 101, 7, 100, 102);
        Joinhand feature = Check.with(4, 5, 4, 5);
        feature.setExtra(0, 0, 1);
        feature.setExtra(3, 3, 1);
        feature.lookup(Joinhand.LIGATURE, Joinhand.EXTRA, 0, 0, 0);
        feature.rule(0, 4, 5, NONE, 100, 0, 0);
        CHECK.glyphs("the feature is that of the first item", feature, 100, 4, 5);
        Joinhand back = Check.with(4, 4);
        back.setExtra(1, 1, 3);
        back.lookup(Joinhand.BACKWARD, Joinhand.EXTRA, 0, 0, 0);
        back.rule(0, NONE, 4, NONE, 5, 0, 0);
        CHECK.glyphs("BACKWARD has a feature too", back, 4, 5);
    }

    private static void goingOnBehind() {
        CHECK.says("It goes on behind what was done: behind the glyphs that were put in; behind a ligature; for a CONTEXT behind its items as they are then.");
        CHECK.glyphs("behind two", ruled(Joinhand.SEVERAL, n(4, 4, 4, NONE, 0, 0), 4, 4), 4, 4, 4, 4);
        CHECK.glyphs("behind three", ruled(Joinhand.SEVERAL, n(4, 4, 4, 4, 0, 0), 4, 4), 4, 4, 4, 4, 4, 4);
        CHECK.glyphs("behind a ligature", ruled(Joinhand.LIGATURE, n(4, 5, NONE, 4, 0, 0), 4, 5, 5), 4, 5);
        CHECK.glyphs("the next one is looked at", ruled(Joinhand.LIGATURE, n(4, 5, NONE, 4, 0, 0), 4, 5, 4, 5, 4, 5), 4, 4, 4);
        Joinhand marks = Check.with(10, 21, 11);
        marks.lookup(Joinhand.LIGATURE, 0, 0, 0, 3);
        marks.rule(0, 10, 11, NONE, 100, 0, 0);
        marks.lookup(Joinhand.LIGATURE, 0, 0, 0, 1);
        marks.rule(1, 10, 11, NONE, 101, 0, 0);
        marks.rule(1, 100, 12, NONE, 102, 0, 0);
        marks.insert(3, 12);
        CHECK.glyphs("a later lookup sees what the one ahead did", marks, 102, 21);
        CHECK.glyphs("behind the items of a CONTEXT", context(NONE, 300, 300, NONE, 0, 4, 5, 6, 7, 8), 100, 5, 100, 7, 8);
        CHECK.glyphs("a CONTEXT of one item", context(NONE, 300, NONE, 300, 0, 4, 5, 6), 100, 100, 6);
    }

    private static void nextGlyph() {
        CHECK.says("If no rule fits, it goes on with the next glyph.");
        CHECK.glyphs("the second of what did not fit", ruled(Joinhand.LIGATURE, n(4, 5, NONE, 100, 0, 0), 4, 4, 5), 4, 100);
        CHECK.glyphs("of three", ruled(Joinhand.LIGATURE, n(4, 4, 5, 100, 0, 0), 4, 4, 4, 5), 4, 100);
    }

    private static void whatIsPutIn() {
        CHECK.says("What is put in has the cluster, form, EXTRA, part and number of parts of what it takes the place of, but a ligature the number of parts that is told below.");
        int[][] rules = {{300, 100, 0, 0, 0, 0}, {300, 100, 100, 100, 0, 0}, {300, 100, 100, 100, 0, 0}, {300, 300, NONE, 100, 0, 0}, null, {NONE, 300, NONE, 100, 0, 0}};
        for (int kind : new int[] {0, 1, 2, 3, 5}) {
            int times = kind == 1 ? 3 : 1;
            Joinhand x = Check.with(0, 10, 11, 4);
            x.setExtra(1, 1, 2);
            x.setGroup(0, 1);
            x.setGroup(4, 1);
            x.lookup(kind, 0, 0, 0, 0);
            int[] r = rules[kind];
            x.rule(0, r[0], r[1], r[2], r[3], r[4], r[5]);
            if (kind == 3) x.setGroup(12, 2);
            int due = kind == 1 ? 8 : kind == 3 ? 3 : 4;
            CHECK.is("glyphs of the kind " + kind, due, x::glyphs);
            for (int i = 0; i < times; i++) {
                int at = 1 + i;
                CHECK.is("the cluster of the first one, the kind " + kind, 1, () -> x.cluster(at));
            }
            x.lookup(Joinhand.CHOICE, Joinhand.FORMS + Joinhand.BEGIN, 0, 0, 0);
            x.rule(1, 100, 101, 102, 103, 0, 0);
            for (int i = 0; i < times; i++) {
                int at = 1 + i;
                CHECK.is("form and EXTRA of the first one, the kind " + kind, 102, () -> x.glyph(at));
            }
            CHECK.is("what is behind, the kind " + kind, 4, () -> x.glyph(x.glyphs() - 1));
        }
    }

    /** A mark that belongs to the first of two parts, and what becomes of it and of its base by a lookup. */
    private static void partsArePutIn() {
        int[][] ofMark = {{21, 22, 0, 0, 0, 0}, {21, 22, 23, NONE, 0, 0}, {21, 22, 22, 22, 0, 0}, null, null, {NONE, 21, NONE, 22, 0, 0}};
        int[][] ofBase = {{100, 101, 0, 0, 0, 0}, {100, 4, 101, NONE, 0, 0}, {100, 101, 101, 101, 0, 0}, null, null, {NONE, 100, NONE, 101, 0, 0}};
        for (int kind : new int[] {0, 1, 2, 5}) {
            for (int[] r : new int[][] {ofMark[kind], ofBase[kind]}) {
                Joinhand x = Check.with(10, 21, 11, 23);
                x.setExtra(0, 3, 1);
                x.lookup(Joinhand.LIGATURE, 0, 0, 0, 1);
                x.rule(0, 10, 11, NONE, 100, 0, 0);
                x.lookup(kind, 0, 0, 0, 0);
                x.rule(1, r[0], r[1], r[2], r[3], r[4], r[5]);
                x.lookup(Joinhand.BASE, 0, 0, 0, 0);
                x.rule(2, 300, 0, 0, 0, 10, 0);
                x.rule(2, 300, 1, 0, 0, 11, 0);
                int last = x.glyphs() - 1;
                CHECK.is("the last mark, the kind " + kind, 11, () -> x.place(last, 1));
                CHECK.is("the first mark, the kind " + kind, 10, () -> x.place(last - 1, 1));
                if (kind == 1 && r[0] == 21) CHECK.is("both first marks", 10, () -> x.place(last - 2, 1));
            }
        }
    }

    /** Each glyph that SEVERAL puts in for a ligature has its two parts. */
    private static void numbersOfPartsArePutIn() {
        for (int place = 0; place < 3; place++) {
            Joinhand x = Check.with(10, 11);
            x.lookup(Joinhand.LIGATURE, 0, 0, 0, 0);
            x.rule(0, 10, 11, NONE, 100, 0, 0);
            x.lookup(Joinhand.SEVERAL, 0, 0, 0, 0);
            x.rule(1, 100, place == 0 ? 101 : 4, place == 1 ? 101 : 5, place == 2 ? 101 : 6, 0, 0);
            x.lookup(Joinhand.SEVERAL, 0, 0, 0, 0);
            x.rule(2, 101, 102, 21, NONE, 0, 0);
            x.lookup(Joinhand.BASE, 0, 0, 0, 0);
            x.rule(3, 102, 0, 0, 0, 10, 0);
            x.rule(3, 102, 1, 0, 0, 11, 0);
            int mark = place + 1;
            CHECK.is("the place " + place + " of three", 21, () -> x.glyph(mark));
            CHECK.is("the place " + place + " of three", 11, () -> x.place(mark, 1));
        }
    }

    /** A row of so many glyphs 4: 2, 6, 18 and 54 of one that becomes three, and then some of those that become two. */
    private static Joinhand rowOf(int count) {
        Joinhand x = Check.with(4, 4);
        for (int i = 0; i < 3; i++) {
            x.lookup(Joinhand.SEVERAL, 0, 0, 0, 0);
            x.rule(i, 4, 4, 4, 4, 0, 0);
        }
        x.setExtra(0, 1, 0);
        for (int i = 54; i < count; i++) x.insert(0, 5);
        return x;
    }

    /** A full row, of which ligatures leave less and less. */
    private static void fullRows() {
        Joinhand x = rowOf(64);
        x.lookup(Joinhand.BACKWARD, 0, 1, 0, 0);
        x.rule(3, NONE, 4, 4, 7, 0, 0);
        CHECK.is("BACKWARD, the last one", 4, () -> x.glyph(63));
        CHECK.is("BACKWARD, the one ahead", 7, () -> x.glyph(62));
        x.lookup(Joinhand.LIGATURE, 0, 1, 0, 0);
        x.rule(4, 300, 300, 300, 8, 0, 0);
        CHECK.is("22 are left", 22, x::glyphs);
        x.rule(4, 300, 300, NONE, 9, 0, 0);
        CHECK.is("none is left over", 22, x::glyphs);
        CHECK.is("the last one", 4, () -> x.glyph(21));
        x.insert(0, 5);
        CHECK.is("one more, and the last three do not fit: 63", 21, x::glyphs);
    }

    private static void sixtyFourGlyphs() {
        CHECK.says("If there would be more than 64 glyphs in a row by SEVERAL, that rule does not fit.");
        for (int count = 60; count <= 64; count++) {
            for (int more = 1; more <= 2; more++) {
                boolean fits = count + more <= 64;
                String name = more + " more than " + count;
                Joinhand x = rowOf(count);
                CHECK.is(name + ", ahead of it", count, x::glyphs);
                x.lookup(Joinhand.SEVERAL, 0, 1, 0, 0);
                x.rule(3, 5, 6, 7, more == 1 ? NONE : 8, 0, 0);
                CHECK.is(name + ", the first one", fits ? 6 : 5, () -> x.glyph(0));
                int room = Math.min(64 - count, (count - 54) * more) / more * more;
                CHECK.is(name + ", all of them", count + room, x::glyphs);
                x.rule(3, 5, 9, 9, NONE, 0, 0);
                CHECK.is(name + ", and the next rule", count + 1 <= 64 ? fits ? 6 : 9 : 5, () -> x.glyph(0));
            }
        }
        fullRows();
        Joinhand called = rowOf(64);
        called.lookup(Joinhand.CONTEXT, 0, 0, 0, 0);
        called.rule(3, NONE, 5, NONE, NONE, 0, 4);
        called.lookup(Joinhand.SEVERAL, Joinhand.CALLED, 0, 0, 0);
        called.rule(4, 5, 6, 7, NONE, 0, 0);
        CHECK.is("called, in a full row", 5, () -> called.glyph(0));
        called.cut(0);
        CHECK.is("called, where there is room for one", 6, () -> called.glyph(0));
        CHECK.is("for one alone", 5, () -> called.glyph(2));
        Check.type(called, 30, 10, 11);
        CHECK.is("another row has its own", 66, called::glyphs);
        CHECK.is("which are behind", 11, () -> called.glyph(65));
    }

    // ---- lookups that are called

    /** The text 4, 21 and 5; the CONTEXT calls the lookup 1 at 4. */
    private static Joinhand calls(int kind, int feature, int stage, int tongue, int skip, int... n) {
        Joinhand x = Check.with(4, 21, 5);
        x.setExtra(0, 2, 1);
        x.lookup(Joinhand.CONTEXT, 0, 0, 0, 0);
        x.rule(0, NONE, 4, NONE, NONE, 0, 1);
        x.lookup(kind, feature, stage, tongue, skip);
        x.rule(1, n[0], n[1], n[2], n[3], n[4], n[5]);
        return x;
    }

    private static void notAsked() {
        CHECK.says("A called lookup is done at one glyph alone: whether the lookup is for the tongue, and its feature, are not asked");
        for (int tongue = 0; tongue <= 2; tongue++) {
            for (int feature : new int[] {1, 2, 3, 4, 6}) {
                Joinhand x = calls(Joinhand.SINGLE, feature, 0, tongue, 0, 300, 100, 0, 0, 0, 0);
                CHECK.glyphs("the tongue " + tongue + ", the feature " + feature, x, 100, 21, 5);
            }
        }
        CHECK.glyphs("whatever its stage", calls(Joinhand.SINGLE, 6, 1, 0, 0, 300, 100, 0, 0, 0, 0), 100, 21, 5);
    }

    private static void nothingIsDone() {
        CHECK.says("if it would skip that glyph, there is no such lookup, or it is neither SINGLE, SEVERAL, CHOICE nor LIGATURE, nothing is done");
        for (int skip = 0; skip <= 5; skip++) {
            Joinhand x = calls(Joinhand.SINGLE, 6, 0, 0, skip, 300, 100, 0, 0, 0, 0);
            x.setMark(4, 2);
            boolean isSkipped = skip == 1 || skip >= 2 && skip != 4;
            CHECK.glyphs("a mark of the class 2, skip " + skip, x, isSkipped ? 4 : 100, 21, 5);
        }
        Joinhand none = Check.with(4, 5);
        none.lookup(Joinhand.CONTEXT, 0, 0, 0, 0);
        for (int f = 1; f < 9; f++) none.rule(0, NONE, f < 8 ? 4 : 5, NONE, NONE, 0, f < 8 ? f : 11);
        CHECK.glyphs("no such lookup", none, 4, 5);
        none.useFace(1);
        for (int f = 0; f < 12; f++) {
            none.lookup(Joinhand.SINGLE, Joinhand.CALLED, 0, 0, 0);
            none.rule(f, 300, 100, 0, 0, 0, 0);
        }
        CHECK.glyphs("one of the other face", none, 4, 5);
        int[][] rules = {
            {4, 100, 0, 0, 0, 0}, {4, 100, 101, NONE, 0, 0}, {4, 100, 101, 102, 0, 0}, {4, 5, NONE, 100, 0, 0}, {NONE, 4, NONE, NONE, 0, 2},
            {NONE, 4, NONE, 100, 0, 0}, {4, 21, 7, 0, 0, 0}, {4, 7, 7, 0, 0, 0}, {4, NONE, 0, 7, 7, 0}, {21, 0, 7, 7, 0, 0},
        };
        for (int kind = 0; kind < 10; kind++) {
            Joinhand x = calls(kind, Joinhand.CALLED, 0, 0, 1, rules[kind]);
            x.lookup(Joinhand.SINGLE, Joinhand.CALLED, 0, 0, 0);
            x.rule(2, 4, 100, 0, 0, 0, 0);
            CHECK.is("the kind " + kind, kind <= 3 ? 100 : 4, () -> x.glyph(0));
            CHECK.is("the advance by the kind " + kind, 10, () -> x.place(0, 2));
            CHECK.is("the height by the kind " + kind, 0, () -> x.place(1, 1));
        }
        Joinhand itself = Check.with(4);
        itself.lookup(Joinhand.CONTEXT, 0, 0, 0, 0);
        itself.rule(0, NONE, 4, NONE, NONE, 0, 0);
        CHECK.glyphs("a CONTEXT that calls itself", itself, 4);
    }

    private static void takingInMore() {
        CHECK.says("A LIGATURE that is called may take in glyphs behind the items of the CONTEXT.");
        Joinhand x = calls(Joinhand.LIGATURE, 6, 0, 0, 1, 4, 5, NONE, 100, 0, 0);
        CHECK.glyphs("one, over a mark", x, 100, 21);
        Joinhand two = calls(Joinhand.LIGATURE, 6, 0, 0, 0, 4, 21, 5, 100, 0, 0);
        CHECK.glyphs("two", two, 100);
        two.cut(2);
        CHECK.glyphs("which are not there", two, 4, 21);
    }

    /** A CONTEXT whose second rule makes 99 of each glyph at which it comes along. */
    private static Joinhand goesOn(int[] context, int kind, int skip, int[] called, int... signs) {
        Joinhand x = ruled(Joinhand.CONTEXT, n(context[0], context[1], context[2], context[3], context[4], 1), signs);
        x.rule(0, NONE, 300, NONE, NONE, 0, 2);
        x.lookup(kind, Joinhand.CALLED, 0, 0, skip);
        x.rule(1, called[0], called[1], called[2], called[3], 0, 0);
        x.lookup(Joinhand.SINGLE, Joinhand.CALLED, 0, 0, 0);
        x.rule(2, 300, 99, 0, 0, 0, 0);
        return x;
    }

    private static void behindAContext() {
        CHECK.says("Behind a CONTEXT one goes on behind its last item, or behind what was put in its place or took it in, but one glyph further at least.");
        int[] one = n(NONE, 4, NONE, NONE, 0);
        int[] first = n(NONE, 4, 5, NONE, 0);
        int[] second = n(NONE, 4, 5, NONE, 1);
        CHECK.glyphs("nothing was done, one item", goesOn(one, 0, 0, n(9, 8, 0, 0), 4, 5, 6), 4, 99, 99);
        CHECK.glyphs("nothing was done, two items", goesOn(first, 0, 0, n(9, 8, 0, 0), 4, 5, 6), 4, 5, 99);
        CHECK.glyphs("what is behind is no item", goesOn(n(NONE, 4, 5, 6, 0), 0, 0, n(9, 8, 0, 0), 4, 5, 6), 4, 5, 99);
        CHECK.glyphs("put in for the only one", goesOn(one, 1, 0, n(4, 7, 8, 9), 4, 5), 7, 8, 9, 99);
        CHECK.glyphs("put in for the first one", goesOn(first, 1, 0, n(4, 7, 8, 9), 4, 5, 6), 7, 8, 9, 5, 99);
        CHECK.glyphs("put in for the last one", goesOn(second, 1, 0, n(5, 7, 8, 9), 4, 5, 6), 4, 7, 8, 9, 99);
        CHECK.glyphs("the only one was taken in", goesOn(one, 3, 0, n(4, 5, 6, 7), 4, 5, 6, 8), 7, 99);
        CHECK.glyphs("called where it is skipped, the only one", goesOn(n(NONE, 21, NONE, NONE, 0), 0, 1, n(300, 98, 0, 0), 21, 6, 7), 21, 99, 99);
        CHECK.glyphs("called where it is skipped, the second one", goesOn(n(NONE, 4, 21, NONE, 1), 0, 1, n(300, 98, 0, 0), 4, 21, 6, 7), 4, 21, 99, 99);
        CHECK.glyphs("called what can't be, the only one", goesOn(one, 5, 0, n(NONE, 300, NONE, 98), 4, 5, 6), 4, 99, 99);
        CHECK.glyphs("called what can't be, the second one", goesOn(second, 5, 0, n(NONE, 300, NONE, 98), 4, 5, 6, 7), 4, 5, 99, 99);
        CHECK.glyphs("called at the only one, SINGLE", goesOn(one, 0, 0, n(4, 98, 0, 0), 4, 5, 6), 98, 99, 99);
        CHECK.glyphs("called at the second one, SINGLE", goesOn(second, 0, 0, n(5, 98, 0, 0), 4, 5, 6, 7), 4, 98, 99, 99);
        CHECK.glyphs("both were taken in", goesOn(first, 3, 0, n(4, 5, NONE, 7), 4, 5, 6), 7, 99);
        CHECK.glyphs("both, and one behind them", goesOn(first, 3, 0, n(4, 5, 6, 7), 4, 5, 6, 8), 7, 99);
        CHECK.glyphs("the last one, and those behind it", goesOn(second, 3, 0, n(5, 6, 8, 7), 4, 5, 6, 8, 9), 4, 7, 99);
        CHECK.glyphs("a mark between was left", goesOn(n(NONE, 4, 21, NONE, 0), 3, 1, n(4, 5, NONE, 7), 4, 21, 5, 6), 7, 21, 99);
        CHECK.glyphs("at the end of the row", goesOn(first, 3, 0, n(4, 5, NONE, 7), 4, 5), 7);
        CHECK.glyphs("all of a row", goesOn(first, 1, 0, n(4, 4, 5, NONE), 4, 5), 4, 5, 5);
    }

    // ---- parts and clusters

    /** BASE sets each mark at the height of 10 and its part, 20 for a part above 2. */
    private static Joinhand onParts(int skip, int[] ligature, int... signs) {
        Joinhand x = Check.with(signs);
        x.lookup(Joinhand.BASE, 0, 0, 0, 0);
        for (int part = 0; part < 3; part++) x.rule(0, 300, part, 0, 0, 10 + part, 0);
        x.rule(0, 300, NONE, 0, 0, 20, 0);
        x.lookup(Joinhand.LIGATURE, 0, 0, 0, skip);
        x.rule(1, ligature[0], ligature[1], ligature[2], ligature[3], 0, 0);
        return x;
    }

    private static void numberOfParts() {
        CHECK.says("A glyph has a number of parts, 1 at first; a ligature has those of all its glyphs together.");
        CHECK.places("one", onParts(1, n(99, 99, NONE, 99), 10, 21), 1, 0, 10);
        Joinhand two = onParts(1, n(10, 11, NONE, 100), 10, 11, 21);
        CHECK.places("two", two, 1, 0, 11);
        Joinhand three = onParts(1, n(10, 11, 12, 100), 10, 11, 12, 21);
        CHECK.places("three", three, 1, 0, 12);
        Joinhand more = onParts(1, n(10, 11, NONE, 100), 10, 11, 10, 11, 12, 21);
        more.lookup(Joinhand.LIGATURE, 0, 0, 0, 1);
        more.rule(2, 100, 100, NONE, 101, 0, 0);
        CHECK.glyphs("four", more, 101, 12, 21);
        more.cut(4);
        CHECK.places("four", more, 1, 0, 20);
    }

    private static void partAtFirst() {
        CHECK.says("A mark has a part, NONE at first.");
        Joinhand x = onParts(1, n(10, 11, NONE, 100), 10, 11);
        x.lookup(Joinhand.SEVERAL, 0, 0, 0, 0);
        x.rule(2, 100, 100, 21, NONE, 0, 0);
        CHECK.places("a mark that came later is on the last part", x, 1, 0, 11);
    }

    private static void partsByLigatures() {
        CHECK.says("each glyph that is a mark, and lies behind one of its glyphs and ahead of the next one of these, or, behind the last one, right behind it with nothing but marks between, comes to have as its part");
        CHECK.places("all of them", onParts(1, n(10, 11, 12, 100), 10, 21, 22, 11, 23, 12, 21, 22), 1, 0, 10, 10, 11, 12, 12);
        CHECK.places("a letter between", onParts(1, n(10, 11, NONE, 100), 10, 11, 21, 4, 22), 1, 0, 11, 0, 10);
        CHECK.places("marks ahead", onParts(1, n(10, 11, NONE, 100), 13, 21, 10, 11, 22), 1, 0, 10, 0, 11);
        Joinhand later = onParts(1, n(10, 11, NONE, 100), 10, 11, 21, 4, 22);
        later.lookup(Joinhand.SINGLE, 0, 0, 0, 0);
        later.rule(2, 4, 23, 0, 0, 0, 0);
        CHECK.places("what comes to be a mark later has none, and stands on the last part", later, 1, 0, 11, 11, 11);
        Joinhand taken = onParts(0, n(10, 11, NONE, 100), 10, 11, 4, 5);
        taken.lookup(Joinhand.SINGLE, 0, 0, 0, 0);
        taken.rule(2, 4, 21, 0, 0, 0, 0);
        taken.rule(2, 5, 22, 0, 0, 0, 0);
        taken.lookup(Joinhand.LIGATURE, 0, 0, 0, 0);
        taken.rule(3, 100, 21, NONE, 101, 0, 0);
        CHECK.glyphs("a mark that is one of its glyphs", taken, 101, 22);
        CHECK.places("and one behind it", taken, 1, 0, 12);
        Joinhand noMark = onParts(1, n(10, 11, NONE, 100), 10, 21, 11, 22);
        noMark.setMark(22, 1);
        noMark.rule(0, 300, 1, 1, 0, 30, 0);
        CHECK.places("marks of any class", noMark, 1, 0, 10, 30);
    }

    private static void partsAhead() {
        CHECK.says("the parts of the ligature's glyphs ahead of that one, and its own part; with NONE, the last part of that one");
        Joinhand x = onParts(1, n(11, 12, NONE, 100), 10, 21, 11, 22, 12, 23);
        x.lookup(Joinhand.LIGATURE, 0, 0, 0, 1);
        x.rule(2, 10, 100, NONE, 101, 0, 0);
        CHECK.places("parts that were there", x, 1, 0, 10, 11, 12);
        Joinhand y = onParts(1, n(10, 11, NONE, 100), 10, 21, 11, 22, 12, 23);
        y.lookup(Joinhand.LIGATURE, 0, 0, 0, 1);
        y.rule(2, 100, 12, NONE, 101, 0, 0);
        CHECK.places("a ligature ahead", y, 1, 0, 10, 11, 12);
        Joinhand late = onParts(1, n(11, 12, NONE, 100), 10, 11, 12);
        late.lookup(Joinhand.SEVERAL, 0, 0, 0, 0);
        late.rule(2, 100, 100, 21, NONE, 0, 0);
        late.lookup(Joinhand.LIGATURE, 0, 0, 0, 1);
        late.rule(3, 10, 100, NONE, 101, 0, 0);
        CHECK.places("none yet, behind a glyph of two parts", late, 1, 0, 12);
        late.rule(0, 300, NONE, 0, 0, 0, 0);
        late.lookup(Joinhand.SEVERAL, 0, 0, 0, 0);
        late.rule(4, 101, 101, 4, NONE, 0, 0);
        CHECK.glyphs("which is then on another base", late, 101, 4, 21);
        CHECK.places("whose parts are those of the ligature", late, 1, 0, 0, 12);
    }

    private static void clusters() {
        CHECK.says("with the least and the greatest cluster of a ligature's glyphs, each glyph of the row whose cluster is between these, or the greatest, gets the least one");
        Joinhand x = onParts(1, n(5, 7, 8, 100), 4, 5, 6, 7, 6, 8, 9);
        x.setMark(6, 0);
        CHECK.glyphs("those between", x, 4, 100, 6, 6, 9);
        CHECK.clusters("those between", x, 0, 1, 1, 1, 6);
        Joinhand s = onParts(0, n(44, 31, NONE, 100), 30, 44, 31, 41, 32, 44);
        CHECK.glyphs("over two syllables", s, 30, 100, 41, 32, 44);
        CHECK.clusters("the greatest and the least one", s, 0, 0, 0, 4, 4);
        Joinhand same = onParts(0, n(30, 44, NONE, 100), 4, 30, 44, 41, 31);
        CHECK.clusters("one cluster alone", same, 0, 1, 1, 4);
    }

    // ---- stages

    /** SINGLE lookups that make of 10 a 100 and so on, at the stages told, by their numbers. */
    private static Joinhand staged(int... stages) {
        Joinhand x = Check.with(4);
        for (int i = 0; i < stages.length; i++) {
            x.lookup(Joinhand.SINGLE, 0, stages[i], 0, 0);
            x.rule(i, 4, 100 + i, 0, 0, 0, 0);
            x.rule(i, 100, 110 + i, 0, 0, 0, 0);
        }
        return x;
    }

    private static void stagesOfLookups() {
        CHECK.says("Lookups have a stage, 0 or 1.");
        for (int kind = 0; kind < 10; kind++) {
            int its = kind;
            Joinhand x = new Joinhand();
            CHECK.argument("the stage -1", () -> x.lookup(its, 0, -1, 0, 0));
            CHECK.is("the stage 0", 0, () -> x.lookup(its, 0, 0, 0, 0));
            CHECK.is("the stage 1", 1, () -> x.lookup(its, 0, 1, 0, 0));
            CHECK.argument("the stage 2", () -> x.lookup(its, 0, 2, 0, 0));
        }
        for (int stage = 0; stage <= 1; stage++) {
            CHECK.glyphs("once, in J, the stage " + stage, staged(stage), 100);
            Joinhand x = staged(stage);
            Check.type(x, 30);
            CHECK.glyphs("once, in S, the stage " + stage, x, 100, 30);
        }
    }

    private static void stages() {
        CHECK.says("First all lookups of the kinds SINGLE to BACKWARD of the stage 0 are done, by their numbers.");
        CHECK.glyphs("by their numbers", staged(0, 0), 111);
        CHECK.glyphs("the stage 0 first", staged(1, 0), 101);
        CHECK.glyphs("then the stage 1", staged(0, 1), 111);
        CHECK.glyphs("by their numbers too", staged(1, 1), 111);
    }

    private static void vowelsSetBack() {
        CHECK.says("the glyphs that came of signs 40 and were set at its beginning, and are still there, one behind the other from its first glyph on, are moved, in their order, behind the last glyph 39 (by that number, whatever it came of) of the syllable that has a glyph behind it that came of a consonant, or the carrier; if there is none, they stay");
        CHECK.glyphs("behind the last 39 that fits", Check.with(30, 39, 31, 39, 32, 39, 40, 44), 30, 39, 31, 39, 40, 32, 39, 44);
        CHECK.glyphs("none, and they stay", Check.with(30, 39, 40), 40, 30, 39);
        CHECK.glyphs("no 39 at all", Check.with(30, 40), 40, 30);
        CHECK.glyphs("in each syllable", Check.with(30, 39, 31, 40, 30, 40, 30, 39, 31, 40), 30, 39, 40, 31, 40, 30, 30, 39, 40, 31);
        CHECK.glyphs("behind a syllable of one", Check.with(30, 30, 39, 31, 40, 30), 30, 30, 39, 40, 31, 30);
        CHECK.glyphs("behind the 39 of a carrier", Check.with(39, 30, 40), 64, 39, 40, 30);
        CHECK.glyphs("a climber is no consonant", Check.with(38, 39, 30, 39, 40), 40, 30, 39, 65);
        Joinhand order = Check.with(30, 39, 31, 40, 40, 40);
        order.setExtra(3, 3, 1);
        order.setExtra(4, 4, 2);
        order.setExtra(5, 5, 3);
        order.lookup(Joinhand.CHOICE, 0, 0, 0, 0);
        order.rule(0, 40, 101, 102, 103, 0, 0);
        CHECK.glyphs("in their order, what came of them too", order, 30, 39, 101, 102, 103, 31);
        Joinhand gap = Check.with(30, 39, 31, 40, 40, 40);
        gap.setExtra(4, 4, 1);
        gap.lookup(Joinhand.LIGATURE, 0, 0, 0, 0);
        gap.rule(0, 40, 30, NONE, 100, 0, 0);
        CHECK.glyphs("one that took in a consonant came of 40", gap, 39, 40, 40, 100, 31);
    }

    private static void vowelsStillThere() {
        Joinhand taken = Check.with(30, 39, 31, 40, 40);
        taken.lookup(Joinhand.BACKWARD, 0, 0, 0, 0);
        taken.rule(0, NONE, 40, 30, 41, 0, 0);
        CHECK.glyphs("whatever their number", taken, 30, 39, 40, 41, 31);
        Joinhand number = Check.with(30, 39, 31, 40);
        number.lookup(Joinhand.SINGLE, 0, 0, 0, 0);
        number.rule(0, 30, 39, 0, 0, 0, 0);
        number.rule(0, 39, 100, 0, 0, 0, 0);
        CHECK.glyphs("39 by that number, whatever it came of", number, 39, 40, 100, 31);
        Joinhand merged = Check.with(30, 44, 31, 39, 32, 40);
        merged.lookup(Joinhand.LIGATURE, 0, 0, 0, 0);
        merged.rule(0, 44, 40, 31, 100, 0, 0);
        CHECK.glyphs("not there any more", merged, 30, 100, 39, 32);
        Joinhand behind = Check.with(30, 44, 31, 39, 32, 40, 40);
        behind.lookup(Joinhand.LIGATURE, 0, 0, 0, 0);
        behind.rule(0, 44, 40, NONE, 100, 0, 0);
        CHECK.glyphs("not from the first glyph on", behind, 30, 100, 40, 31, 39, 32);
        CHECK.clusters("as the clusters are one", behind, 0, 0, 0, 0, 0, 0);
        Joinhand carrier = Check.with(41, 40);
        carrier.lookup(Joinhand.SEVERAL, 0, 0, 0, 0);
        carrier.rule(0, 64, 39, 64, NONE, 0, 0);
        CHECK.glyphs("the carrier behind a 39", carrier, 39, 40, 64, 41);
    }

    private static void whatCameOfWhat() {
        CHECK.says("What comes of a glyph by SINGLE, SEVERAL, CHOICE or BACKWARD came of the same sign; a ligature of the sign of its first glyph; the climber came of none of them.");
        int[][] rules = {{31, 100, 0, 0, 0, 0}, {31, 100, 101, NONE, 0, 0}, {31, 100, 100, 100, 0, 0}, {31, 41, NONE, 100, 0, 0}, null, {NONE, 31, NONE, 100, 0, 0}};
        for (int kind : new int[] {0, 1, 2, 3, 5}) {
            Joinhand x = Check.with(30, 39, 31, 40, 41);
            x.setExtra(0, 4, 1);
            x.lookup(kind, 0, 0, 0, 0);
            int[] r = rules[kind];
            x.rule(0, r[0], r[1], r[2], r[3], r[4], r[5]);
            CHECK.is("a consonant by the kind " + kind, 40, () -> x.glyph(2));
            CHECK.is("a consonant by the kind " + kind, 100, () -> x.glyph(3));
            Joinhand y = Check.with(30, 39, 31, 40, 41);
            y.setExtra(0, 4, 1);
            y.lookup(kind, 0, 0, 0, 0);
            y.rule(0, kind == 5 ? r[0] : 40, kind == 5 ? 40 : kind == 3 ? 30 : r[1], r[2], r[3], r[4], r[5]);
            int at = kind == 3 ? 1 : 2;
            CHECK.is("a vowel by the kind " + kind, 100, () -> y.glyph(at));
            CHECK.is("behind 39", 39, () -> y.glyph(at - 1));
        }
        Joinhand first = Check.with(30, 39, 41, 40);
        first.lookup(Joinhand.LIGATURE, 0, 0, 0, 0);
        first.rule(0, 39, 41, NONE, 30, 0, 0);
        first.lookup(Joinhand.SEVERAL, 0, 0, 0, 0);
        first.rule(1, 30, 39, 30, NONE, 0, 0);
        CHECK.glyphs("the first 30 came of a consonant, the other one of 39", first, 39, 40, 30, 39, 30);
        Joinhand climber = Check.with(38, 39, 30, 40);
        climber.lookup(Joinhand.SEVERAL, 0, 0, 0, 0);
        climber.rule(0, 65, 39, 30, NONE, 0, 0);
        CHECK.glyphs("what comes of a climber is no consonant", climber, 40, 30, 39, 30);
    }

    private static void betweenTheStages() {
        CHECK.says("Then all of those of the stage 1; then the glyphs 2 and 3 are taken out; then those of the kinds PAIR to MARK, by their numbers, whatever their stage.");
        Joinhand x = Check.with(30, 39, 31, 40);
        x.lookup(Joinhand.LIGATURE, 0, 1, 0, 0);
        x.rule(0, 40, 31, NONE, 100, 0, 0);
        x.rule(0, 40, 30, NONE, 101, 0, 0);
        CHECK.glyphs("the stage 1 behind the vowels", x, 30, 39, 100);
        Joinhand y = Check.with(30, 39, 31, 40);
        y.lookup(Joinhand.SINGLE, 0, 1, 0, 0);
        y.rule(0, 30, 39, 0, 0, 0, 0);
        y.rule(0, 39, 41, 0, 0, 0, 0);
        CHECK.glyphs("the vowels ahead of the stage 1", y, 39, 41, 40, 31);
        Joinhand once = Check.with(30, 39, 31, 40);
        once.lookup(Joinhand.SINGLE, 0, 0, 0, 0);
        once.rule(0, 39, 110, 0, 0, 0, 0);
        once.lookup(Joinhand.SINGLE, 0, 1, 0, 0);
        once.rule(1, 110, 39, 0, 0, 0, 0);
        CHECK.glyphs("the vowels not behind the stage 1", once, 40, 30, 39, 31);
        for (int stage = 0; stage <= 1; stage++) {
            Joinhand out = Check.with(10, 2, 11, 3, 12, 4);
            out.lookup(Joinhand.LIGATURE, 0, stage, 0, 0);
            out.rule(0, 2, 11, NONE, 100, 0, 0);
            out.rule(0, 11, 12, NONE, 101, 0, 0);
            out.lookup(Joinhand.SINGLE, 0, stage, 0, 0);
            out.rule(1, 12, 3, 0, 0, 0, 0);
            out.rule(1, 3, 13, 0, 0, 0, 0);
            CHECK.glyphs("2 and 3 behind the stage " + stage, out, 10, 100, 13, 4);
            Joinhand pair = Check.with(4, 2, 5, 3, 6);
            pair.lookup(Joinhand.PAIR, 0, stage, 0, 0);
            pair.rule(0, 4, 5, 1, 0, 0, 0);
            pair.rule(0, 5, 6, 2, 0, 0, 0);
            pair.lookup(Joinhand.PAIR, 0, 1 - stage, 0, 0);
            pair.rule(1, 5, 6, 4, 0, 0, 0);
            CHECK.places("2 and 3 ahead of PAIR of the stage " + stage, pair, 2, 11, 16, 10);
        }
    }

    public static void main(String[] args) {
        twelveLookups();
        eightRules();
        features();
        tongues();
        skips();
        firstMarks();
        farMarks();
        firstGroups();
        items();
        single();
        several();
        choice();
        ligature();
        context();
        callingAt();
        backward();
        fromTheFirstToTheLast();
        firstThatFits();
        goingOnBehind();
        nextGlyph();
        whatIsPutIn();
        partsArePutIn();
        numbersOfPartsArePutIn();
        sixtyFourGlyphs();
        notAsked();
        nothingIsDone();
        takingInMore();
        behindAContext();
        numberOfParts();
        partAtFirst();
        partsByLigatures();
        partsAhead();
        clusters();
        stagesOfLookups();
        stages();
        vowelsSetBack();
        vowelsStillThere();
        whatCameOfWhat();
        betweenTheStages();
        CHECK.end("LookupEdgesTest");
    }
}

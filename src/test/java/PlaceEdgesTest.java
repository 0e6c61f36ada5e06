/** The document's terms about places, carets, breaks and lines: for each sentence that names a boundary, a test of its own. */
final class PlaceEdgesTest {
    private static final int NONE = Joinhand.NONE;
    private static final Check CHECK = new Check();

    // ---- advances and heights

    private static void firstWidths() {
        CHECK.says("The advance of a glyph is its width in its face, at first 0 for 2, 3 and the first marks, 10 for all others, and what PAIR adds.");
        Joinhand x = new Joinhand();
        for (int face = 0; face < 2; face++) {
            x.useFace(face);
            for (int glyph = 0; glyph < 256; glyph++) {
                int its = glyph;
                boolean isThin = glyph == 2 || glyph == 3 || glyph >= 21 && glyph <= 23 || glyph == 44 || glyph == 65;
                CHECK.is("the width of " + glyph, isThin ? 0 : 10, () -> x.setWidth(its, 1));
            }
        }
        CHECK.places("marks and letters", Check.with(10, 21, 22, 23, 11), 2, 10, 0, 0, 0, 10);
        CHECK.places("the climber, the carrier and 44", Check.with(38, 39, 30, 39, 39, 44), 2, 10, 10, 0, 10, 10, 0);
        Joinhand mark = Check.with(4, 21);
        mark.setMark(4, 0);
        mark.setMark(21, NONE);
        CHECK.places("what is made a mark keeps its width", mark, 2, 10, 0);
        Joinhand both = Check.with(4, 5);
        both.setWidth(4, 100);
        both.setWidth(5, 0);
        both.lookup(Joinhand.PAIR, 0, 0, 0, 0);
        both.rule(0, 4, 5, 50, 0, 0, 0);
        CHECK.places("what PAIR adds", both, 2, 150, 0);
        both.lookup(Joinhand.PAIR, 0, 0, 0, 0);
        both.rule(1, 4, 5, -50, 0, 0, 0);
        CHECK.places("two lookups", both, 2, 100, 0);
        both.setWidth(4, 0);
        CHECK.places("none", both, 2, 0, 0);
        both.rule(1, 4, 5, 50, 0, 0, 0);
        CHECK.places("the first rule that fits", both, 2, 0, 0);
    }

    private static Joinhand pair(int feature, int skip, int c, int... signs) {
        Joinhand x = Check.with(signs);
        x.lookup(Joinhand.PAIR, feature, 0, 0, skip);
        x.rule(0, 301, 301, c, 0, 0, 0);
        x.setGroup(4, 1);
        x.setGroup(30, 1);
        return x;
    }

    private static void pairs() {
        CHECK.says("PAIR: a and b are items, one behind the other; c is added to the advance of the first one.");
        CHECK.places("50", pair(0, 0, 50, 4, 4), 2, 60, 10);
        CHECK.places("-50", pair(0, 0, -50, 4, 4), 2, -40, 10);
        CHECK.places("0", pair(0, 0, 0, 4, 4), 2, 10, 10);
        CHECK.places("one alone", pair(0, 0, 5, 4), 2, 10);
        CHECK.places("another first", pair(0, 0, 5, 5, 4), 2, 10, 10);
        CHECK.places("another second", pair(0, 0, 5, 4, 5), 2, 10, 10);
        CHECK.places("one between", pair(0, 0, 5, 4, 5, 4), 2, 10, 10, 10);
        CHECK.places("a mark between", pair(0, 0, 5, 4, 21, 4), 2, 10, 0, 10);
        CHECK.places("a mark that is skipped", pair(0, 1, 5, 4, 21, 4), 2, 15, 0, 10);
        CHECK.places("in another run", pair(0, 0, 5, 30, 10, 30), 2, 10, 10, 10);
        CHECK.places("in a run of S", pair(0, 0, 5, 30, 30), 2, 15, 10);
        Joinhand feature = pair(Joinhand.EXTRA, 0, 5, 4, 4, 4);
        feature.setExtra(1, 1, 1);
        CHECK.places("with the feature", feature, 2, 10, 15, 10);
    }

    private static void pairsGoOn() {
        CHECK.says("A PAIR goes on with the second one of what it did.");
        CHECK.places("all but the last one", pair(0, 0, 1, 4, 4, 4, 4, 4), 2, 11, 11, 11, 11, 10);
        CHECK.places("over marks", pair(0, 1, 1, 4, 21, 4, 22, 4), 2, 11, 0, 11, 0, 10);
        Joinhand most = pair(0, 0, 1, 4, 4, 4, 4, 4, 4, 4, 4, 4, 4, 4, 4, 4, 4, 4, 4);
        CHECK.places("sixteen", most, 2, 11, 11, 11, 11, 11, 11, 11, 11, 11, 11, 11, 11, 11, 11, 11, 10);
    }

    /** The runs of S 30, 31, 32, and so on, each with a rule of CURSIVE: where it is entered and left. */
    private static Joinhand cursive(int... heights) {
        Joinhand x = new Joinhand();
        x.lookup(Joinhand.CURSIVE, 0, 0, 0, 1);
        for (int i = 0; 2 * i < heights.length; i++) {
            x.rule(0, 30 + i, heights[2 * i], heights[2 * i + 1], 0, 0, 0);
            x.insert(i, 30 + i);
        }
        return x;
    }

    private static void cursives() {
        CHECK.says("CURSIVE: for two glyphs one behind the other, both with a rule that fits (the first one), if the first one is left at a height, and the second one entered, the height of the second one is that of the first one, and the height at which that is left, less that at which the second one is entered");
        CHECK.places("left and entered", cursive(NONE, 5, 2, NONE), 1, 0, 3);
        CHECK.places("0 is a height", cursive(NONE, 4, 0, 0, 0, 0, 0, NONE), 1, 0, 4, 4, 4);
        CHECK.places("the first one is not left", cursive(1, NONE, 2, 3, 1, 1), 1, 0, 0, 2);
        CHECK.places("the second one is not entered", cursive(1, 5, NONE, 3, 1, 1), 1, 0, 0, 2);
        CHECK.places("neither", cursive(NONE, NONE, NONE, NONE), 1, 0, 0);
        CHECK.places("the greatest heights", cursive(50, 50, -50, 50, -50, 50, -50, NONE), 1, 0, 100, 200, 300);
        CHECK.places("the least heights", cursive(-50, -50, 50, -50, 50, -50, 50, NONE), 1, 0, -100, -200, -300);
        Joinhand first = cursive(NONE, 5, NONE, NONE, 2, 2);
        first.rule(0, 31, 2, 2, 0, 0, 0);
        CHECK.places("the first rule that fits", first, 1, 0, 0, 0);
        Joinhand none = cursive(NONE, 5, 2, 9, 2, NONE);
        none.insert(1, 37);
        CHECK.places("one without a rule", none, 1, 0, 0, 0, 7);
        Joinhand mark = cursive(NONE, 5, 2, 9);
        mark.insert(1, 44);
        CHECK.places("over a mark", mark, 1, 0, 0, 3);
        Joinhand most = Check.with(30, 30, 30, 30, 30, 30, 30, 30, 30, 30, 30, 30, 30, 30, 30, 30);
        most.lookup(Joinhand.CURSIVE, 0, 0, 0, 0);
        most.rule(0, 300, -50, 50, 0, 0, 0);
        CHECK.is("sixteen", 1500, () -> most.place(15, 1));
        Joinhand runs = Check.with(10, 30, 11);
        runs.lookup(Joinhand.CURSIVE, 0, 0, 0, 0);
        runs.rule(0, 300, 1, 5, 0, 0, 0);
        CHECK.places("not over runs", runs, 1, 0, 0, 0);
    }

    private static void featureOfBoth() {
        CHECK.says("the feature is asked of both");
        for (int which = 0; which < 4; which++) {
            Joinhand x = Check.with(30, 31);
            x.setExtra(0, 0, which & 1);
            x.setExtra(1, 1, which >> 1);
            x.lookup(Joinhand.CURSIVE, Joinhand.EXTRA, 0, 0, 0);
            x.rule(0, 300, 1, 5, 0, 0, 0);
            CHECK.places("the features " + which, x, 1, 0, which == 3 ? 4 : 0);
        }
    }

    // ---- marks

    private static Joinhand based(int skip, int... signs) {
        Joinhand x = Check.with(signs);
        x.lookup(Joinhand.BASE, 0, 0, 0, skip);
        return x;
    }

    private static void bases() {
        CHECK.says("BASE: a mark's base is the nearest glyph ahead that is no mark, whatever the lookup skips");
        Joinhand x = based(2, 30, 31, 44, 44, 44);
        x.rule(0, 30, NONE, 0, 1, 1, 0);
        CHECK.places("the nearest one has no rule", x, 1, 0, 0, 0, 0, 0);
        x.rule(0, 31, NONE, 0, 2, 2, 0);
        CHECK.places("over other marks", x, 1, 0, 0, 2, 2, 2);
        Joinhand other = based(2, 10, 21, 22);
        other.setMark(21, 1);
        other.rule(0, 300, NONE, 0, 2, 2, 0);
        CHECK.places("over a mark that is skipped, which itself is not set", other, 1, 0, 0, 2);
        Joinhand all = based(1, 10, 21);
        all.rule(0, 300, NONE, 0, 2, 2, 0);
        CHECK.places("all marks are skipped", all, 1, 0, 0);
        Joinhand none = based(0, 21, 22);
        none.rule(0, 300, NONE, 0, 2, 2, 0);
        CHECK.places("no base", none, 1, 0, 0);
        none.insert(0, 30);
        CHECK.places("none in the run", none, 1, 0, 0, 0);
        Joinhand noMark = based(0, 10, 11);
        noMark.rule(0, 300, NONE, 0, 2, 2, 0);
        CHECK.places("what is no mark is not set", noMark, 1, 0, 0);
        Joinhand carrier = based(0, 44);
        carrier.rule(0, 64, NONE, 0, 2, 2, 0);
        CHECK.places("a carrier", carrier, 1, 0, 2);
    }

    private static void rulesOfBase() {
        CHECK.says("the rule that fits is the first one for the base, the class and the part of the mark, NONE being the last part of the base");
        for (int its = 0; its < 4; its++) {
            Joinhand x = based(0, 10, 21);
            x.setMark(21, its);
            for (int i = 0; i < 4; i++) x.rule(0, 10, NONE, i, 0, 10 + i, 0);
            CHECK.places("the class " + its, x, 1, 0, 10 + its);
        }
        for (int count = 1; count <= 4; count++) {
            Joinhand x = based(0, 10, 10, 10, 10, 21);
            x.lookup(Joinhand.LIGATURE, 0, 0, 0, 0);
            if (count == 2) x.rule(1, 10, 10, NONE, 100, 0, 0);
            if (count == 3) x.rule(1, 10, 10, 10, 100, 0, 0);
            if (count == 4) x.rule(1, 10, 10, NONE, 100, 0, 0);
            x.lookup(Joinhand.LIGATURE, 0, 1, 0, 0);
            if (count == 4) x.rule(2, 100, 100, NONE, 101, 0, 0);
            if (count == 3) x.cut(0);
            for (int part = 0; part < 3; part++) x.rule(0, 300, part, 0, 0, 10 + part, 0);
            int last = x.glyphs() - 1;
            CHECK.is("NONE on a base of so many parts: " + count, count <= 3 ? 9 + count : 0, () -> x.place(last, 1));
            x.rule(0, 300, NONE, 0, 0, 20, 0);
            CHECK.is("and a rule for any part: " + count, count <= 3 ? 9 + count : 20, () -> x.place(last, 1));
        }
        Joinhand first = based(0, 10, 21);
        first.rule(0, 11, NONE, 0, 0, 1, 0);
        first.rule(0, 10, 1, 0, 0, 2, 0);
        first.rule(0, 10, NONE, 1, 0, 3, 0);
        first.rule(0, 300, NONE, 0, 0, 4, 0);
        first.rule(0, 10, 0, 0, 0, 5, 0);
        CHECK.places("the first one", first, 1, 0, 4);
    }

    private static void whereMarksAre() {
        CHECK.says("the mark is then at d from where its base stands, and at the height of its base and e");
        for (int d : new int[] {-50, 0, 50}) {
            for (int e : new int[] {-50, 0, 50}) {
                Joinhand x = based(0, 30, 44, 31);
                x.setWidth(44, 4);
                x.rule(0, 30, NONE, 0, d, e, 0);
                CHECK.places("d is " + d, x, 0, 0, d, 14);
                CHECK.places("e is " + e, x, 1, 0, e, 0);
                Joinhand y = based(0, 10, 21, 11);
                y.setWidth(21, 4);
                y.rule(0, 10, NONE, 0, d, e, 0);
                CHECK.places("in J, d is " + d, y, 0, 14, 14 + d, 0);
                CHECK.places("in J, e is " + e, y, 1, 0, e, 0);
            }
        }
    }

    private static void marksOnMarks() {
        CHECK.says("MARK: if the glyph right ahead of a mark, skipped ones aside, is a mark, it is then at c from where that one is, and at its height and d.");
        Joinhand x = Check.with(30, 44, 44, 44);
        x.lookup(Joinhand.MARK, 0, 0, 0, 0);
        x.rule(0, 300, 0, -50, 50, 0, 0);
        CHECK.places("on marks alone", x, 0, 0, 10, -40, -90);
        CHECK.places("on marks alone", x, 1, 0, 0, 50, 100);
        Joinhand skipped = Check.with(10, 21, 22, 23);
        skipped.setMark(22, 1);
        skipped.lookup(Joinhand.MARK, 0, 0, 0, 2);
        skipped.rule(0, 300, 0, 0, 7, 0, 0);
        skipped.rule(0, 300, 1, 0, 8, 0, 0);
        CHECK.places("the one between is skipped, and is not set", skipped, 1, 0, 0, 0, 7);
        skipped.setMark(21, 1);
        CHECK.places("all ahead are skipped up to a letter", skipped, 1, 0, 0, 0, 0);
        Joinhand between = Check.with(10, 21, 4, 22);
        between.lookup(Joinhand.MARK, 0, 0, 0, 0);
        between.rule(0, 300, 0, 0, 7, 0, 0);
        CHECK.places("a mark, but not right ahead", between, 1, 0, 0, 0, 0);
        Joinhand begin = Check.with(21, 22);
        begin.lookup(Joinhand.MARK, 0, 0, 0, 0);
        begin.rule(0, 21, 0, 3, 7, 0, 0);
        CHECK.places("without a base", begin, 1, 0, 7);
        CHECK.places("without a base", begin, 0, 0, 3);
        for (int its = 0; its < 4; its++) {
            Joinhand y = Check.with(10, 21, 22);
            y.setMark(22, its);
            y.lookup(Joinhand.MARK, 0, 0, 0, 0);
            for (int i = 0; i < 4; i++) y.rule(0, 21, i, 0, 10 + i, 0, 0);
            CHECK.places("the class " + its, y, 1, 0, 0, 10 + its);
        }
    }

    private static void rulesOfMark() {
        CHECK.says("MARK: a is an item, a mark on which others are set, b a class of marks; c and d are where such a mark is set.");
        for (int item : new int[] {21, 303, 22, 300}) {
            Joinhand x = Check.with(10, 21, 22);
            x.setGroup(21, 3);
            x.lookup(Joinhand.MARK, 0, 0, 0, 0);
            x.rule(0, item, 0, 50, -50, 0, 0);
            boolean fits = item == 21 || item == 303;
            CHECK.places("the item " + item, x, 0, 0, 0, fits ? 50 : 0);
            CHECK.places("the item " + item, x, 1, 0, 0, fits ? -50 : 0);
        }
    }

    private static void featureOfTheMark() {
        CHECK.says("For BASE and MARK the feature is asked of the mark.");
        for (int which = 0; which < 4; which++) {
            Joinhand x = based(0, 30, 44);
            x.lookup(Joinhand.BASE, Joinhand.EXTRA, 0, 0, 0);
            x.rule(1, 300, NONE, 0, 0, 9, 0);
            x.setExtra(0, 0, which & 1);
            x.setExtra(1, 1, which >> 1);
            CHECK.places("BASE, the features " + which, x, 1, 0, which >= 2 ? 9 : 0);
            Joinhand y = Check.with(21, 22);
            y.lookup(Joinhand.MARK, Joinhand.EXTRA, 0, 0, 0);
            y.rule(0, 300, 0, 0, 9, 0, 0);
            y.setExtra(0, 0, which & 1);
            y.setExtra(1, 1, which >> 1);
            CHECK.places("MARK, the features " + which, y, 1, 0, which >= 2 ? 9 : 0);
        }
    }

    private static void lastLookupCounts() {
        CHECK.says("The last lookup that sets a mark counts");
        Joinhand x = based(0, 10, 21, 22);
        x.rule(0, 10, NONE, 0, 0, 1, 0);
        x.lookup(Joinhand.MARK, 0, 0, 0, 0);
        x.rule(1, 21, 0, 0, 5, 0, 0);
        CHECK.places("MARK behind BASE", x, 1, 0, 1, 6);
        x.lookup(Joinhand.BASE, 0, 0, 0, 0);
        x.rule(2, 11, NONE, 0, 0, 9, 0);
        CHECK.places("one that does not fit", x, 1, 0, 1, 6);
        x.rule(2, 10, NONE, 0, 0, 3, 0);
        CHECK.places("BASE behind MARK", x, 1, 0, 3, 3);
        x.lookup(Joinhand.MARK, Joinhand.CALLED, 0, 0, 0);
        x.rule(3, 21, 0, 0, 5, 0, 0);
        CHECK.places("one without its feature", x, 1, 0, 3, 3);
    }

    private static void reckonedInTheEnd() {
        CHECK.says("where it is, and its height, are reckoned in the end, by where the glyph on which it is set is, and its height, then, whatever CURSIVE tells of the mark");
        Joinhand x = based(0, 30, 31, 44, 44);
        x.rule(0, 31, NONE, 0, 1, 2, 0);
        CHECK.places("ahead of PAIR", x, 0, 0, 10, 11, 11);
        x.lookup(Joinhand.PAIR, 0, 0, 0, 0);
        x.rule(1, 30, 31, 7, 0, 0, 0);
        CHECK.places("a PAIR behind BASE", x, 0, 0, 17, 18, 18);
        x.lookup(Joinhand.CURSIVE, 0, 0, 0, 0);
        x.rule(2, 300, 0, 20, 0, 0, 0);
        CHECK.places("a CURSIVE behind BASE, for all", x, 1, 0, 20, 22, 22);
        Joinhand y = Check.with(10, 21, 22);
        y.setMark(22, 1);
        y.lookup(Joinhand.MARK, 0, 0, 0, 0);
        y.rule(0, 21, 1, 3, 3, 0, 0);
        CHECK.places("a mark on one that is not set", y, 1, 0, 0, 3);
        y.lookup(Joinhand.BASE, 0, 0, 0, 0);
        y.rule(1, 10, NONE, 0, 20, 20, 0);
        CHECK.places("a BASE behind MARK", y, 1, 0, 20, 23);
        CHECK.places("a BASE behind MARK", y, 0, 0, 20, 23);
        Joinhand ahead = Check.with(30, 44);
        ahead.lookup(Joinhand.CURSIVE, 0, 0, 0, 0);
        ahead.rule(0, 300, 0, 20, 0, 0, 0);
        CHECK.places("CURSIVE alone", ahead, 1, 0, 20);
        ahead.lookup(Joinhand.BASE, 0, 0, 0, 0);
        ahead.rule(1, 30, NONE, 0, 0, 1, 0);
        CHECK.places("CURSIVE ahead of BASE", ahead, 1, 0, 1);
    }

    private static void heightsOtherwise() {
        CHECK.says("Heights are 0 otherwise, and a glyph stands where it is by advances.");
        CHECK.places("heights", Check.with(10, 21, 4, 30, 44, 40), 1, 0, 0, 0, 0, 0, 0);
        Joinhand x = Check.with(30, 44, 31);
        x.setWidth(44, 3);
        CHECK.places("a mark that is not set", x, 0, 0, 10, 13);
        CHECK.places("and in J", Check.with(10, 21, 11), 0, 10, 10, 0);
    }

    private static void runsInARow() {
        CHECK.says("Runs stand one behind the other, from the left to the right, the first one at 0; a run is as wide as all its advances.");
        CHECK.places("J, S and J", Check.with(10, 11, 21, 30, 44, 31, 12, 13), 0, 10, 0, 0, 20, 30, 30, 50, 40);
        Joinhand x = Check.with(30, 31, 10);
        x.lookup(Joinhand.PAIR, 0, 0, 0, 0);
        x.rule(0, 30, 31, -50, 0, 0, 0);
        CHECK.places("a run that is less wide than 0", x, 0, 0, -40, -30);
        Joinhand empty = Check.with(30, 2, 31);
        empty.lack(2);
        CHECK.places("a run without glyphs", empty, 0, 0, 10);
        CHECK.runs("a run without glyphs", empty, 10, 111, 210);
        Joinhand wide = Check.with(4, 30);
        wide.lookup(Joinhand.BASE, 0, 0, 0, 0);
        wide.setMark(30, 0);
        wide.setWidth(4, 100);
        CHECK.places("as wide as advances", wide, 0, 0, 100);
    }

    private static void leftAndRight() {
        CHECK.says("In a run of J it goes from the right to the left: a glyph stands at the right end of the run, less the advances of those ahead of it, and its own.");
        Joinhand x = Check.with(4, 5, 6);
        x.setWidth(4, 1);
        x.setWidth(5, 20);
        x.setWidth(6, 100);
        CHECK.places("J", x, 0, 120, 100, 0);
        x.insert(0, 30);
        CHECK.says("In a run of S each glyph stands where the advances of those ahead of it in the run end.");
        CHECK.places("S", x, 0, 0, 10, 11, 31);
    }

    // ---- carets

    private static void signsOfClusters() {
        CHECK.says("The signs of a cluster are those from its number up to the next greater number of a cluster of the run that some glyph has, or to the end of the run; signs of a run ahead of its first cluster belong to none.");
        CHECK.carets("up to the next cluster", Check.with(30, 2, 3, 31), 0, 3, 6, 10);
        CHECK.carets("to the end of the run", Check.with(30, 2, 10), 0, 5, 20);
        CHECK.carets("to the end of the text", Check.with(30, 2, 2, 2, 2), 0, 2, 4, 6, 8);
        CHECK.carets("ahead of the first one", Check.with(2, 3, 30), 0, 0, 0);
        CHECK.carets("a syllable", Check.with(30, 39, 31, 44, 32), 0, 7, 15, 22, 30);
        Joinhand merged = Check.with(30, 44, 31, 44, 32);
        merged.lookup(Joinhand.LIGATURE, 0, 0, 0, 0);
        merged.rule(0, 44, 31, NONE, 100, 0, 0);
        CHECK.carets("two syllables that merged", merged, 0, 5, 10, 15, 20);
    }

    private static void carets() {
        CHECK.says("The caret of a sign is, in a run of S, where the advances of all glyphs of the run with lesser clusters end, and, with k signs in its cluster, of which j are ahead of it, the advances of all glyphs of its cluster times j, divided by k, rounded down; in a run of J that much from the right end.");
        CHECK.carets("S", Check.with(10, 30, 31), 10, 10, 20);
        CHECK.carets("J", Check.with(30, 10, 11), 0, 30, 20);
        Joinhand lig = Check.with(10, 11, 12, 30, 31, 32);
        lig.lookup(Joinhand.LIGATURE, 0, 0, 0, 0);
        lig.rule(0, 10, 11, 12, 100, 0, 0);
        lig.rule(0, 30, 31, 32, 100, 0, 0);
        CHECK.carets("rounded down", lig, 10, 7, 4, 10, 13, 16);
        lig.setWidth(100, 1);
        CHECK.carets("to 0", lig, 1, 1, 1, 1, 1, 1);
        lig.setWidth(100, 2);
        CHECK.carets("2 for three signs", lig, 2, 2, 1, 2, 2, 3);
        lig.setWidth(100, 0);
        CHECK.carets("0 for three signs", lig, 0, 0, 0, 0, 0, 0);
        lig.insert(6, 33);
        lig.insert(3, 13);
        lig.lookup(Joinhand.PAIR, 0, 0, 0, 0);
        lig.rule(1, 100, 300, -10, 0, 0, 0);
        CHECK.carets("rounded down below 0", lig, 0, 4, 7, 10, 0, -4, -7, -10);
        Joinhand several = Check.with(30, 44, 31);
        several.lookup(Joinhand.SEVERAL, 0, 0, 0, 0);
        several.rule(0, 30, 4, 5, 6, 0, 0);
        CHECK.carets("all glyphs of the cluster", several, 0, 15, 30);
    }

    private static void caretsOfNone() {
        CHECK.says("For a sign that belongs to none it is the beginning of the run (in J its right end).");
        CHECK.carets("J", Check.with(2, 3, 4, 5), 20, 20, 20, 10);
        CHECK.carets("no glyph", Check.with(2, 3), 0, 0);
        Joinhand x = Check.with(30, 2, 31, 30);
        x.lack(2);
        x.lack(31);
        CHECK.carets("a later run of S", x, 0, 10, 10, 20);
        Joinhand y = Check.with(10, 2, 11, 10);
        y.lack(2);
        y.lack(11);
        CHECK.carets("a later run of J", y, 10, 20, 20, 30);
        Joinhand gone = Check.with(4, 30, 31, 32);
        gone.lookup(Joinhand.SINGLE, 0, 0, 0, 0);
        gone.rule(0, 4, 2, 0, 0, 0, 0);
        gone.rule(0, 30, 3, 0, 0, 0, 0);
        CHECK.carets("signs whose glyphs were taken out", gone, 0, 0, 0, 10);
    }

    // ---- breaks

    private static void safeBreaks() {
        CHECK.says("A place between two signs is safe, if the text ahead of it and the text from it on, each shaped as a text of its own, one behind the other, have the same glyphs");
        CHECK.safe("nothing changes", Check.with(4, 30, 10, 11), true, true, true);
        Joinhand glyph = Check.with(10, 11);
        glyph.lookup(Joinhand.SINGLE, Joinhand.FORMS + Joinhand.BEGIN, 0, 0, 0);
        glyph.rule(0, 10, 100, 0, 0, 0, 0);
        CHECK.safe("another glyph ahead", glyph, false);
        Joinhand behind = Check.with(10, 11);
        behind.lookup(Joinhand.SINGLE, Joinhand.FORMS + Joinhand.END, 0, 0, 0);
        behind.rule(0, 11, 100, 0, 0, 0, 0);
        CHECK.safe("another glyph behind", behind, false);
        Joinhand fewer = Check.with(4, 5, 6);
        fewer.lookup(Joinhand.LIGATURE, 0, 0, 0, 0);
        fewer.rule(0, 5, 6, NONE, 5, 0, 0);
        CHECK.safe("fewer glyphs", fewer, true, false);
        CHECK.safe("more glyphs", Check.with(30, 44), false);
        CHECK.safe("runs that end there", Check.with(10, 30, 11, 31), true, true, true);
        CHECK.safe("a script that comes from behind", Check.with(0, 4, 30), true, true);
        CHECK.safe("sixteen", Check.with(4, 4, 4, 4, 4, 4, 4, 4, 4, 4, 4, 4, 4, 4, 4, 4), true, true, true, true, true, true, true, true, true, true, true, true, true, true, true);
    }

    private static void safeClusters() {
        CHECK.says("clusters (those of the second text with that place added)");
        CHECK.safe("that place added", Check.with(30, 31, 32), true, true);
        CHECK.safe("another cluster alone", Check.with(30, 39, 31), false, false);
        CHECK.safe("a mark of J", Check.with(10, 21, 11), false, true);
    }

    private static void safeAdvancesAndHeights() {
        CHECK.says("advances, heights, and the same marks that were set by BASE or MARK, on the same glyphs, at the same distances");
        Joinhand pair = Check.with(4, 5, 6);
        pair.lookup(Joinhand.PAIR, 0, 0, 0, 0);
        pair.rule(0, 4, 5, 1, 0, 0, 0);
        pair.rule(0, 5, 6, 0, 0, 0, 0);
        CHECK.safe("another advance", pair, false, true);
        Joinhand cursive = Check.with(4, 5, 6);
        cursive.lookup(Joinhand.CURSIVE, 0, 0, 0, 0);
        cursive.rule(0, 4, 0, 1, 0, 0, 0);
        cursive.rule(0, 5, 0, 0, 0, 0, 0);
        cursive.rule(0, 6, 1, 0, 0, 0, 0);
        CHECK.safe("another height", cursive, false, true);
        CHECK.places("though the last one is at 0", cursive, 1, 0, 1, 0);
        cursive.cut(0);
        CHECK.safe("another height below 0", cursive, false);
    }

    private static void safeMarks() {
        Joinhand set = Check.with(4, 5);
        set.setMark(5, 1);
        CHECK.safe("a mark that is not set", set, true);
        set.lookup(Joinhand.BASE, 0, 0, 0, 0);
        set.rule(0, 4, NONE, 1, 0, 0, 0);
        CHECK.safe("a mark that is set at no distance", set, false);
        set.insert(0, 6);
        CHECK.safe("ahead of both", set, true, false);
        Joinhand on = Check.with(10, 11, 12, 13);
        on.setMark(11, 2);
        on.setMark(12, 1);
        on.lookup(Joinhand.BASE, 0, 0, 0, 0);
        on.rule(0, 10, NONE, 1, 3, 2, 0);
        CHECK.safe("the same mark on the same glyph", on, false, false, true);
        on.lookup(Joinhand.MARK, Joinhand.FORMS + Joinhand.END, 0, 0, 0);
        on.rule(1, 11, 1, 3, 2, 0, 0);
        CHECK.safe("on another glyph", on, false, false, false);
        Joinhand far = Check.with(10, 11, 12);
        far.setMark(11, 1);
        far.lookup(Joinhand.BASE, 0, 0, 0, 0);
        far.rule(0, 10, NONE, 1, 3, 2, 0);
        CHECK.safe("the same distance", far, false, true);
        far.lookup(Joinhand.BASE, Joinhand.FORMS + Joinhand.END, 0, 0, 0);
        far.rule(1, 10, NONE, 1, 4, 2, 0);
        CHECK.safe("another distance", far, false, false);
    }

    // ---- lines

    private static void whereStrokesStand() {
        CHECK.says("a stroke may stand behind each sign 10 to 15 or 20 whose form is BEGIN or MIDDLE, and whose cluster is not that of the next sign of its run that is no mark");
        for (int sign = 10; sign <= 20; sign++) {
            boolean joins = sign <= 15 || sign == 20;
            CHECK.fillings("BEGIN of " + sign, Check.with(sign, 16), 30, joins ? 1 : 0, 0);
            CHECK.fillings("MIDDLE of " + sign, Check.with(10, sign, 16), 40, sign >= 16 && sign <= 18 ? 1 : 0, joins ? 1 : 0, 0);
            CHECK.fillings("ALONE of " + sign, Check.with(sign), 20, 0);
            CHECK.fillings("END of " + sign, Check.with(10, sign), 30, sign == 19 ? 0 : 1, 0);
        }
        CHECK.fillings("marks are passed over", Check.with(10, 21, 22, 16), 30, 1, 0, 0, 0);
        CHECK.fillings("the JOINER is of the same cluster", Check.with(10, 2, 16), 30, 0, 0, 0);
        CHECK.fillings("the JOINER at the end", Check.with(10, 2), 30, 0, 0);
        CHECK.fillings("behind the JOINER", Check.with(2, 10, 16), 30, 0, 1, 0);
        Joinhand lig = Check.with(10, 11, 12);
        lig.lookup(Joinhand.LIGATURE, 0, 0, 0, 0);
        lig.rule(0, 10, 11, NONE, 100, 0, 0);
        CHECK.fillings("not within a ligature", lig, 30, 0, 1, 0);
        lig.rule(0, 100, 12, NONE, 101, 0, 0);
        lig.lookup(Joinhand.LIGATURE, 0, 0, 0, 0);
        lig.rule(1, 100, 12, NONE, 101, 0, 0);
        CHECK.fillings("not at all", lig, 30, 0, 0, 0);
        CHECK.is("not at all", 20, () -> lig.fill(30));
    }

    private static void strokesThatFit() {
        CHECK.says("As many strokes as fit are set, each as wide as the glyph 20 of the face 0 (none, if that is 0)");
        Joinhand x = Check.with(10, 16);
        for (int wide : new int[] {0, 1, 2, 3, 7, 99, 100}) {
            x.setWidth(20, wide);
            for (int missing = 0; missing <= 201; missing++) {
                int width = 20 + missing;
                int strokes = wide == 0 ? 0 : missing / wide;
                CHECK.is("strokes of " + wide + " in " + missing, strokes, () -> x.filling(width, 0));
                CHECK.is("what is left", missing - strokes * wide, () -> x.fill(width));
            }
        }
        x.setWidth(20, 1);
        CHECK.is("the most", 9980, () -> x.filling(10000, 0));
        x.lack(10);
        x.lack(16);
        x.useFace(1);
        x.setWidth(20, 7);
        CHECK.is("of the face 0, whatever the face of the run", 10, () -> x.filling(30, 0));
    }

    private static void strokesInTurn() {
        CHECK.says("one behind the last sign where it may stand, one behind the one ahead of that, and so on, again and again");
        Joinhand x = Check.with(10, 11, 12, 13);
        CHECK.fillings("none", x, 49, 0, 0, 0, 0);
        CHECK.fillings("one", x, 50, 0, 0, 1, 0);
        CHECK.fillings("two", x, 60, 0, 1, 1, 0);
        CHECK.fillings("three", x, 70, 1, 1, 1, 0);
        CHECK.fillings("four", x, 80, 1, 1, 2, 0);
        CHECK.fillings("five", x, 90, 1, 2, 2, 0);
        CHECK.fillings("six", x, 109, 2, 2, 2, 0);
        CHECK.fillings("over runs", Check.with(10, 16, 30, 11, 16), 60, 0, 0, 0, 1, 0);
        CHECK.fillings("over runs", Check.with(10, 16, 30, 11, 16), 70, 1, 0, 0, 1, 0);
    }

    private static void blanks() {
        CHECK.says("What is left is shared by the blanks: each gets what is left divided by their number, rounded down, and the first ones one more each.");
        Joinhand x = Check.with(0, 4, 0, 30, 0);
        for (int missing = 0; missing <= 12; missing++) {
            int first = (missing + 2) / 3;
            int second = (missing + 1) / 3;
            CHECK.fillings("so much is left: " + missing, x, 50 + missing, first, 0, second, 0, missing / 3);
            int width = 50 + missing;
            CHECK.is("nothing is left", 0, () -> x.fill(width));
        }
        CHECK.fillings("behind strokes", Check.with(10, 16, 0, 0), 55, 1, 0, 3, 2);
        CHECK.is("one blank gets all", 9990, () -> Check.with(0).filling(10000, 0));
        CHECK.is("no blank", 5, () -> Check.with(10, 16).fill(25));
        CHECK.is("other signs are no blanks", 5, () -> Check.with(1, 3, 4).fill(25));
    }

    public static void main(String[] args) {
        firstWidths();
        pairs();
        pairsGoOn();
        cursives();
        featureOfBoth();
        bases();
        rulesOfBase();
        whereMarksAre();
        marksOnMarks();
        rulesOfMark();
        featureOfTheMark();
        lastLookupCounts();
        reckonedInTheEnd();
        heightsOtherwise();
        runsInARow();
        leftAndRight();
        signsOfClusters();
        carets();
        caretsOfNone();
        safeBreaks();
        safeClusters();
        safeAdvancesAndHeights();
        safeMarks();
        whereStrokesStand();
        strokesThatFit();
        strokesInTurn();
        blanks();
        CHECK.end("PlaceEdgesTest");
    }
}

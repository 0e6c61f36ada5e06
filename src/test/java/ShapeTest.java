/** Promises 14 to 19: what is shaped, from the signs to the places of glyphs. */
final class ShapeTest {
    private static final int NONE = Joinhand.NONE;
    private static final Check CHECK = new Check();

    private static void wrongPlaces() {
        Joinhand x = Check.with(4, 2, 5);
        CHECK.is("14: the JOINER is taken out", 2, x::glyphs);
        CHECK.index("15: no glyph -1", () -> x.glyph(-1));
        CHECK.index("15: no glyph 2", () -> x.glyph(2));
        CHECK.index("16: no glyph -1", () -> x.glyphAnew(-1));
        CHECK.index("16: no glyph 2", () -> x.glyphAnew(2));
        CHECK.index("17: no glyph -1", () -> x.cluster(-1));
        CHECK.index("17: no glyph 2", () -> x.cluster(2));
        CHECK.index("18: no glyph -1", () -> x.place(-1, 0));
        CHECK.index("18: no glyph 2, and a wrong what", () -> x.place(2, 3));
        CHECK.argument("18: no what 3", () -> x.place(1, 3));
        CHECK.argument("18: no what -1", () -> x.place(1, -1));
        CHECK.index("19: no place -1", () -> x.form(-1));
        CHECK.index("19: no place 3", () -> x.form(3));
        CHECK.clusters("17: clusters", x, 0, 2);
        CHECK.places("18: where they are", x, 0, 10, 0);
        CHECK.places("18: how high", x, 1, 0, 0);
        CHECK.places("18: their advances", x, 2, 10, 10);
    }

    private static void forms() {
        CHECK.forms("19: both", Check.with(10, 15, 20, 11), 1, 2, 2, 3);
        CHECK.forms("19: ahead alone", Check.with(10, 16, 10, 18, 17, 10), 1, 3, 1, 3, 0, 0);
        CHECK.forms("19: not at all", Check.with(10, 19, 10, 20, 19), 0, 0, 1, 3, 0);
        CHECK.forms("19: marks are passed over", Check.with(10, 21, 22, 23, 16), 1, NONE, NONE, NONE, 3);
        CHECK.forms("19: not by others", Check.with(10, 0, 10, 3, 10, 4, 16, 1, 16), 0, NONE, 0, NONE, 0, NONE, 0, NONE, 0);
        CHECK.forms("19: the JOINER", Check.with(2, 10, 2, 16, 2, 19, 2), NONE, 2, NONE, 3, NONE, 0, NONE);
        CHECK.forms("19: the JOINER and marks", Check.with(2, 21, 10, 21, 2), NONE, NONE, 2, NONE, NONE);
        CHECK.forms("19: in S", Check.with(30, 2, 39, 44), NONE, NONE, NONE, NONE);
        CHECK.forms("19: over runs", Check.with(10, 30, 11), 0, NONE, 0);
        Joinhand x = Check.with(10, 11, 12);
        x.lack(11);
        CHECK.forms("19: over faces", x, 0, 0, 0);
        for (int form = 0; form < 4; form++) {
            x.lookup(Joinhand.SINGLE, Joinhand.FORMS + form, 0, 0, 0);
            x.rule(form, 300, 100 + form, 0, 0, 0, 0);
        }
        x.lack(11);
        CHECK.glyphs("15: by forms", x, 101, 102, 103);
        x.insert(2, 3);
        CHECK.glyphs("15: by forms", x, 101, 103, 100);
        Joinhand y = Check.with(30, 0);
        for (int feature = 1; feature <= 4; feature++) {
            y.lookup(Joinhand.SINGLE, feature, 0, 0, 0);
            y.rule(feature - 1, 300, 100, 0, 0, 0, 0);
        }
        CHECK.glyphs("15: no forms in S", y, 30, 0);
    }

    private static void clustersOfJ() {
        CHECK.clusters("17: marks", Check.with(21, 22, 10, 21, 23, 11, 0, 22), 0, 1, 2, 2, 2, 5, 6, 6);
        Joinhand x = Check.with(10, 21, 22);
        x.lack(21);
        CHECK.clusters("17: marks of another run", x, 0, 1, 2);
        Joinhand y = Check.with(10, 21);
        y.setMark(10, 0);
        CHECK.clusters("17: marks are signs here, not glyphs", y, 0, 0);
    }

    private static void syllables() {
        Joinhand x = Check.with(30, 39, 31, 39, 2, 32, 39, 3, 40, 44, 41, 42);
        CHECK.glyphs("15: one syllable", x, 30, 39, 31, 39, 40, 32, 39, 44, 41, 42);
        CHECK.clusters("17: one syllable", x, 0, 0, 0, 0, 0, 0, 0, 0, 0, 0);
        CHECK.clusters("17: a syllable each", Check.with(30, 31, 43, 40, 0, 43, 43, 42, 34, 44), 0, 1, 2, 2, 4, 5, 6, 6, 8, 8);
        CHECK.glyphs("15: a vowel by itself", Check.with(43, 42, 40, 44, 40), 40, 40, 43, 42, 44);
        CHECK.clusters("17: 39 and two joiners", Check.with(30, 39, 2, 2, 31), 0, 0, 4);
        CHECK.glyphs("15: 39 and two joiners, a carrier", Check.with(30, 39, 2, 2, 40), 30, 39, 40, 64);
        CHECK.clusters("17: 2 without 39", Check.with(30, 2, 39, 31), 0, 2, 2, 2);
        CHECK.glyphs("15: 2 without 39", Check.with(30, 2, 39, 31), 30, 64, 39, 31);
        CHECK.glyphs("15: carriers", Check.with(39, 39, 40, 30, 44, 39, 31), 64, 39, 40, 64, 39, 30, 44, 64, 39, 31);
        CHECK.clusters("17: carriers", Check.with(39, 39, 40, 30, 44, 39, 31), 0, 0, 1, 1, 1, 3, 3, 5, 5, 5);
        for (int sign : new int[] {41, 42, 44}) CHECK.glyphs("15: a carrier ahead of " + sign, Check.with(sign, 40), 40, 64, sign);
        CHECK.glyphs("15: a carrier ahead of 40", Check.with(0, 40, 30), 0, 40, 64, 30);
        CHECK.places("18: it is 10 wide", Check.with(44), 2, 10, 0);
        Joinhand x2 = Check.with(30, 39, 31);
        x2.lack(39);
        CHECK.glyphs("15: syllables end with their run", x2, 30, 64, 39, 31);
        Joinhand extra = Check.with(44);
        extra.setExtra(0, 0, 3);
        extra.lookup(Joinhand.SINGLE, Joinhand.EXTRA, 0, 0, 0);
        extra.rule(0, 300, 100, 0, 0, 0, 0);
        CHECK.glyphs("15: a carrier has EXTRA 0", extra, 64, 100);
    }

    private static void climbers() {
        CHECK.glyphs("15: a climber", Check.with(38, 39, 30), 30, 65);
        CHECK.clusters("17: a climber", Check.with(4, 38, 39, 30, 41), 0, 1, 1, 1);
        CHECK.glyphs("15: no climber behind 2", Check.with(38, 39, 2, 30), 38, 39, 30);
        CHECK.glyphs("15: no climber without a consonant", Check.with(38, 39), 38, 39);
        CHECK.glyphs("15: no climber but at the beginning", Check.with(31, 39, 38, 39, 30), 31, 39, 38, 39, 30);
        CHECK.glyphs("15: one climber alone", Check.with(38, 39, 38, 39, 30), 38, 39, 30, 65);
        CHECK.glyphs("15: behind 39 and 3", Check.with(38, 39, 30, 39, 31, 39, 3, 41), 30, 39, 31, 39, 65, 41);
        Joinhand three = Check.with(38, 39, 30, 39, 3, 40);
        three.lookup(Joinhand.SINGLE, 0, 0, 0, 0);
        three.rule(0, 3, 103, 0, 0, 0, 0);
        CHECK.glyphs("15: the vowel ahead of all", three, 40, 30, 39, 103, 65);
        Joinhand x = Check.with(38, 39, 30);
        x.setExtra(0, 0, 2);
        x.lookup(Joinhand.CHOICE, 0, 0, 0, 0);
        x.rule(0, 300, 100, 101, 102, 0, 0);
        CHECK.glyphs("15: a climber has the EXTRA of the 38", x, 30, 101);
        x.setExtra(0, 2, 3);
        x.setExtra(0, 0, 0);
        CHECK.glyphs("15: a climber has the EXTRA of the 38", x, 102, 65);
    }

    private static void vowelsSetBack() {
        CHECK.glyphs("15: behind the last 39 with a consonant behind it", Check.with(30, 39, 31, 39, 32, 39, 40, 44, 40), 30, 39, 31, 39, 40, 40, 32, 39, 44);
        CHECK.glyphs("15: none, and they stay", Check.with(30, 39, 40), 40, 30, 39);
        CHECK.glyphs("15: the climber came of no consonant", Check.with(38, 39, 30, 39, 40), 40, 30, 39, 65);
        CHECK.glyphs("15: behind the carrier's 39", Check.with(39, 31, 40), 64, 39, 40, 31);
        Joinhand x = Check.with(30, 39, 31, 40);
        x.lookup(Joinhand.SINGLE, 0, 0, 0, 0);
        x.rule(0, 31, 110, 0, 0, 0, 0);
        CHECK.glyphs("15: what came of a consonant", x, 30, 39, 40, 110);
        x.rule(0, 39, 111, 0, 0, 0, 0);
        CHECK.glyphs("15: no 39 by its number", x, 40, 30, 111, 110);
        x.rule(0, 30, 39, 0, 0, 0, 0);
        CHECK.glyphs("15: a 39 whatever it came of", x, 39, 40, 111, 110);
        x.lookup(Joinhand.SEVERAL, 0, 0, 0, 0);
        x.rule(1, 40, 120, 121, NONE, 0, 0);
        CHECK.glyphs("15: what came of the vowel", x, 39, 120, 121, 111, 110);
        Joinhand stages = Check.with(30, 39, 31, 40);
        stages.lookup(Joinhand.SINGLE, 0, 1, 0, 0);
        stages.rule(0, 40, 100, 0, 0, 0, 0);
        stages.rule(0, 39, 101, 0, 0, 0, 0);
        stages.lookup(Joinhand.LIGATURE, 0, 0, 0, 0);
        stages.rule(1, 40, 30, NONE, 102, 0, 0);
        CHECK.glyphs("15: a ligature came of its first one; stage 1 later", stages, 101, 102, 31);
        Joinhand once = Check.with(30, 39, 31, 40);
        once.lookup(Joinhand.SINGLE, 0, 0, 0, 0);
        once.rule(0, 39, 110, 0, 0, 0, 0);
        once.lookup(Joinhand.SINGLE, 0, 1, 0, 0);
        once.rule(1, 110, 39, 0, 0, 0, 0);
        CHECK.glyphs("15: not behind the stage 1", once, 40, 30, 39, 31);
        Joinhand still = Check.with(30, 39, 31, 40);
        still.lookup(Joinhand.SEVERAL, 0, 0, 0, 0);
        still.rule(0, 30, 30, 40, NONE, 0, 0);
        CHECK.glyphs("15: a 40 that came of a consonant", still, 30, 40, 39, 40, 31);
        Joinhand lig = Check.with(30, 40, 39, 31);
        lig.lookup(Joinhand.LIGATURE, 0, 0, 0, 0);
        lig.rule(0, 30, 64, NONE, 100, 0, 0);
        CHECK.glyphs("15: by merged clusters", lig, 100, 39, 40, 31);
        CHECK.clusters("17: merged clusters", lig, 0, 0, 0, 0);
        Joinhand carrier = Check.with(30, 39, 40, 3, 42);
        carrier.setMark(64, 1);
        carrier.lookup(Joinhand.LIGATURE, 0, 0, 0, 1);
        carrier.rule(0, 39, 3, 42, 39, 0, 0);
        CHECK.glyphs("15: a carrier counts", carrier, 30, 39, 40, 64);
    }

    private static void simpleKinds() {
        Joinhand x = Check.with(4, 5, 6);
        x.lookup(Joinhand.SINGLE, 0, 0, 0, 0);
        x.rule(0, 4, 5, 0, 0, 0, 0);
        x.rule(0, 5, 6, 0, 0, 0, 0);
        CHECK.glyphs("15: SINGLE once for each glyph", x, 5, 6, 6);
        x.lookup(Joinhand.SEVERAL, 0, 0, 0, 0);
        x.rule(1, 6, 6, 6, 7, 0, 0);
        CHECK.glyphs("15: SEVERAL goes on behind what was put in", x, 5, 6, 6, 7, 6, 6, 7);
        CHECK.clusters("17: SEVERAL", x, 0, 1, 1, 1, 2, 2, 2);
        x.lookup(Joinhand.LIGATURE, 0, 0, 0, 0);
        x.rule(2, 6, 6, 6, 9, 0, 0);
        x.rule(2, 6, 6, NONE, 8, 0, 0);
        CHECK.glyphs("15: LIGATURE, the second rule", x, 5, 8, 7, 8, 7);
        x.lookup(Joinhand.BACKWARD, 0, 0, 0, 0);
        x.rule(3, NONE, 7, NONE, 20, 0, 0);
        x.rule(3, 5, 8, 20, 21, 0, 0);
        x.rule(3, 7, 8, 20, 22, 0, 0);
        CHECK.glyphs("15: BACKWARD sees what was done behind", x, 5, 21, 20, 22, 20);
        x.lookup(Joinhand.BACKWARD, 0, 0, 0, 0);
        x.rule(4, NONE, 5, 8, 99, 0, 0);
        x.rule(4, NONE, 20, NONE, 30, 0, 0);
        x.rule(4, 30, 22, NONE, 99, 0, 0);
        CHECK.glyphs("15: BACKWARD does not see what is done ahead", x, 5, 21, 30, 22, 30);
        Joinhand choice = Check.with(4, 4, 4, 4);
        choice.lookup(Joinhand.CHOICE, 0, 0, 0, 0);
        choice.rule(0, 4, 11, 12, 13, 0, 0);
        choice.rule(0, 4, 14, 14, 14, 0, 0);
        choice.setExtra(1, 1, 1);
        choice.setExtra(2, 2, 2);
        choice.setExtra(3, 3, 3);
        choice.rule(0, 300, 15, 15, 15, 0, 0);
        CHECK.glyphs("15: CHOICE by EXTRA", choice, 4, 11, 12, 13);
        choice.lookup(Joinhand.SINGLE, Joinhand.EXTRA, 0, 0, 0);
        choice.rule(1, 300, 100, 0, 0, 0, 0);
        CHECK.glyphs("15: what is put in has EXTRA", choice, 4, 100, 100, 100);
        Joinhand form = Check.with(10, 11);
        form.lookup(Joinhand.SEVERAL, Joinhand.FORMS + Joinhand.BEGIN, 0, 0, 0);
        form.rule(0, 10, 100, 101, NONE, 0, 0);
        form.lookup(Joinhand.SINGLE, Joinhand.FORMS + Joinhand.BEGIN, 0, 0, 0);
        form.rule(1, 300, 102, 0, 0, 0, 0);
        form.lookup(Joinhand.SINGLE, Joinhand.CALLED, 0, 0, 0);
        form.rule(2, 300, 103, 0, 0, 0, 0);
        CHECK.glyphs("15: what is put in has the form, none is CALLED", form, 102, 102, 11);
        Joinhand gone = Check.with(4, 5, 3);
        gone.lookup(Joinhand.SINGLE, 0, 0, 0, 0);
        gone.rule(0, 4, 2, 0, 0, 0, 0);
        gone.rule(0, 3, 4, 0, 0, 0, 0);
        CHECK.glyphs("15: glyphs 2 and 3 are taken out, not signs", gone, 5, 4);
        Joinhand stages = Check.with(4);
        stages.lookup(Joinhand.SINGLE, 0, 1, 0, 0);
        stages.rule(0, 5, 6, 0, 0, 0, 0);
        stages.lookup(Joinhand.SINGLE, 0, 0, 0, 0);
        stages.rule(1, 4, 5, 0, 0, 0, 0);
        stages.lookup(Joinhand.SINGLE, 0, 0, 0, 0);
        stages.rule(2, 6, 7, 0, 0, 0, 0);
        CHECK.glyphs("15: stages, then numbers", stages, 6);
    }

    private static void fullRow() {
        Joinhand x = Check.with(4);
        for (int i = 0; i < 5; i++) {
            x.lookup(Joinhand.SEVERAL, 0, 0, 0, 0);
            x.rule(i, 4, 4, 4, 4, 0, 0);
        }
        CHECK.is("14: no more than 64", 63, x::glyphs);
        x.rule(4, 4, 4, 5, NONE, 0, 0);
        CHECK.is("14: a rule that is told later fits", 64, x::glyphs);
        CHECK.is("15: at the first one", 5, () -> x.glyph(1));
        CHECK.is("15: the others stay", 4, () -> x.glyph(3));
        CHECK.is("18: the last one", 630, () -> x.place(0, 0));
        x.insert(0, 10);
        Check.type(x, 30, 4);
        CHECK.is("14: 64 for each run", 64 + 64, x::glyphs);
        CHECK.is("15: the next run", 30, () -> x.glyph(64));
        Joinhand many = new Joinhand();
        for (int i = 0; i < 12; i++) {
            many.lookup(Joinhand.SEVERAL, 0, 0, 0, 0);
            many.rule(i, 300, 200, 201, NONE, 0, 0);
        }
        for (int i = 0; i < 16; i++) many.insert(i, i % 2 == 0 ? 10 : 30);
        CHECK.is("14: 16 full rows", 1024, many::glyphs);
        CHECK.is("17: the last one", 15, () -> many.cluster(1023));
        CHECK.is("18: the last one", 10240 - 10, () -> many.place(1023, 0));
        CHECK.index("15: behind the last one", () -> many.glyph(1024));
    }

    /** A row of 64 glyphs 4, made by the lookups 0 to 5; the lookup 6 is of the kind. */
    private static Joinhand sixtyFour(int kind) {
        Joinhand x = Check.with(4);
        for (int i = 0; i < 6; i++) {
            x.lookup(Joinhand.SEVERAL, 0, 0, 0, 0);
            x.rule(i, 300, 4, 4, NONE, 0, 0);
        }
        x.lookup(kind, 0, 1, 0, 0);
        return x;
    }

    private static void fullRowAndTable() {
        int[][] notFitting = {
            {5, 6, 0, 0, 0, 0}, {4, 6, 6, 6, 0, 0}, {4, 6, 6, 6, 0, 0}, {4, 4, 5, 6, 0, 0}, {NONE, 4, 4, 5, 0, 6},
            {NONE, 4, 5, 6, 0, 0}, {4, 5, 9, 0, 0, 0}, {5, 9, 9, 0, 0, 0}, {4, NONE, 0, 9, 9, 0}, {4, 0, 9, 9, 0, 0},
        };
        for (int kind = 0; kind <= 9; kind++) {
            Joinhand x = sixtyFour(kind);
            int[] n = notFitting[kind];
            for (int i = 0; i < 8; i++) x.rule(6, n[0], n[1], n[2], n[3], n[4], n[5]);
            CHECK.is("14: 8 rules of the kind " + kind + " that do not fit", 64, x::glyphs);
            for (int i = 0; i < 64; i++) {
                int at = i;
                CHECK.is("15: 8 rules of the kind " + kind + " that do not fit", 4, () -> x.glyph(at));
                CHECK.is("16: 8 rules of the kind " + kind + " that do not fit", 4, () -> x.glyphAnew(at));
                CHECK.is("18: 8 rules of the kind " + kind + " that do not fit", 10, () -> x.place(at, 2));
                CHECK.is("18: 8 rules of the kind " + kind + " that do not fit", 0, () -> x.place(at, 1));
            }
            x.setMark(4, 3);
            CHECK.is("18: marks alone, the kind " + kind, 0, () -> x.place(63, 1));
            for (int i = 0; i < 5; i++) x.lookup(kind, 0, 0, 0, 0);
            CHECK.is("14: a full face, the kind " + kind, 64, x::glyphs);
        }
        Joinhand ligature = sixtyFour(Joinhand.LIGATURE);
        ligature.rule(6, 4, 4, 4, 2, 0, 0);
        CHECK.glyphs("15: a full row, nearly all of it taken out", ligature, 4);
        ligature.lookup(Joinhand.LIGATURE, 0, 0, 0, 0);
        ligature.rule(7, 4, 4, NONE, 3, 0, 0);
        CHECK.glyphs("15: a full row, all of it taken out", ligature);
        Joinhand backward = sixtyFour(Joinhand.BACKWARD);
        backward.rule(6, NONE, 4, 4, 5, 0, 0);
        Joinhand pair = sixtyFour(Joinhand.PAIR);
        pair.rule(6, 4, 4, 1, 0, 0, 0);
        Joinhand cursive = sixtyFour(Joinhand.CURSIVE);
        cursive.rule(6, 4, 1, 3, 0, 0, 0);
        for (int i = 0; i < 64; i++) {
            int at = i;
            CHECK.is("15: a full row, BACKWARD", i % 2 == 0 ? 5 : 4, () -> backward.glyph(at));
            CHECK.is("18: a full row, PAIR", i < 63 ? 11 : 10, () -> pair.place(at, 2));
            CHECK.is("18: a full row, CURSIVE", 2 * i, () -> cursive.place(at, 1));
        }
        Joinhand vowels = Check.with(39, 31, 40);
        for (int i = 0; i < 6; i++) {
            vowels.lookup(Joinhand.SEVERAL, 0, 0, 0, 0);
            vowels.rule(i, 40, 40, 40, NONE, 0, 0);
        }
        int[] due = new int[64];
        java.util.Arrays.fill(due, 40);
        due[0] = 64;
        due[1] = 39;
        due[63] = 31;
        CHECK.glyphs("15: a full row, vowels set back", vowels, due);
    }

    private static void skips() {
        Joinhand x = Check.with(10, 21, 11, 22, 12);
        x.setMark(22, 1);
        for (int skip = 0; skip < 6; skip++) {
            Joinhand y = Check.with(10, 21, 11, 22, 12);
            y.setMark(22, 1);
            y.lookup(Joinhand.LIGATURE, 0, 0, 0, skip);
            y.rule(0, 10, 11, NONE, 100, 0, 0);
            y.rule(0, 11, 12, NONE, 101, 0, 0);
            y.rule(0, 300, 22, 12, 102, 0, 0);
            if (skip == 0) CHECK.glyphs("15: skips nothing", y, 10, 21, 102);
            if (skip == 1) CHECK.glyphs("15: skips all marks", y, 100, 21, 22, 12);
            if (skip == 2) CHECK.glyphs("15: all but the class 0", y, 10, 21, 101, 22);
            if (skip == 3) CHECK.glyphs("15: all but the class 1", y, 100, 21, 22, 12);
            if (skip > 3) CHECK.glyphs("15: all but another class", y, 100, 21, 22, 12);
        }
        Joinhand one = Check.with(21, 10, 22, 11);
        one.setMark(22, 2);
        one.lookup(Joinhand.SINGLE, 0, 0, 0, 4);
        one.rule(0, 300, 100, 0, 0, 0, 0);
        CHECK.glyphs("15: what is skipped is not there", one, 21, 100, 100, 100);
        one.lookup(Joinhand.BACKWARD, 0, 0, 0, 1);
        one.rule(1, 100, 100, NONE, 101, 0, 0);
        CHECK.glyphs("15: it counts what is a mark then", one, 21, 100, 101, 101);
        one.setMark(100, 3);
        CHECK.glyphs("15: it counts what is a mark then", one, 21, 100, 100, 100);
        Joinhand back = Check.with(10, 21, 11);
        back.lookup(Joinhand.BACKWARD, 0, 0, 0, 1);
        back.rule(0, 10, 11, NONE, 100, 0, 0);
        back.rule(0, NONE, 10, 100, 101, 0, 0);
        CHECK.glyphs("15: BACKWARD skips", back, 101, 21, 100);
    }

    private static void clustersMerge() {
        Joinhand x = Check.with(4, 5, 6, 7, 8);
        x.lookup(Joinhand.LIGATURE, 0, 0, 0, 1);
        x.rule(0, 5, 7, NONE, 100, 0, 0);
        x.setMark(6, 0);
        CHECK.glyphs("15: over a mark", x, 4, 100, 6, 8);
        CHECK.clusters("17: all between get the least", x, 0, 1, 1, 4);
        x.rule(0, 100, 8, NONE, 101, 0, 0);
        CHECK.clusters("17: it goes on behind the ligature", x, 0, 1, 1, 4);
        x.lookup(Joinhand.LIGATURE, 0, 1, 0, 1);
        x.rule(1, 4, 100, 8, 102, 0, 0);
        CHECK.clusters("17: all in all", x, 0, 0);
        Joinhand s = Check.with(30, 44, 31, 44, 32);
        s.lookup(Joinhand.LIGATURE, 0, 0, 0, 0);
        s.rule(0, 44, 31, NONE, 100, 0, 0);
        CHECK.glyphs("15: over syllables", s, 30, 100, 44, 32);
        CHECK.clusters("17: with the greatest one too", s, 0, 0, 0, 4);
    }

    private static void contexts() {
        Joinhand x = Check.with(4, 5, 6, 7);
        x.lookup(Joinhand.CONTEXT, 0, 0, 0, 0);
        x.lookup(Joinhand.SINGLE, Joinhand.CALLED, 1, 2, 0);
        x.rule(1, 300, 100, 0, 0, 0, 0);
        x.rule(0, 4, 5, 6, 8, 0, 1);
        CHECK.glyphs("15: CONTEXT, another one behind", x, 4, 5, 6, 7);
        x.rule(0, 5, 5, 6, 7, 0, 1);
        CHECK.glyphs("15: CONTEXT, another one ahead", x, 4, 5, 6, 7);
        x.rule(0, NONE, 4, NONE, 6, 0, 1);
        CHECK.glyphs("15: CONTEXT, another one behind one item", x, 4, 5, 6, 7);
        x.rule(0, NONE, 7, NONE, 300, 0, 1);
        CHECK.glyphs("15: CONTEXT, none behind", x, 4, 5, 6, 7);
        x.rule(0, 300, 4, NONE, NONE, 0, 1);
        CHECK.glyphs("15: CONTEXT, none ahead", x, 4, 5, 6, 7);
        x.rule(0, 4, 5, 6, 7, 1, 1);
        CHECK.glyphs("15: CONTEXT calls at the second one, whatever the tongue and feature", x, 4, 5, 100, 7);
        Joinhand first = Check.with(4, 5, 6, 4, 5);
        first.lookup(Joinhand.CONTEXT, 0, 0, 0, 0);
        first.rule(0, NONE, 300, 300, NONE, 0, 1);
        CHECK.glyphs("15: no such lookup", first, 4, 5, 6, 4, 5);
        first.lookup(Joinhand.SINGLE, Joinhand.CALLED, 0, 0, 0);
        first.rule(1, 300, 100, 0, 0, 0, 0);
        CHECK.glyphs("15: it goes on behind its items", first, 100, 5, 100, 4, 5);
        Joinhand wrongKinds = Check.with(4, 5);
        wrongKinds.lookup(Joinhand.CONTEXT, 0, 0, 0, 0);
        for (int kind = 4; kind <= 6; kind++) wrongKinds.rule(0, NONE, 300, NONE, NONE, 0, kind - 3);
        wrongKinds.lookup(Joinhand.CONTEXT, Joinhand.CALLED, 0, 0, 0);
        wrongKinds.rule(1, NONE, 300, NONE, NONE, 0, 3);
        wrongKinds.lookup(Joinhand.BACKWARD, Joinhand.CALLED, 0, 0, 0);
        wrongKinds.rule(2, NONE, 300, NONE, 100, 0, 0);
        wrongKinds.lookup(Joinhand.SINGLE, Joinhand.CALLED, 0, 0, 0);
        wrongKinds.rule(3, 300, 101, 0, 0, 0, 0);
        CHECK.glyphs("15: CONTEXT is not called", wrongKinds, 4, 5);
        wrongKinds.lookup(Joinhand.CONTEXT, 0, 1, 0, 0);
        wrongKinds.rule(4, NONE, 300, NONE, NONE, 0, 2);
        CHECK.glyphs("15: BACKWARD is not called", wrongKinds, 4, 5);
        wrongKinds.lookup(Joinhand.CONTEXT, 0, 1, 0, 0);
        wrongKinds.rule(5, NONE, 300, NONE, NONE, 0, 3);
        CHECK.glyphs("15: SINGLE is", wrongKinds, 101, 101);
        Joinhand none = Check.with(4, 21);
        none.lookup(Joinhand.CONTEXT, 0, 0, 0, 0);
        none.rule(0, NONE, 300, 300, NONE, 1, 1);
        none.lookup(Joinhand.SINGLE, Joinhand.CALLED, 0, 0, 1);
        none.rule(1, 300, 100, 0, 0, 0, 0);
        CHECK.glyphs("15: a called lookup that skips the glyph", none, 4, 21);
        none.setMark(21, NONE);
        CHECK.glyphs("15: and one that does not", none, 4, 100);
    }

    private static Joinhand calling(int kind, int skip, int calledSkip, int[] context, int[] called, int... signs) {
        Joinhand x = Check.with(signs);
        x.lookup(Joinhand.CONTEXT, 0, 0, 0, skip);
        x.rule(0, context[0], context[1], context[2], context[3], context[4], 1);
        x.rule(0, NONE, 300, NONE, NONE, 0, 2);
        x.lookup(kind, Joinhand.CALLED, 0, 0, calledSkip);
        x.rule(1, called[0], called[1], called[2], called[3], 0, 0);
        x.lookup(Joinhand.SINGLE, Joinhand.CALLED, 0, 0, 0);
        x.rule(2, 300, 99, 0, 0, 0, 0);
        return x;
    }

    /** A second rule tells with glyph 99 where the CONTEXT went on. */
    private static void goingOn() {
        int[] both = {NONE, 4, 5, NONE, 0};
        int[] second = {NONE, 4, 5, NONE, 1};
        int[] one = {NONE, 4, NONE, NONE, 0};
        CHECK.glyphs("15: behind what was put in at the first one", calling(1, 0, 0, both, new int[] {4, 10, 11, 12}, 4, 5, 6), 10, 11, 12, 5, 99);
        CHECK.glyphs("15: behind what was put in at the second one", calling(1, 0, 0, second, new int[] {5, 10, 11, NONE}, 4, 5, 6), 4, 10, 11, 99);
        CHECK.glyphs("15: behind what was put in at the only one", calling(1, 0, 0, one, new int[] {4, 10, 11, NONE}, 4, 5, 6), 10, 11, 99, 99);
        CHECK.glyphs("15: nothing done, behind the items", calling(1, 0, 0, both, new int[] {9, 10, 11, NONE}, 4, 5, 6), 4, 5, 99);
        CHECK.glyphs("15: behind what took in the items", calling(3, 0, 0, both, new int[] {4, 5, NONE, 10}, 4, 5, 6), 10, 99);
        CHECK.glyphs("15: which takes in one behind them", calling(3, 0, 0, both, new int[] {4, 5, 6, 10}, 4, 5, 6, 7), 10, 99);
        CHECK.glyphs("15: a ligature at the second one", calling(3, 0, 0, second, new int[] {5, 6, NONE, 10}, 4, 5, 6, 7), 4, 10, 99);
        CHECK.glyphs("15: a ligature at the only one", calling(3, 0, 0, one, new int[] {4, 5, NONE, 10}, 4, 5, 6, 7), 10, 99, 99);
        CHECK.glyphs("15: a ligature over the last item", calling(3, 0, 1, new int[] {NONE, 4, 21, NONE, 0}, new int[] {4, 6, NONE, 10}, 4, 21, 6, 7), 10, 21, 99);
        CHECK.glyphs("15: a ligature ahead of the last item", calling(3, 1, 0, both, new int[] {4, 21, NONE, 10}, 4, 21, 5, 7), 10, 5, 99);
        CHECK.glyphs("15: marks behind a ligature come next", calling(3, 2, 1, both, new int[] {4, 5, NONE, 10}, 4, 5, 21, 7), 10, 99, 99);
        CHECK.glyphs("15: nothing is called where it would skip, behind the items", calling(0, 0, 1, new int[] {NONE, 4, 21, NONE, 1}, new int[] {300, 98, 0, 0}, 4, 21, 6), 4, 21, 99);
        CHECK.glyphs("15: nor at the only one", calling(0, 0, 1, new int[] {NONE, 21, NONE, NONE, 0}, new int[] {300, 98, 0, 0}, 21, 6), 21, 99);
        CHECK.glyphs("15: BACKWARD is not called, behind the items", calling(5, 0, 0, both, new int[] {NONE, 300, NONE, 98}, 4, 5, 6), 4, 5, 99);
        CHECK.glyphs("15: marks within a ligature are skipped", calling(3, 1, 1, both, new int[] {4, 5, NONE, 10}, 4, 21, 5, 7), 10, 21, 99);
    }

    /** A ligature's marks are told apart by where BASE sets them. */
    private static Joinhand onParts(int... signs) {
        Joinhand x = Check.with(signs);
        x.lookup(Joinhand.BASE, 0, 0, 0, 0);
        for (int part = 0; part < 3; part++) x.rule(0, 300, part, 0, 0, 10 + part, 0);
        x.rule(0, 300, NONE, 0, 0, 20, 0);
        x.lookup(Joinhand.LIGATURE, 0, 0, 0, 1);
        return x;
    }

    private static void parts() {
        Joinhand x = onParts(10, 21, 22, 11, 23, 21, 12, 22);
        CHECK.places("18: each on its letter", x, 1, 0, 10, 10, 0, 10, 10, 0, 10);
        x.rule(1, 10, 11, NONE, 100, 0, 0);
        CHECK.places("18: on two parts", x, 1, 0, 10, 10, 11, 11, 0, 10);
        x.rule(1, 11, 12, NONE, 101, 0, 0);
        x.lookup(Joinhand.LIGATURE, 0, 0, 0, 1);
        x.rule(2, 100, 12, NONE, 102, 0, 0);
        CHECK.glyphs("15: a ligature of a ligature", x, 102, 21, 22, 23, 21, 22);
        CHECK.places("18: on three parts", x, 1, 0, 10, 10, 11, 11, 12);
        Joinhand later = onParts(10, 21, 11, 22, 12, 23, 13);
        later.rule(1, 11, 12, NONE, 100, 0, 0);
        later.lookup(Joinhand.LIGATURE, 0, 0, 0, 1);
        later.rule(2, 10, 100, NONE, 101, 0, 0);
        CHECK.places("18: the parts ahead are added", later, 1, 0, 10, 11, 12, 0);
        later.lookup(Joinhand.LIGATURE, 0, 0, 0, 1);
        later.rule(3, 101, 13, NONE, 102, 0, 0);
        later.insert(7, 21);
        CHECK.places("18: a part above 2", later, 1, 0, 10, 11, 12, 20);
        Joinhand all = onParts(10, 21, 11, 22, 12, 23);
        all.rule(1, 10, 11, 12, 100, 0, 0);
        CHECK.places("18: three at once", all, 1, 0, 10, 11, 12);
        all.lookup(Joinhand.SINGLE, 0, 0, 0, 0);
        all.rule(2, 100, 101, 0, 0, 0, 0);
        all.rule(2, 21, 23, 0, 0, 0, 0);
        CHECK.places("18: what is put in keeps parts", all, 1, 0, 10, 11, 12);
        all.lookup(Joinhand.SEVERAL, 0, 0, 0, 0);
        all.rule(3, 101, 4, 5, NONE, 0, 0);
        all.rule(3, 22, 22, 22, NONE, 0, 0);
        CHECK.places("18: and SEVERAL too", all, 1, 0, 0, 10, 11, 11, 12);
        Joinhand none = onParts(10, 11, 21);
        none.lookup(Joinhand.LIGATURE, 0, 0, 0, 0);
        none.rule(2, 10, 11, NONE, 100, 0, 0);
        none.lookup(Joinhand.SEVERAL, 0, 0, 0, 0);
        none.rule(3, 100, 100, 22, NONE, 0, 0);
        CHECK.places("18: a mark that came later is on the last part", none, 1, 0, 11, 11);
        Joinhand stop = onParts(10, 11, 21, 4, 22);
        stop.rule(1, 10, 11, NONE, 100, 0, 0);
        stop.lookup(Joinhand.SINGLE, 0, 1, 0, 0);
        stop.rule(2, 4, 23, 0, 0, 0, 0);
        CHECK.places("18: nothing but marks between, when it is made", stop, 1, 0, 11, 11, 11);
        Joinhand marks = onParts(10, 21, 22, 23);
        marks.lookup(Joinhand.LIGATURE, 0, 0, 0, 0);
        marks.rule(2, 21, 22, NONE, 21, 0, 0);
        CHECK.places("18: a ligature of marks", marks, 1, 0, 10, 11);
    }

    private static void pairs() {
        Joinhand x = Check.with(4, 5, 4, 5);
        x.lookup(Joinhand.PAIR, 0, 1, 0, 0);
        x.rule(0, 4, 5, 3, 0, 0, 0);
        x.rule(0, 5, 4, -4, 0, 0, 0);
        x.rule(0, 4, 5, 50, 0, 0, 0);
        CHECK.places("18: it goes on with the second one", x, 2, 13, 6, 13, 10);
        CHECK.places("18: from the right", x, 0, 29, 23, 10, 0);
        x.lookup(Joinhand.PAIR, 0, 0, 0, 0);
        x.rule(1, 300, 300, 1, 0, 0, 0);
        CHECK.places("18: two lookups", x, 2, 14, 7, 14, 10);
        Joinhand skip = Check.with(30, 44, 31);
        skip.lookup(Joinhand.PAIR, 0, 0, 0, 1);
        skip.rule(0, 30, 31, 7, 0, 0, 0);
        CHECK.places("18: over a mark", skip, 2, 17, 0, 10);
        CHECK.places("18: from the left", skip, 0, 0, 17, 17);
        Joinhand feature = Check.with(4, 5, 6);
        feature.setExtra(1, 1, 1);
        feature.lookup(Joinhand.PAIR, Joinhand.EXTRA, 0, 0, 0);
        feature.rule(0, 300, 300, 7, 0, 0, 0);
        CHECK.places("18: the feature of the first one", feature, 2, 10, 17, 10);
    }

    private static void cursives() {
        Joinhand x = Check.with(4, 5, 6, 7);
        x.lookup(Joinhand.CURSIVE, 0, 1, 0, 0);
        x.rule(0, 4, NONE, 7, 0, 0, 0);
        x.rule(0, 5, 2, 9, 0, 0, 0);
        x.rule(0, 5, 50, 50, 0, 0, 0);
        x.rule(0, 6, -3, NONE, 0, 0, 0);
        x.rule(0, 7, 5, 5, 0, 0, 0);
        CHECK.places("18: heights add up", x, 1, 0, 5, 17, 0);
        x.setExtra(0, 0, 1);
        x.setExtra(2, 3, 1);
        Joinhand feature = Check.with(4, 5, 6);
        feature.lookup(Joinhand.CURSIVE, Joinhand.EXTRA, 0, 0, 0);
        feature.rule(0, 300, 1, 5, 0, 0, 0);
        CHECK.places("18: no feature", feature, 1, 0, 0, 0);
        feature.setExtra(0, 0, 1);
        CHECK.places("18: the feature of the first one", feature, 1, 0, 0, 0);
        feature.setExtra(2, 2, 1);
        CHECK.places("18: the feature of both ends", feature, 1, 0, 0, 0);
        feature.setExtra(1, 1, 1);
        CHECK.places("18: the feature of all", feature, 1, 0, 4, 8);
        Joinhand skip = Check.with(4, 21, 5);
        skip.lookup(Joinhand.CURSIVE, 0, 0, 0, 1);
        skip.rule(0, 300, 1, 5, 0, 0, 0);
        CHECK.places("18: over a mark", skip, 1, 0, 0, 4);
        skip.lookup(Joinhand.BASE, 0, 0, 0, 0);
        skip.rule(1, 300, NONE, 0, 2, 3, 0);
        skip.insert(3, 22);
        CHECK.places("18: a mark on what was lifted", skip, 1, 0, 3, 4, 7);
        skip.lookup(Joinhand.CURSIVE, 0, 0, 0, 0);
        skip.rule(2, 300, 0, 30, 0, 0, 0);
        CHECK.places("18: whatever CURSIVE tells of a mark", skip, 1, 0, 3, 60, 63);
        Joinhand again = Check.with(4, 5);
        again.lookup(Joinhand.CURSIVE, 0, 0, 0, 0);
        again.rule(0, 300, 1, 5, 0, 0, 0);
        again.lookup(Joinhand.CURSIVE, 0, 0, 0, 0);
        again.rule(1, 300, 1, 2, 0, 0, 0);
        CHECK.places("18: the last lookup", again, 1, 0, 1);
    }

    private static void marksOnBases() {
        Joinhand x = Check.with(30, 44, 44, 31);
        x.setWidth(44, 4);
        x.lookup(Joinhand.BASE, 0, 1, 0, 0);
        x.rule(0, 31, NONE, 0, 9, 9, 0);
        x.rule(0, 30, 1, 0, 8, 8, 0);
        x.rule(0, 30, NONE, 1, 7, 7, 0);
        x.rule(0, 30, 0, 0, 5, 6, 0);
        x.rule(0, 30, NONE, 0, 1, 1, 0);
        CHECK.places("18: both on the base", x, 0, 0, 5, 5, 18);
        CHECK.places("18: both on the base", x, 1, 0, 6, 6, 0);
        CHECK.places("18: they keep their advances", x, 2, 10, 4, 4, 10);
        x.lookup(Joinhand.MARK, 0, 0, 0, 0);
        x.rule(1, 30, 0, 40, 40, 0, 0);
        x.rule(1, 44, 1, 30, 30, 0, 0);
        x.rule(1, 44, 0, 2, 3, 0, 0);
        CHECK.places("18: a mark on a mark", x, 0, 0, 5, 7, 18);
        CHECK.places("18: a mark on a mark", x, 1, 0, 6, 9, 0);
        x.lookup(Joinhand.BASE, 0, 0, 0, 0);
        x.rule(2, 30, 0, 0, -5, 0, 0);
        CHECK.places("18: the last lookup counts", x, 0, 0, -5, -5, 18);
        CHECK.places("18: the last lookup counts", x, 1, 0, 0, 0, 0);
        Joinhand skipped = Check.with(30, 44, 44);
        skipped.lookup(Joinhand.BASE, 0, 0, 0, 1);
        skipped.rule(0, 30, NONE, 0, 5, 6, 0);
        CHECK.places("18: marks that are skipped", skipped, 1, 0, 0, 0);
        skipped.lookup(Joinhand.BASE, 0, 0, 0, 2);
        skipped.rule(1, 30, NONE, 0, 5, 6, 0);
        CHECK.places("18: marks that are not skipped", skipped, 1, 0, 6, 6);
        Joinhand between = Check.with(10, 21, 22, 23);
        between.setMark(22, 1);
        between.lookup(Joinhand.BASE, 0, 0, 0, 2);
        between.rule(0, 10, NONE, 0, 1, 1, 0);
        CHECK.places("18: the base whatever is skipped", between, 1, 0, 1, 0, 1);
        between.lookup(Joinhand.MARK, 0, 0, 0, 2);
        between.rule(1, 21, 0, 2, 2, 0, 0);
        CHECK.places("18: a mark ahead, skipped ones aside", between, 1, 0, 1, 0, 3);
        CHECK.places("18: a mark ahead, skipped ones aside", between, 0, 0, 1, 0, 3);
        Joinhand alone = Check.with(21, 10, 22);
        alone.lookup(Joinhand.BASE, 0, 0, 0, 0);
        alone.rule(0, 300, NONE, 0, 1, 1, 0);
        alone.lookup(Joinhand.MARK, 0, 0, 0, 0);
        alone.rule(1, 21, 1, 2, 2, 0, 0);
        CHECK.places("18: no base, and no mark of the class", alone, 1, 0, 0, 1);
        alone.insert(1, 23);
        CHECK.places("18: no base, but marks", alone, 1, 0, 0, 0, 1);
        alone.cut(1);
        alone.rule(1, 300, 0, 2, 2, 0, 0);
        CHECK.places("18: no base, and no mark right ahead", alone, 1, 0, 0, 1);
        Joinhand feature = Check.with(30, 44, 44);
        feature.setExtra(0, 1, 1);
        feature.lookup(Joinhand.BASE, Joinhand.EXTRA, 0, 0, 0);
        feature.rule(0, 30, NONE, 0, 1, 1, 0);
        CHECK.places("18: the feature of the mark", feature, 1, 0, 1, 0);
        feature.lookup(Joinhand.MARK, Joinhand.EXTRA, 0, 0, 0);
        feature.rule(1, 44, 0, 1, 5, 0, 0);
        CHECK.places("18: the feature of the mark", feature, 1, 0, 1, 0);
        feature.setExtra(0, 1, 0);
        feature.setExtra(2, 2, 1);
        CHECK.places("18: the feature of the mark", feature, 1, 0, 0, 5);
        Joinhand right = Check.with(11, 10, 21, 22);
        right.lookup(Joinhand.BASE, 0, 0, 0, 0);
        right.rule(0, 10, NONE, 0, 3, -2, 0);
        right.lookup(Joinhand.MARK, 0, 0, 0, 0);
        right.rule(1, 21, 0, 4, -5, 0, 0);
        right.insert(0, 30);
        right.insert(0, 31);
        CHECK.places("18: in a run from the right", right, 0, 0, 10, 30, 20, 23, 27);
        CHECK.places("18: below 0", right, 1, 0, 0, 0, 0, -2, -7);
    }

    private static void faces() {
        Joinhand x = Check.with(10, 11, 10);
        x.lookup(Joinhand.SINGLE, 0, 0, 0, 0);
        x.rule(0, 300, 100, 0, 0, 0, 0);
        x.useFace(1);
        x.lookup(Joinhand.SINGLE, 0, 0, 0, 0);
        x.rule(0, 301, 101, 0, 0, 0, 0);
        x.setGroup(11, 1);
        x.setMark(101, 2);
        x.setWidth(101, 7);
        CHECK.glyphs("15: the face 0", x, 100, 100, 100);
        x.lack(11);
        CHECK.glyphs("15: the face 1 for what it lacks", x, 100, 101, 100);
        CHECK.places("18: with its widths", x, 0, 0, 10, 17);
        x.lack(11);
        CHECK.glyphs("15: the face 0 again", x, 100, 100, 100);
    }

    private static void asTold() {
        Joinhand x = Check.with(10, 11);
        x.lookup(Joinhand.SINGLE, 0, 0, 0, 0);
        x.rule(0, 301, 100, 0, 0, 0, 0);
        CHECK.glyphs("16: an empty group", x, 10, 11);
        x.setGroup(11, 1);
        CHECK.glyphs("16: a group that grew", x, 10, 100);
        x.rule(0, 10, 101, 0, 0, 0, 0);
        CHECK.glyphs("16: a rule that came", x, 101, 100);
        x.setGroup(11, 0);
        CHECK.glyphs("16: a group that shrank", x, 101, 11);
        x.cut(0);
        CHECK.glyphs("16: a text that shrank", x, 11);
        x.insert(0, 21);
        CHECK.glyphs("16: a text that grew", x, 21, 11);
    }

    public static void main(String[] args) {
        wrongPlaces();
        forms();
        clustersOfJ();
        syllables();
        climbers();
        vowelsSetBack();
        simpleKinds();
        fullRow();
        fullRowAndTable();
        skips();
        clustersMerge();
        contexts();
        goingOn();
        parts();
        pairs();
        cursives();
        marksOnBases();
        faces();
        asTold();
        CHECK.end("ShapeTest");
    }
}

/** The document's promises, call by call: for each sentence that names a boundary, a test of its own. */
final class CallEdgesTest {
    private static final int NONE = Joinhand.NONE;
    private static final Check CHECK = new Check();
    private static final int[] FAR = {Integer.MIN_VALUE, -10000, 20000, Integer.MAX_VALUE};
    private static final String NO_SUCH_PLACE = "Throws `IndexOutOfBoundsException` if there is no such place";
    private static final String NO_SUCH_GLYPH = "Throws `IndexOutOfBoundsException` if there is no such glyph";
    private static final String NO_SUCH_LOOKUP = "Throws `IndexOutOfBoundsException` if there is no such lookup";
    private static final String NO_SUCH_SIGN = "Throws `IllegalArgumentException` if there is no such sign";
    private static final String WIDTH_RANGE = "Throws `IllegalArgumentException` if width is out of range";

    /** A call with one number that may be wrong. */
    private interface With {
        long answer(Joinhand x, int number);
    }

    private static int[] n(int... numbers) {
        return numbers;
    }

    private static long tell(Joinhand x, int lookup, int[] n) {
        return x.rule(lookup, n[0], n[1], n[2], n[3], n[4], n[5]);
    }

    private static Joinhand textOf(int length, int sign) {
        Joinhand x = new Joinhand();
        for (int i = 0; i < length; i++) x.insert(i, sign);
        return x;
    }

    private static boolean answers(With call, Joinhand x, int number) {
        try {
            call.answer(x, number);
            return true;
        } catch (IndexOutOfBoundsException | IllegalArgumentException | IllegalStateException e) {
            return false;
        }
    }

    /** All numbers round a range, and far ones: those within are answered, all others throw. */
    private static void range(int least, int most, boolean isIndex, int[] signs, With call) {
        for (int number = least - 4; number <= most + 4; number++) {
            int its = number;
            Joinhand x = Check.with(signs);
            if (number >= least && number <= most) CHECK.is("the number " + number, 1, () -> answers(call, x, its) ? 1 : 0);
            else wrong(isIndex, call, x, number);
        }
        for (int far : FAR) wrong(isIndex, call, Check.with(signs), far);
    }

    private static void wrong(boolean isIndex, With call, Joinhand x, int number) {
        if (isIndex) CHECK.index("the number " + number, () -> call.answer(x, number));
        else CHECK.argument("the number " + number, () -> call.answer(x, number));
    }

    private static void signs(With call) {
        for (int sign = -110; sign <= 310; sign++) {
            int its = sign;
            Joinhand x = new Joinhand();
            if (sign >= 0 && sign <= 23 || sign >= 30 && sign <= 44) CHECK.is("the sign " + sign, 1, () -> answers(call, x, its) ? 1 : 0);
            else wrong(false, call, x, sign);
        }
    }

    /** A call about a sign, in texts of each length. */
    private static void placesOfSigns(With call) {
        for (int length = 0; length <= 16; length++) {
            for (int place = -3; place <= length + 3; place++) {
                int its = place;
                Joinhand x = textOf(length, 10);
                if (place >= 0 && place < length) CHECK.is("the place " + place + " of " + length, 1, () -> answers(call, x, its) ? 1 : 0);
                else wrong(true, call, x, place);
            }
            for (int far : FAR) wrong(true, call, textOf(length, 10), far);
        }
    }

    /** A call about a glyph, in texts with fewer, as many and more glyphs than signs. */
    private static void placesOfGlyphs(With call) {
        int[][] texts = {{}, {4}, {2}, {2, 4, 3}, {30, 39, 31}, {44}, {10, 30, 10}, {38, 39, 30}, {39, 39, 39}};
        int[] counts = {0, 1, 0, 1, 3, 2, 3, 2, 6};
        for (int i = 0; i < texts.length; i++) {
            Joinhand x = Check.with(texts[i]);
            for (int place = -3; place <= counts[i] + 3; place++) {
                int its = place;
                if (place >= 0 && place < counts[i]) CHECK.is("the glyph " + place + " of the text " + i, 1, () -> answers(call, x, its) ? 1 : 0);
                else wrong(true, call, x, place);
            }
            for (int far : FAR) wrong(true, call, x, far);
        }
    }

    // ---- all calls

    private static void constants() {
        CHECK.says("The constants: `NONE = -100`: None.");
        CHECK.is("NONE", -100, () -> Joinhand.NONE);
        CHECK.says("`ALONE = 0, BEGIN = 1, MIDDLE = 2, END = 3`: Forms.");
        int[] forms = {Joinhand.ALONE, Joinhand.BEGIN, Joinhand.MIDDLE, Joinhand.END};
        CHECK.says("`SINGLE = 0, SEVERAL = 1, CHOICE = 2, LIGATURE = 3, CONTEXT = 4, BACKWARD = 5, PAIR = 6, CURSIVE = 7, BASE = 8, MARK = 9`: Kinds of lookups.");
        int[] kinds = {
            Joinhand.SINGLE, Joinhand.SEVERAL, Joinhand.CHOICE, Joinhand.LIGATURE, Joinhand.CONTEXT,
            Joinhand.BACKWARD, Joinhand.PAIR, Joinhand.CURSIVE, Joinhand.BASE, Joinhand.MARK,
        };
        for (int[] all : new int[][] {forms, kinds}) {
            for (int i = 0; i < all.length; i++) {
                int its = all[i];
                CHECK.is("one of " + all.length, i, () -> its);
            }
        }
        CHECK.says("`ALWAYS = 0, FORMS = 1, EXTRA = 5, CALLED = 6`: Features; those of forms are FORMS and the form.");
        CHECK.is("ALWAYS", 0, () -> Joinhand.ALWAYS);
        CHECK.is("EXTRA", 5, () -> Joinhand.EXTRA);
        CHECK.is("CALLED", 6, () -> Joinhand.CALLED);
        int[][] texts = {{10}, {10, 16}, {20, 10, 16}, {20, 16}};
        for (int form = 0; form < 4; form++) {
            int at = form < 2 ? 0 : 1;
            Joinhand x = Check.with(texts[form]);
            x.lookup(Joinhand.SINGLE, 1 + form, 0, 0, 0);
            x.rule(0, 300, 100, 0, 0, 0, 0);
            CHECK.is("FORMS and the form " + form, 100, () -> x.glyph(at));
        }
        CHECK.is("FORMS", 1, () -> Joinhand.FORMS);
    }

    private static Joinhand withLookups() {
        Joinhand x = new Joinhand();
        int[][] told = {
            {Joinhand.LIGATURE, 10, 11, 12, 100, 0, 0}, {Joinhand.LIGATURE, 30, 31, NONE, 101, 0, 0}, {Joinhand.BACKWARD, NONE, 12, 300, 102, 0, 0},
            {Joinhand.CONTEXT, NONE, 300, 300, 11, 0, 1}, {Joinhand.CURSIVE, 300, 2, 5, 0, 0, 0}, {Joinhand.PAIR, 300, 300, 3, 0, 0, 0},
            {Joinhand.BASE, 300, NONE, 0, 4, 5, 0}, {Joinhand.MARK, 300, 0, 1, 2, 0, 0},
        };
        for (int i = 0; i < told.length; i++) {
            int[] n = told[i];
            x.lookup(n[0], 0, 0, 0, 1 + i % 2);
            x.rule(i, n[1], n[2], n[3], n[4], n[5], n[6]);
        }
        return x;
    }

    private static int[] without(int[] text, int place) {
        int[] left = new int[text.length - 1];
        for (int i = 0; i < left.length; i++) left[i] = text[i < place ? i : i + 1];
        return left;
    }

    /** A text that was another one, and was shaped then, answers as if it had been told at once. */
    private static void textAsItIs() {
        CHECK.says("Faces and a text are told; glyphs, clusters, places, carets, breaks and fillings are asked, of the text as it is.");
        int[][] texts = {
            {38, 39, 30}, {38, 39, 30, 39, 2, 41}, {30, 39, 31, 40}, {10, 21, 11, 12, 22}, {10, 11, 12}, {39, 39}, {0, 4, 30}, {12, 11, 10, 30, 31, 40},
            {10, 11, 12, 13, 14, 15, 16, 17, 18, 19, 20, 21, 22, 23, 0, 4}, {44, 44, 30, 10, 2, 10},
        };
        for (int[] text : texts) {
            for (int place = 0; place < text.length; place++) {
                Joinhand plain = Check.with(text);
                Joinhand ruled = withLookups();
                Check.type(ruled, text);
                plain.glyphs();
                ruled.glyphs();
                ruled.glyphAnew(0);
                plain.cut(place);
                ruled.cut(place);
                Joinhand due = withLookups();
                Check.type(due, without(text, place));
                CHECK.same("cut at " + place, Check.all(Check.with(without(text, place))), plain);
                CHECK.same("cut at " + place + ", with lookups", Check.all(due), ruled);
                plain.insert(place, text[place]);
                ruled.insert(place, text[place]);
                Joinhand again = withLookups();
                Check.type(again, text);
                CHECK.same("put in again at " + place, Check.all(Check.with(text)), plain);
                CHECK.same("put in again at " + place + ", with lookups", Check.all(again), ruled);
            }
        }
    }

    private static void manyCalls() {
        CHECK.says("An object is used for at most 512 calls after it has been made");
        Joinhand x = new Joinhand();
        for (int i = 0; i < 16; i++) x.insert(i, 10 + i % 4);
        for (int i = 0; i < 12; i++) x.lookup(i % 10, 0, 0, 0, 0);
        for (int i = 0; i < 60; i++) {
            int its = i;
            CHECK.is("cut " + i, 10 + i % 4, () -> x.cut(0));
            CHECK.is("insert " + i, 16, () -> x.insert(15, 10 + its % 4));
            for (int j = 0; j < 6; j++) CHECK.is("isSafe " + i, 1, () -> x.isSafe(8) ? 1 : 0);
        }
        for (int i = 0; i < 3; i++) CHECK.is("fill", 0, () -> x.fill(10000));
        CHECK.is("the call 512", 13, () -> x.glyph(3));
    }

    /** Twelve lookups in each face, the face 1 in use, and a text of both scripts. */
    private static Joinhand full() {
        Joinhand x = Check.with(10, 21, 11, 0, 30, 39, 31, 40, 2, 4, 12, 13, 14, 15, 0, 44);
        for (int face = 0; face < 2; face++) {
            x.useFace(face);
            for (int i = 0; i < 12; i++) x.lookup(i % 10, 0, 1, 0, 1);
            for (int i = 0; i < 8; i++) x.rule(0, 300, 100 + face, 0, 0, 0, 0);
            x.rule(6, 300, 300, 5, 0, 0, 0);
            x.rule(7, 300, 1, 3, 0, 0, 0);
        }
        x.lack(11);
        x.lack(31);
        x.setExtra(2, 9, 2);
        return x;
    }

    private static void wrongTellings(Joinhand x) {
        CHECK.index("useFace", () -> x.useFace(-1));
        CHECK.index("useFace", () -> x.useFace(2));
        CHECK.index("lookup", () -> x.lookup(10, 0, 0, 0, 0));
        CHECK.argument("lookup", () -> x.lookup(0, 0, 2, 0, 0));
        CHECK.state("lookup", () -> x.lookup(0, 0, 0, 0, 0));
        CHECK.index("rule", () -> x.rule(12, 4, 4, 0, 0, 0, 0));
        CHECK.argument("rule", () -> x.rule(10, 4, 4, 1, 0, 0, 0));
        CHECK.state("rule", () -> x.rule(0, 4, 4, 0, 0, 0, 0));
        CHECK.index("setMark", () -> x.setMark(256, 1));
        CHECK.argument("setMark", () -> x.setMark(101, 4));
        CHECK.index("setGroup", () -> x.setGroup(101, 6));
        CHECK.index("setGroup", () -> x.setGroup(256, 1));
        CHECK.index("setWidth", () -> x.setWidth(256, 1));
        CHECK.argument("setWidth", () -> x.setWidth(101, 101));
        CHECK.argument("lack", () -> x.lack(24) ? 1 : 0);
        CHECK.index("insert", () -> x.insert(17, 4));
        CHECK.argument("insert", () -> x.insert(0, 45));
        CHECK.state("insert", () -> x.insert(0, 4));
        CHECK.index("cut", () -> x.cut(16));
        CHECK.argument("setTongue", () -> x.setTongue(3));
        CHECK.index("setExtra", () -> x.setExtra(0, 16, 1));
        CHECK.index("setExtra", () -> x.setExtra(3, 2, 1));
        CHECK.argument("setExtra", () -> x.setExtra(0, 15, 4));
    }

    private static void wrongQuestions(Joinhand x) {
        CHECK.index("size", () -> x.size(12));
        CHECK.index("glyph", () -> x.glyph(-1));
        CHECK.index("glyphAnew", () -> x.glyphAnew(-1));
        CHECK.index("cluster", () -> x.cluster(-1));
        CHECK.index("place", () -> x.place(-1, 0));
        CHECK.argument("place", () -> x.place(0, 3));
        CHECK.index("form", () -> x.form(16));
        CHECK.index("run", () -> x.run(16));
        CHECK.index("caret", () -> x.caret(16));
        CHECK.argument("hit", () -> x.hit(10001));
        CHECK.index("isSafe", () -> x.isSafe(16) ? 1 : 0);
        CHECK.argument("fill", () -> x.fill(10001));
        CHECK.argument("filling", () -> x.filling(10001, 0));
        CHECK.index("filling", () -> x.filling(0, 16));
    }

    private static void nothingIsChanged() {
        CHECK.says("A call that throws an exception changes nothing");
        Joinhand x = full();
        String before = Check.all(x);
        wrongTellings(x);
        wrongQuestions(x);
        CHECK.same("nothing is changed", before, x);
        CHECK.is("the width", 10, () -> x.setWidth(101, 10));
        CHECK.is("the group", 0, () -> x.setGroup(101, 0));
        CHECK.is("the class", NONE, () -> x.setMark(101, NONE));
        CHECK.is("a rule was not added", 1, () -> x.rule(10, 4, 4, 0, 0, 0, 0));
        CHECK.is("values of EXTRA", 8, () -> x.setExtra(0, 15, 2));
        CHECK.is("the tongue", 1, () -> x.setTongue(1));
        CHECK.is("the face", 1, () -> x.useFace(0));
        Joinhand y = new Joinhand();
        CHECK.argument("a wrong lookup", () -> y.lookup(0, 0, 0, 0, 6));
        CHECK.index("a wrong lookup", () -> y.lookup(0, 7, 0, 0, 0));
        CHECK.is("it was not added", 0, () -> y.lookup(0, 0, 0, 0, 0));
        CHECK.argument("a wrong rule", () -> y.rule(0, 4, 4, 0, 0, 0, 1));
        CHECK.is("it was not added", 0, () -> y.size(0));
        CHECK.argument("a wrong sign", () -> y.insert(0, 29));
        CHECK.is("it was not put in", 1, () -> y.insert(0, 4));
    }

    private static void firstException() {
        CHECK.says("if several exceptions apply, the one that its throws clause names first is thrown");
        Joinhand x = full();
        CHECK.index("lookup: the kind, all others wrong, the face full", () -> x.lookup(-1, 7, 2, 3, 6));
        CHECK.index("lookup: the feature, all others wrong, the face full", () -> x.lookup(0, -1, 2, 3, 6));
        CHECK.argument("lookup: the stage, the face full", () -> x.lookup(0, 0, -1, 0, 0));
        CHECK.argument("lookup: the tongue, the face full", () -> x.lookup(0, 0, 0, -1, 0));
        CHECK.argument("lookup: skip, the face full", () -> x.lookup(0, 0, 0, 0, -1));
        CHECK.index("rule: no lookup, wrong numbers", () -> x.rule(12, -1, -1, -1, -1, -1, -1));
        CHECK.argument("rule: wrong numbers, the lookup full", () -> x.rule(0, 4, 4, 0, 0, 0, 1));
        CHECK.index("setMark: no glyph, a wrong class", () -> x.setMark(-1, 4));
        CHECK.index("setWidth: no glyph, a wrong width", () -> x.setWidth(256, -1));
        CHECK.index("insert: no place, no sign, the text full", () -> x.insert(-1, 45));
        CHECK.index("insert: no place, the text full", () -> x.insert(17, 4));
        CHECK.argument("insert: no sign, the text full", () -> x.insert(16, 45));
        CHECK.index("setExtra: no place, a wrong value", () -> x.setExtra(-1, 0, 4));
        CHECK.index("setExtra: no last place, a wrong value", () -> x.setExtra(0, 16, 4));
        CHECK.index("setExtra: to below from, a wrong value", () -> x.setExtra(2, 1, -1));
        CHECK.index("place: no glyph, a wrong what", () -> x.place(1000, 3));
        CHECK.index("filling: no place, a wrong width", () -> x.filling(-1, 16));
    }

    // ---- faces

    private static void newObject() {
        CHECK.promises(1, "Creates a shaper with an empty text and two faces without lookups; the face 0 lacks nothing, and is in use.");
        Joinhand x = new Joinhand();
        CHECK.is("no glyphs", 0, x::glyphs);
        CHECK.index("no sign", () -> x.form(0));
        CHECK.index("no lookup", () -> x.size(0));
        CHECK.is("the face 0 is in use", 0, () -> x.useFace(1));
        CHECK.index("no lookup in the face 1", () -> x.size(0));
        for (int sign = 0; sign <= 44; sign++) {
            if (sign > 23 && sign < 30) continue;
            Joinhand y = Check.with(sign);
            CHECK.is("the face of " + sign, 0, () -> y.run(0) % 10);
        }
    }

    private static void faces() {
        CHECK.promises(2, "Throws `IndexOutOfBoundsException` if there is no such face");
        range(0, 1, true, n(), (x, number) -> x.useFace(number));
        CHECK.promises(2, "Returns the one that was in use.");
        Joinhand x = new Joinhand();
        CHECK.is("0 at first", 0, () -> x.useFace(0));
        CHECK.is("0 still", 0, () -> x.useFace(1));
        CHECK.is("1", 1, () -> x.useFace(1));
        CHECK.is("1 still", 1, () -> x.useFace(0));
        CHECK.is("0 again", 0, () -> x.useFace(1));
    }

    private static void lookupRanges() {
        CHECK.promises(3, "- `kind`: SINGLE to MARK");
        range(Joinhand.SINGLE, Joinhand.MARK, true, n(), (x, number) -> x.lookup(number, 0, 0, 0, 0));
        CHECK.promises(3, "- `feature`: ALWAYS to CALLED");
        range(Joinhand.ALWAYS, Joinhand.CALLED, true, n(), (x, number) -> x.lookup(0, number, 0, 0, 0));
        CHECK.promises(3, "- `stage`: 0 or 1");
        range(0, 1, false, n(), (x, number) -> x.lookup(0, 0, number, 0, 0));
        CHECK.promises(3, "- `tongue`: 0 to 2");
        range(0, 2, false, n(), (x, number) -> x.lookup(0, 0, 0, number, 0));
        CHECK.promises(3, "- `skip`: 0 nothing, 1 all marks, 2 to 5 all marks but those of the class 0 to 3");
        range(0, 5, false, n(), (x, number) -> x.lookup(0, 0, 0, 0, number));
    }

    private static void lookupCounts() {
        CHECK.promises(3, "Throws `IllegalStateException` if the face has 12");
        Joinhand full = new Joinhand();
        for (int i = 0; i < 12; i++) full.lookup(9, 6, 1, 2, 5);
        CHECK.state("one more", () -> full.lookup(9, 6, 1, 2, 5));
        CHECK.state("one more again", () -> full.lookup(0, 0, 0, 0, 0));
        full.useFace(1);
        CHECK.is("the other face", 0, () -> full.lookup(9, 6, 1, 2, 5));
        CHECK.promises(3, "Returns its number.");
        Joinhand x = new Joinhand();
        for (int i = 0; i < 12; i++) {
            int its = i;
            x.useFace(0);
            CHECK.is("in the face 0", i, () -> x.lookup(its % 10, 0, 0, 0, 0));
            x.useFace(1);
            CHECK.is("in the face 1", i, () -> x.lookup(9 - its % 10, 0, 0, 0, 0));
        }
    }

    /** For each kind a rule that is right, and for each of its six numbers what it may be. */
    private static final int[][] RIGHT = {
        {4, 4, 0, 0, 0, 0}, {4, 4, 4, 4, 0, 0}, {4, 4, 4, 4, 0, 0}, {4, 4, 4, 4, 0, 0}, {4, 4, 4, 4, 0, 4},
        {4, 4, 4, 4, 0, 0}, {4, 4, 4, 0, 0, 0}, {4, 4, 4, 0, 0, 0}, {4, 2, 2, 4, 4, 0}, {4, 2, 4, 4, 0, 0},
    };
    private static final String[] MAY_BE = {
        "item glyph zero zero zero zero", "item glyph glyph glyph? zero zero", "item glyph glyph glyph zero zero", "item item item? glyph zero zero",
        "item? item item? item? spot call", "item? item item? glyph zero zero", "item item step zero zero zero", "item step? step? zero zero zero",
        "item part? class step step zero", "item class step step zero zero",
    };

    private static boolean mayBe(String what, int number) {
        boolean isGlyph = number >= 0 && number <= 255;
        switch (what) {
            case "glyph": return isGlyph;
            case "item": return isGlyph || number >= 300 && number <= 305;
            case "step": return number >= -50 && number <= 50;
            case "part": return number >= 0 && number <= 2;
            case "class": return number >= 0 && number <= 3;
            case "spot": return number == 0 || number == 1;
            case "call": return number >= 0 && number <= 11;
            default: return number == 0;
        }
    }

    /** The number of a rule's six that is one of these: each value of it, right or wrong. */
    private static void numbersThatAre(String what) {
        for (int kind = 0; kind < 10; kind++) {
            String[] all = MAY_BE[kind].split(" ");
            for (int i = 0; i < 6; i++) {
                if (!all[i].replace("?", "").equals(what)) continue;
                for (int number = -110; number <= 310; number++) {
                    boolean isRight = all[i].endsWith("?") && number == NONE || mayBe(what, number);
                    int[] told = RIGHT[kind].clone();
                    told[i] = number;
                    Joinhand x = new Joinhand();
                    x.lookup(kind, 0, 0, 0, 0);
                    String name = "the kind " + kind + ", the number " + i + ": " + number;
                    if (isRight) CHECK.is(name, 1, () -> tell(x, 0, told));
                    else CHECK.argument(name, () -> tell(x, 0, told));
                }
            }
        }
    }

    private static void ruleRanges() {
        CHECK.promises(4, "Glyphs are 0 to 255");
        numbersThatAre("glyph");
        CHECK.promises(4, "parts 0 to 2");
        numbersThatAre("part");
        CHECK.promises(4, "classes 0 to 3");
        numbersThatAre("class");
        CHECK.promises(4, "f 0 to 11");
        numbersThatAre("call");
        CHECK.promises(4, "all other numbers -50 to 50.");
        numbersThatAre("step");
        CHECK.says("An item, in a rule, is a glyph, told by its number, or one of a group, told by 300 and the group.");
        numbersThatAre("item");
        CHECK.says("what the six numbers of a rule are (0 where nothing is told, otherwise IllegalArgumentException)");
        numbersThatAre("zero");
        CHECK.promises(4, "e of CONTEXT 0, or 1 if c is an item");
        numbersThatAre("spot");
        Joinhand x = new Joinhand();
        x.lookup(Joinhand.CONTEXT, 0, 0, 0, 0);
        CHECK.argument("e is 1, c is NONE", () -> x.rule(0, NONE, 4, NONE, NONE, 1, 0));
        CHECK.argument("e is 1, c is NONE, d is an item", () -> x.rule(0, NONE, 4, NONE, 4, 1, 0));
        CHECK.is("e is 0, c is NONE", 1, () -> x.rule(0, NONE, 4, NONE, NONE, 0, 0));
        CHECK.is("e is 1, c is an item", 2, () -> x.rule(0, NONE, 4, 300, NONE, 1, 0));
    }

    private static void heightsAndPartsOfNone() {
        CHECK.says("CURSIVE: a is an item, b the height at which it is entered, c that at which it is left, NONE for neither.");
        Joinhand x = new Joinhand();
        x.lookup(Joinhand.CURSIVE, 0, 0, 0, 0);
        int count = 0;
        for (int b : n(NONE, -50, 0, 50)) {
            for (int c : n(NONE, 50)) {
                int due = ++count;
                CHECK.is("b is " + b + ", c is " + c, due, () -> x.rule(0, 4, b, c, 0, 0, 0));
            }
        }
        CHECK.says("BASE: a is an item, on which marks are set, b a part of it, 0 to 2, or NONE for any; c a class of marks, d and e are where such a mark is set.");
        Joinhand y = Check.with(10, 21);
        y.lookup(Joinhand.BASE, 0, 0, 0, 0);
        for (int part : n(-1, 3, -99, -101)) CHECK.argument("the part " + part, () -> y.rule(0, 10, part, 0, 0, 9, 0));
        for (int part : n(1, 2)) y.rule(0, 10, part, 0, 0, 9, 0);
        CHECK.places("another part", y, 1, 0, 0);
        y.rule(0, 10, NONE, 0, 0, 8, 0);
        CHECK.places("any part", y, 1, 0, 8);
    }

    private static void noSuchLookup(int promise, With call) {
        CHECK.promises(promise, NO_SUCH_LOOKUP);
        for (int count = 0; count <= 12; count++) {
            Joinhand x = new Joinhand();
            for (int i = 0; i < count; i++) x.lookup(0, 0, 0, 0, 0);
            for (int number = -3; number <= 15; number++) {
                int its = number;
                if (number < 0 || number >= count) wrong(true, call, x, number);
                else CHECK.is("the lookup " + number + " of " + count, 1, () -> answers(call, x, its) ? 1 : 0);
            }
            for (int far : FAR) wrong(true, call, x, far);
            x.useFace(1);
            wrong(true, call, x, 0);
        }
    }

    private static void ruleCounts() {
        CHECK.promises(4, "Throws `IllegalStateException` if it has 8");
        for (int kind = 0; kind < 10; kind++) {
            int[] right = RIGHT[kind];
            Joinhand x = new Joinhand();
            x.lookup(kind, 0, 0, 0, 0);
            for (int i = 0; i < 8; i++) tell(x, 0, right);
            CHECK.state("one more of the kind " + kind, () -> tell(x, 0, right));
            CHECK.state("one more again", () -> tell(x, 0, right));
        }
        CHECK.promises(4, "Returns how many rules it has then.");
        for (int kind = 0; kind < 10; kind++) {
            int[] right = RIGHT[kind];
            Joinhand x = new Joinhand();
            x.lookup(kind, 0, 0, 0, 0);
            x.lookup(kind, 0, 0, 0, 0);
            for (int i = 1; i <= 8; i++) {
                CHECK.is("the lookup 0 of the kind " + kind, i, () -> tell(x, 0, right));
                CHECK.is("the lookup 1 of the kind " + kind, i, () -> tell(x, 1, right));
            }
        }
    }

    private static void marks() {
        CHECK.promises(5, NO_SUCH_GLYPH);
        range(0, 255, true, n(), (x, number) -> x.setMark(number, 3));
        CHECK.promises(5, "Throws `IllegalArgumentException` if its is out of range");
        range(0, 3, false, n(), (x, number) -> x.setMark(4, number));
        range(NONE, NONE, false, n(), (x, number) -> x.setMark(4, number));
        CHECK.promises(5, "Returns what it was before: its class, or NONE.");
        Joinhand x = new Joinhand();
        int[] told = {0, 1, 2, 3, NONE, NONE, 3, 0, 0, NONE};
        int before = NONE;
        for (int its : told) {
            int due = before;
            CHECK.is("ahead of " + its, due, () -> x.setMark(255, its));
            before = its;
        }
        x.useFace(1);
        CHECK.is("the other face", 0, () -> x.setMark(21, NONE));
    }

    private static void groups() {
        CHECK.promises(6, "Throws `IndexOutOfBoundsException` if there is no such glyph or group");
        range(0, 255, true, n(), (x, number) -> x.setGroup(number, 5));
        range(0, 5, true, n(), (x, number) -> x.setGroup(255, number));
        Joinhand both = new Joinhand();
        CHECK.index("neither", () -> both.setGroup(256, 6));
        CHECK.promises(6, "Returns the group before.");
        Joinhand x = new Joinhand();
        int before = 0;
        for (int group : n(0, 1, 2, 3, 4, 5, 5, 0)) {
            int due = before;
            CHECK.is("ahead of " + group, due, () -> x.setGroup(0, group));
            before = group;
        }
    }

    private static void widths() {
        CHECK.promises(7, NO_SUCH_GLYPH);
        range(0, 255, true, n(), (x, number) -> x.setWidth(number, 100));
        CHECK.promises(7, WIDTH_RANGE);
        range(0, 100, false, n(), (x, number) -> x.setWidth(0, number));
        CHECK.promises(7, "Returns the width before.");
        Joinhand x = Check.with(4);
        int before = 10;
        for (int width : n(0, 100, 100, 1, 99, 0, 10)) {
            int due = before;
            CHECK.is("ahead of " + width, due, () -> x.setWidth(4, width));
            CHECK.is("the advance", width, () -> x.place(0, 2));
            before = width;
        }
    }

    private static void lacking() {
        CHECK.promises(8, NO_SUCH_SIGN);
        signs((x, sign) -> x.lack(sign) ? 1 : 0);
        CHECK.promises(8, "Returns whether it lacks it then.");
        Joinhand x = Check.with(0, 10);
        x.useFace(1);
        CHECK.is("once", 1, () -> x.lack(0) ? 1 : 0);
        CHECK.runs("once", x, 1, 100);
        CHECK.is("twice", 0, () -> x.lack(0) ? 1 : 0);
        CHECK.runs("twice", x, 0, 0);
        CHECK.is("three times", 1, () -> x.lack(0) ? 1 : 0);
        CHECK.is("another one", 1, () -> x.lack(10) ? 1 : 0);
        CHECK.runs("both", x, 1, 1);
    }

    // ---- size

    private static void sizes() {
        CHECK.promises(9, "for each glyph that a rule of it can begin with (BACKWARD and CONTEXT: that b can be) 1");
        for (int kind = 0; kind < 10; kind++) {
            boolean isMiddle = kind == Joinhand.CONTEXT || kind == Joinhand.BACKWARD;
            int[] told = RIGHT[kind].clone();
            told[isMiddle ? 1 : 0] = 301;
            Joinhand x = new Joinhand();
            x.lookup(kind, Joinhand.CALLED, 1, 2, 1);
            x.setGroup(21, 1);
            x.setGroup(200, 1);
            x.setGroup(201, 1);
            tell(x, 0, told);
            CHECK.is("the kind " + kind, 3 + 1, () -> x.size(0));
        }
        Joinhand x = new Joinhand();
        x.lookup(Joinhand.SINGLE, 0, 0, 0, 0);
        CHECK.is("no rule", 0, () -> x.size(0));
        x.rule(0, 303, 4, 0, 0, 0, 0);
        CHECK.is("an empty group", 0, () -> x.size(0));
        x.setGroup(0, 3);
        CHECK.is("the first glyph", 1 + 1, () -> x.size(0));
        x.setGroup(255, 3);
        CHECK.is("the last glyph", 2 + 1, () -> x.size(0));
        x.setMark(255, 1);
        CHECK.is("whatever is a mark", 2 + 1, () -> x.size(0));
        for (int i = 1; i < 255; i++) x.setGroup(i, 3);
        CHECK.is("all glyphs", 256 + 1, () -> x.size(0));
    }

    private static void listsOnce() {
        CHECK.promises(9, "and for all lists of rules, each list that is the same for several glyphs once, how many rules these have together");
        Joinhand all = new Joinhand();
        all.lookup(Joinhand.SINGLE, 0, 0, 0, 0);
        for (int i = 1; i <= 8; i++) {
            all.rule(0, 300, 4, 0, 0, 0, 0);
            int due = 256 + i;
            CHECK.is("all glyphs, so many rules: " + i, due, () -> all.size(0));
        }
        for (int i = 0; i < 256; i++) all.setGroup(i, 1);
        CHECK.is("no glyph", 0, () -> all.size(0));
        Joinhand single = new Joinhand();
        single.lookup(Joinhand.SINGLE, 0, 0, 0, 0);
        for (int i = 0; i < 8; i++) single.rule(0, i, 4, 0, 0, 0, 0);
        CHECK.is("eight lists", 8 + 8, () -> single.size(0));
        Joinhand x = new Joinhand();
        x.lookup(Joinhand.SINGLE, 0, 0, 0, 0);
        x.rule(0, 301, 4, 0, 0, 0, 0);
        x.rule(0, 302, 4, 0, 0, 0, 0);
        x.rule(0, 50, 4, 0, 0, 0, 0);
        for (int i = 50; i < 60; i++) x.setGroup(i, 1 + i % 2);
        CHECK.is("five of the group 2, four of the group 1, and 50 of both", 10 + 1 + 1 + 2, () -> x.size(0));
    }

    private static void listsByPlaces() {
        CHECK.promises(9, "The list of a glyph has the rules that can begin with it, by their places in the lookup.");
        Joinhand x = new Joinhand();
        x.lookup(Joinhand.SINGLE, 0, 0, 0, 0);
        x.rule(0, 4, 9, 0, 0, 0, 0);
        x.rule(0, 5, 9, 0, 0, 0, 0);
        CHECK.is("lists of one at two places", 2 + 1 + 1, () -> x.size(0));
        x.rule(0, 4, 9, 0, 0, 0, 0);
        CHECK.is("the same rule twice", 2 + 2 + 1, () -> x.size(0));
        x.rule(0, 302, 9, 0, 0, 0, 0);
        for (int i = 10; i < 20; i++) x.setGroup(i, 2);
        CHECK.is("ten with one list", 12 + 2 + 1 + 1, () -> x.size(0));
        x.setGroup(5, 2);
        CHECK.is("lists of two at other places", 12 + 2 + 2 + 1, () -> x.size(0));
    }

    // ---- the text

    private static void inserting() {
        CHECK.promises(10, NO_SUCH_PLACE);
        for (int length = 0; length <= 15; length++) {
            int[] text = new int[length];
            java.util.Arrays.fill(text, 4);
            range(0, length, true, text, (x, number) -> x.insert(number, 5));
        }
        CHECK.promises(10, NO_SUCH_SIGN);
        signs((x, sign) -> x.insert(0, sign));
        CHECK.promises(10, "Throws `IllegalStateException` if the text has 16");
        Joinhand full = textOf(16, 4);
        for (int place = 0; place <= 16; place++) {
            int its = place;
            CHECK.state("insert at " + place, () -> full.insert(its, 5));
        }
        full.cut(7);
        CHECK.is("no longer", 16, () -> full.insert(0, 5));
        CHECK.promises(10, "Returns the length then.");
        Joinhand x = new Joinhand();
        for (int i = 1; i <= 16; i++) CHECK.is("the sign " + i, i, () -> x.insert(0, 4));
    }

    private static void insertedExtra() {
        CHECK.promises(10, "Puts a sign into the text, with EXTRA 0.");
        Joinhand x = Check.with(4, 4);
        x.setExtra(0, 1, 3);
        x.cut(1);
        x.insert(1, 5);
        CHECK.is("where one with another value was", 0, () -> x.setExtra(1, 1, 0));
        x.insert(0, 6);
        CHECK.is("ahead of one with another value", 0, () -> x.setExtra(0, 0, 0));
        CHECK.is("which keeps it", 0, () -> x.setExtra(1, 1, 3));
        for (int place = 0; place <= 3; place++) {
            Joinhand y = Check.with(4, 5, 6);
            y.insert(place, 9);
            int[] due = {4, 5, 6, 6};
            for (int i = 3; i > place; i--) due[i] = due[i - 1];
            due[place] = 9;
            CHECK.glyphs("at the place " + place, y, due);
        }
    }

    private static void cutting() {
        CHECK.promises(11, NO_SUCH_PLACE);
        placesOfSigns((x, place) -> x.cut(place));
        CHECK.promises(11, "Returns the sign.");
        for (int sign = 0; sign <= 44; sign++) {
            if (sign > 23 && sign < 30) continue;
            Joinhand x = Check.with(4, sign, 5);
            CHECK.is("the sign " + sign, sign, () -> x.cut(1));
            CHECK.glyphs("the others", x, 4, 5);
        }
        Joinhand extra = Check.with(4, 5, 6, 7);
        extra.setExtra(1, 1, 1);
        extra.setExtra(2, 2, 2);
        extra.setExtra(3, 3, 3);
        extra.cut(0);
        extra.cut(1);
        CHECK.is("what moves keeps its EXTRA", 0, () -> extra.setExtra(0, 0, 1));
        CHECK.is("what moves twice too", 0, () -> extra.setExtra(1, 1, 3));
        Joinhand full = Check.with(0, 1, 4, 5, 6, 7, 8, 9, 10, 11, 12, 13, 14, 15, 16, 17);
        int[] due = {17, 0, 16, 1};
        CHECK.is("the last one of 16", due[0], () -> full.cut(15));
        CHECK.is("the first one", due[1], () -> full.cut(0));
        CHECK.is("the last one", due[2], () -> full.cut(13));
        CHECK.is("the first one", due[3], () -> full.cut(0));
    }

    private static void tongues() {
        CHECK.promises(12, "Throws `IllegalArgumentException` if tongue is out of range");
        range(1, 2, false, n(), (x, number) -> x.setTongue(number));
        CHECK.promises(12, "Returns the tongue before.");
        Joinhand x = new Joinhand();
        CHECK.is("1 at first", 1, () -> x.setTongue(1));
        CHECK.is("1 still", 1, () -> x.setTongue(2));
        CHECK.is("2", 2, () -> x.setTongue(2));
        CHECK.is("2 still", 2, () -> x.setTongue(1));
        CHECK.is("1 again", 1, () -> x.setTongue(1));
    }

    private static void extras() {
        CHECK.promises(13, "Throws `IndexOutOfBoundsException` if there is no such place, or to is below from");
        for (int length = 0; length <= 16; length += 4) {
            for (int from = -1; from <= length; from++) {
                for (int to = -1; to <= length; to++) {
                    int first = from;
                    int last = to;
                    Joinhand x = textOf(length, 4);
                    boolean isRight = from >= 0 && from < length && to >= from && to < length;
                    String name = "from " + from + " to " + to + " of " + length;
                    if (isRight) CHECK.is(name, to - from + 1, () -> x.setExtra(first, last, 1));
                    else CHECK.index(name, () -> x.setExtra(first, last, 1));
                }
            }
        }
        CHECK.promises(13, "Throws `IllegalArgumentException` if value is out of range");
        range(0, 3, false, n(4, 5), (x, number) -> x.setExtra(0, 1, number));
        CHECK.promises(13, "Returns for how many signs it is another one then.");
        Joinhand x = Check.with(4, 4, 4, 4);
        CHECK.is("none", 0, () -> x.setExtra(0, 3, 0));
        CHECK.is("one", 1, () -> x.setExtra(2, 2, 3));
        CHECK.is("all but one", 3, () -> x.setExtra(0, 3, 3));
        CHECK.is("none again", 0, () -> x.setExtra(0, 3, 3));
        CHECK.is("all", 4, () -> x.setExtra(0, 3, 2));
        CHECK.is("to 0", 2, () -> x.setExtra(1, 2, 0));
    }

    // ---- what is shaped

    private static void allGlyphs() {
        CHECK.promises(14, "Returns how many glyphs there are, of all runs one behind the other.");
        CHECK.is("none", 0, () -> new Joinhand().glyphs());
        CHECK.is("none of signs that are taken out", 0, () -> Check.with(2, 3).glyphs());
        CHECK.is("runs", 4, () -> Check.with(10, 30, 11, 31).glyphs());
        CHECK.is("twice as many as signs", 32, () -> textOf(16, 39).glyphs());
        Joinhand x = new Joinhand();
        for (int i = 0; i < 6; i++) {
            x.lookup(Joinhand.SEVERAL, 0, 0, 0, 0);
            x.rule(i, 300, 100, 101, NONE, 0, 0);
        }
        for (int i = 0; i < 16; i++) {
            x.insert(i, i % 2 == 0 ? 30 : 10);
            int due = 64 * (i + 1);
            CHECK.is("full runs", due, x::glyphs);
            CHECK.is("the last one", 101, () -> x.glyph(due - 1));
            CHECK.index("none behind it", () -> x.glyph(due));
        }
        for (int i = 15; i >= 0; i--) {
            x.cut(i);
            int due = 64 * i;
            CHECK.is("cut again", due, x::glyphs);
        }
    }

    private static void noSuchGlyph() {
        CHECK.promises(15, NO_SUCH_GLYPH);
        placesOfGlyphs((x, place) -> x.glyph(place));
        CHECK.promises(16, NO_SUCH_GLYPH);
        placesOfGlyphs((x, place) -> x.glyphAnew(place));
        CHECK.promises(17, NO_SUCH_GLYPH);
        placesOfGlyphs((x, place) -> x.cluster(place));
        CHECK.promises(18, NO_SUCH_GLYPH);
        for (int what = 0; what <= 2; what++) {
            int its = what;
            placesOfGlyphs((x, place) -> x.place(place, its));
        }
    }

    private static void shapedAnew() {
        CHECK.promises(16, "Returns the same, shaped anew, each rule being looked at as it was told.");
        Joinhand x = Check.with(10, 11, 12);
        x.lookup(Joinhand.SINGLE, 0, 0, 0, 0);
        x.rule(0, 301, 100, 0, 0, 0, 0);
        CHECK.glyphs("an empty group", x, 10, 11, 12);
        x.setGroup(11, 1);
        CHECK.glyphs("a group of one", x, 10, 100, 12);
        x.setGroup(12, 1);
        x.setGroup(11, 0);
        CHECK.glyphs("another one", x, 10, 11, 100);
        x.rule(0, 300, 101, 0, 0, 0, 0);
        CHECK.glyphs("another rule", x, 101, 101, 100);
        x.useFace(1);
        x.lookup(Joinhand.SINGLE, 0, 0, 0, 0);
        x.rule(0, 301, 102, 0, 0, 0, 0);
        x.setGroup(10, 1);
        x.lack(10);
        CHECK.glyphs("the groups of the other face", x, 102, 101, 100);
    }

    private static void tellingOfPlaces() {
        CHECK.promises(18, "- `what`: 0 where it is from the left, 1 its height, 2 its advance");
        Joinhand x = Check.with(30, 44);
        x.setWidth(44, 7);
        x.lookup(Joinhand.BASE, 0, 0, 0, 0);
        x.rule(0, 30, NONE, 0, 3, -4, 0);
        int[] due = {3, -4, 7};
        for (int what = 0; what <= 2; what++) {
            int its = what;
            CHECK.is("what " + what, due[what], () -> x.place(1, its));
        }
        CHECK.promises(18, "Throws `IllegalArgumentException` if what is out of range");
        range(0, 2, false, n(30, 44), (y, number) -> y.place(1, number));
    }

    private static void formsOfSigns() {
        CHECK.promises(19, NO_SUCH_PLACE);
        placesOfSigns((x, place) -> x.form(place));
        CHECK.promises(19, "Returns ALONE to END; NONE for all but 10 to 20, and in a run of S.");
        CHECK.forms("all of J", Check.with(9, 10, 11, 12, 21, 19, 0), NONE, 1, 2, 3, NONE, 0, NONE);
        CHECK.forms("S", Check.with(30, 0, 2, 39, 44), NONE, NONE, NONE, NONE, NONE);
        Joinhand x = Check.with(10, 11);
        x.lookup(Joinhand.LIGATURE, 0, 0, 0, 0);
        x.rule(0, 10, 11, NONE, 2, 0, 0);
        CHECK.forms("whatever becomes of the glyphs", x, 1, 3);
    }

    private static void runNumbers() {
        CHECK.promises(20, NO_SUCH_PLACE);
        placesOfSigns((x, place) -> x.run(place));
        CHECK.promises(20, "100 times its number, from 0 on, 10 if its script is S, and its face, together");
        Joinhand x = Check.with(10, 11, 30, 31);
        CHECK.runs("the face 0", x, 0, 0, 110, 110);
        x.lack(10);
        CHECK.runs("the face 1 in J", x, 1, 100, 210, 210);
        x.lack(31);
        CHECK.runs("the face 1 in S", x, 1, 100, 210, 311);
        Joinhand most = Check.with(30, 31, 30, 31, 30, 31, 30, 31, 30, 31, 30, 31, 30, 31, 30, 31);
        most.lack(31);
        CHECK.is("the last of 16", 1511, () -> most.run(15));
    }

    private static void carets() {
        CHECK.promises(21, NO_SUCH_PLACE);
        placesOfSigns((x, place) -> x.caret(place));
        CHECK.promises(21, "Returns how far it is from the left.");
        Joinhand x = textOf(16, 30);
        x.setWidth(30, 100);
        for (int i = 0; i < 16; i++) {
            int its = i;
            CHECK.is("S", 100 * i, () -> x.caret(its));
        }
        Joinhand y = textOf(16, 4);
        for (int i = 0; i < 16; i++) {
            int its = i;
            CHECK.is("J", 160 - 10 * i, () -> y.caret(its));
        }
    }

    private static void hits() {
        CHECK.promises(22, "Returns the sign whose caret is nearest to a point, the first one of several.");
        Joinhand x = Check.with(30, 31, 10, 11);
        CHECK.carets("carets", x, 0, 10, 40, 30);
        int[] due = {0, 0, 0, 1, 1, 1, 1, 3, 3, 3, 2, 2, 2};
        int[] points = {0, 4, 5, 6, 10, 19, 20, 21, 30, 34, 35, 36, 41};
        for (int i = 0; i < due.length; i++) {
            int at = points[i];
            CHECK.is("at " + at, due[i], () -> x.hit(at));
        }
        Joinhand same = Check.with(2, 3, 30, 31);
        CHECK.is("three at one place", 0, () -> same.hit(0));
        CHECK.is("between", 0, () -> same.hit(5));
        CHECK.is("nearer to the last one", 3, () -> same.hit(6));
    }

    private static void hitRange() {
        CHECK.promises(22, "Throws `IllegalArgumentException` if x is out of range");
        range(-1000, 10000, false, n(30, 31), (x, number) -> x.hit(number));
        Joinhand ends = Check.with(30, 31);
        CHECK.is("-1000", 0, () -> ends.hit(-1000));
        CHECK.is("10000", 1, () -> ends.hit(10000));
        CHECK.promises(22, "Returns the place of the sign; NONE for an empty text.");
        Joinhand empty = new Joinhand();
        for (int at : n(-1000, 0, 10000)) CHECK.is("empty", NONE, () -> empty.hit(at));
        for (int wrong : n(-1001, 10001)) CHECK.argument("empty", () -> empty.hit(wrong));
        empty.insert(0, 2);
        CHECK.is("a sign without a glyph", 0, () -> empty.hit(100));
        empty.cut(0);
        CHECK.is("empty again", NONE, () -> empty.hit(0));
    }

    private static void safePlaces() {
        CHECK.promises(23, NO_SUCH_PLACE);
        for (int length = 0; length <= 16; length++) {
            Joinhand x = textOf(length, 4);
            for (int place = -2; place <= length + 2; place++) {
                int its = place;
                String name = "isSafe " + place + " of " + length;
                if (place < 1 || place > length - 1) CHECK.index(name, () -> x.isSafe(its) ? 1 : 0);
                else CHECK.is(name, 1, () -> x.isSafe(its) ? 1 : 0);
            }
            for (int far : FAR) CHECK.index("isSafe " + far, () -> x.isSafe(far) ? 1 : 0);
        }
    }

    // ---- lines

    private static void lineWidths() {
        CHECK.promises(24, WIDTH_RANGE);
        range(0, 10000, false, n(0), (x, number) -> x.fill(number));
        CHECK.promises(25, WIDTH_RANGE);
        range(0, 10000, false, n(0), (x, number) -> x.filling(number, 0));
        CHECK.promises(25, NO_SUCH_PLACE);
        placesOfSigns((x, place) -> x.filling(0, place));
        placesOfSigns((x, place) -> x.filling(10000, place));
    }

    private static void fills() {
        CHECK.promises(24, "Returns 0, or what could be filled neither by strokes nor blanks; NONE if the text is wider.");
        Joinhand x = Check.with(4, 5);
        CHECK.is("wider by 20", NONE, () -> x.fill(0));
        CHECK.is("wider by 1", NONE, () -> x.fill(19));
        CHECK.is("as wide", 0, () -> x.fill(20));
        CHECK.is("1 is missing", 1, () -> x.fill(21));
        CHECK.is("most of it is missing", 9980, () -> x.fill(10000));
        x.insert(2, 0);
        CHECK.is("wider by 1, with a blank", NONE, () -> x.fill(29));
        CHECK.is("as wide, with a blank", 0, () -> x.fill(30));
        CHECK.is("a blank", 0, () -> x.fill(31));
        CHECK.is("strokes alone", 9, () -> Check.with(10, 16).fill(39));
        CHECK.is("strokes and nothing left", 0, () -> Check.with(10, 16).fill(40));
        Joinhand empty = new Joinhand();
        CHECK.is("an empty text, 0", 0, () -> empty.fill(0));
        CHECK.is("an empty text, 10000", 10000, () -> empty.fill(10000));
        Joinhand thin = Check.with(4, 5);
        thin.lookup(Joinhand.PAIR, 0, 0, 0, 0);
        thin.rule(0, 4, 5, -50, 0, 0, 0);
        CHECK.is("a text less wide than 0", 30, () -> thin.fill(0));
        Joinhand wide = textOf(16, 4);
        wide.setWidth(4, 100);
        for (int i = 0; i < 12; i++) {
            wide.lookup(Joinhand.PAIR, 0, 0, 0, 0);
            wide.rule(i, 300, 300, 50, 0, 0, 0);
        }
        CHECK.is("a text wider than all lines", NONE, () -> wide.fill(10000));
    }

    private static void fillingsOfSigns() {
        CHECK.promises(25, "Returns the number; 0 if nothing is put there, or the text is wider.");
        Joinhand x = Check.with(10, 16, 0, 4);
        CHECK.fillings("wider", x, 39, 0, 0, 0, 0);
        CHECK.fillings("as wide", x, 40, 0, 0, 0, 0);
        CHECK.fillings("a blank", x, 41, 0, 0, 1, 0);
        CHECK.fillings("a stroke and a blank", x, 51, 1, 0, 1, 0);
        CHECK.fillings("the widest line", x, 10000, 996, 0, 0, 0);
        CHECK.fillings("wider again", x, 0, 0, 0, 0, 0);
    }

    public static void main(String[] args) {
        constants();
        textAsItIs();
        manyCalls();
        nothingIsChanged();
        firstException();
        newObject();
        faces();
        lookupRanges();
        lookupCounts();
        ruleRanges();
        heightsAndPartsOfNone();
        noSuchLookup(4, (x, lookup) -> x.rule(lookup, 4, 4, 0, 0, 0, 0));
        noSuchLookup(9, (x, lookup) -> x.size(lookup));
        ruleCounts();
        marks();
        groups();
        widths();
        lacking();
        sizes();
        listsOnce();
        listsByPlaces();
        inserting();
        insertedExtra();
        cutting();
        tongues();
        extras();
        allGlyphs();
        noSuchGlyph();
        shapedAnew();
        tellingOfPlaces();
        formsOfSigns();
        runNumbers();
        carets();
        hits();
        hitRange();
        safePlaces();
        lineWidths();
        fills();
        fillingsOfSigns();
        CHECK.end("CallEdgesTest");
    }
}

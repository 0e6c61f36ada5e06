/** Promises 20 to 25: runs, carets, hits, safe places and lines. */
final class LineTest {
    private static final int NONE = Joinhand.NONE;
    private static final Check CHECK = new Check();

    private static void runs() {
        CHECK.runs("20: common signs alone", Check.with(0, 4, 2), 0, 0, 0);
        CHECK.runs("20: common signs at the beginning", Check.with(0, 4, 30, 1, 10, 3), 10, 10, 10, 10, 100, 100);
        Joinhand shorter = Check.with(0, 9, 30);
        CHECK.runs("20: by the first sign that is not common", shorter, 10, 10, 10);
        shorter.cut(2);
        CHECK.runs("20: which was cut", shorter, 0, 0);
        CHECK.runs("20: figures are common", Check.with(30, 9, 4), 10, 10, 10);
        CHECK.runs("20: marks have a script", Check.with(21, 44, 20, 43), 0, 110, 200, 310);
        Joinhand x = Check.with(10, 0, 11, 30, 0, 31);
        CHECK.index("20: no place 6", () -> x.run(6));
        CHECK.index("20: no place -1", () -> x.run(-1));
        x.lack(0);
        CHECK.runs("20: by script and face", x, 0, 101, 200, 310, 411, 510);
        x.lack(11);
        CHECK.runs("20: by script and face", x, 0, 101, 101, 210, 311, 410);
        Joinhand most = Check.with(10, 30, 10, 30, 10, 30, 10, 30, 10, 30, 10, 30, 10, 30, 10, 30);
        CHECK.is("20: the last of 16", 1510, () -> most.run(15));
    }

    private static void carets() {
        Joinhand x = Check.with(10, 21, 11, 16);
        CHECK.index("21: no place 4", () -> x.caret(4));
        CHECK.index("21: no place -1", () -> x.caret(-1));
        CHECK.carets("21: from the right end", x, 30, 25, 20, 10);
        x.insert(0, 30);
        CHECK.carets("21: runs one behind the other", x, 0, 40, 35, 30, 20);
        Joinhand s = Check.with(38, 39, 30, 40, 0, 31);
        CHECK.carets("21: a syllable is shared", s, 0, 5, 10, 15, 20, 30);
        s.setWidth(30, 9);
        CHECK.carets("21: rounded down", s, 0, 4, 9, 14, 19, 29);
        Joinhand lost = Check.with(2, 3, 4, 5);
        CHECK.carets("21: signs of no cluster, from the right", lost, 20, 20, 20, 10);
        Joinhand lostToo = Check.with(2, 3, 30, 2, 31);
        CHECK.carets("21: signs of no cluster, and shared ones", lostToo, 0, 0, 0, 5, 10);
        CHECK.carets("21: a run without glyphs", Check.with(2, 3), 0, 0);
        Joinhand less = Check.with(4, 5, 30, 30, 30);
        less.lookup(Joinhand.LIGATURE, 0, 0, 0, 0);
        less.rule(0, 30, 30, 30, 100, 0, 0);
        less.lookup(Joinhand.PAIR, 0, 0, 0, 0);
        less.rule(1, 5, 300, -50, 0, 0, 0);
        less.setWidth(100, 0);
        CHECK.carets("21: an advance below 0", less, 0, 10, -30, -30, -30);
        less.lookup(Joinhand.PAIR, 0, 0, 0, 0);
        less.insert(5, 31);
        less.rule(2, 100, 31, -10, 0, 0, 0);
        CHECK.carets("21: rounded down below 0", less, 0, 10, -30, -34, -37, -40);
        Joinhand right = Check.with(10, 11, 12);
        right.lookup(Joinhand.LIGATURE, 0, 0, 0, 0);
        right.rule(0, 10, 11, 12, 100, 0, 0);
        CHECK.carets("21: rounded down, less from the right end", right, 10, 7, 4);
    }

    private static void hits() {
        Joinhand x = new Joinhand();
        CHECK.argument("22: no point -1001", () -> x.hit(-1001));
        CHECK.argument("22: no point 10001", () -> x.hit(10001));
        CHECK.is("22: an empty text", NONE, () -> x.hit(-1000));
        Check.type(x, 30, 31, 32, 10, 11);
        CHECK.carets("22: carets", x, 0, 10, 20, 50, 40);
        CHECK.is("22: far left", 0, () -> x.hit(-1000));
        CHECK.is("22: far right", 3, () -> x.hit(10000));
        CHECK.is("22: the first one of two", 0, () -> x.hit(5));
        CHECK.is("22: the nearest one", 1, () -> x.hit(6));
        CHECK.is("22: the first one of two", 2, () -> x.hit(30));
        CHECK.is("22: the nearest one", 4, () -> x.hit(31));
        CHECK.is("22: the first one of two", 3, () -> x.hit(45));
        x.setWidth(31, 0);
        CHECK.is("22: the first one of those at one place", 1, () -> x.hit(10));
    }

    private static void safePlaces() {
        Joinhand x = Check.with(10, 21, 0, 11);
        CHECK.index("23: no place 0", () -> x.isSafe(0) ? 1 : 0);
        CHECK.index("23: no place 4", () -> x.isSafe(4) ? 1 : 0);
        CHECK.index("23: an empty text", () -> new Joinhand().isSafe(0) ? 1 : 0);
        CHECK.index("23: one sign", () -> Check.with(10).isSafe(1) ? 1 : 0);
        CHECK.safe("23: a mark has the cluster of its letter", x, false, true, true);
        x.lookup(Joinhand.PAIR, 0, 0, 0, 1);
        x.rule(0, 10, 0, 1, 0, 0, 0);
        CHECK.safe("23: advances", x, false, false, true);
        x.lookup(Joinhand.CURSIVE, 0, 0, 0, 0);
        x.rule(1, 0, NONE, 4, 0, 0, 0);
        x.rule(1, 11, 4, NONE, 0, 0, 0);
        CHECK.safe("23: the same height", x, false, false, true);
        x.rule(1, 21, NONE, 0, 0, 0, 0);
        x.setMark(21, 0);
        x.lookup(Joinhand.CURSIVE, 0, 0, 0, 0);
        x.rule(2, 0, NONE, 4, 0, 0, 0);
        x.rule(2, 11, 3, NONE, 0, 0, 0);
        CHECK.safe("23: another height", x, false, false, false);
        Joinhand forms = Check.with(10, 11);
        CHECK.safe("23: forms alone", forms, true);
        forms.lookup(Joinhand.SINGLE, Joinhand.FORMS + Joinhand.ALONE, 0, 0, 0);
        forms.rule(0, 11, 111, 0, 0, 0, 0);
        CHECK.safe("23: glyphs by forms", forms, false);
        Joinhand set = Check.with(4, 5);
        set.setMark(5, 1);
        CHECK.safe("23: a mark that is not set", set, true);
        set.lookup(Joinhand.BASE, 0, 0, 0, 0);
        set.rule(0, 4, NONE, 1, 0, 0, 0);
        CHECK.safe("23: a mark that is set at no distance", set, false);
        Joinhand later = Check.with(0, 4, 5);
        later.setMark(5, 1);
        later.lookup(Joinhand.BASE, 0, 0, 0, 0);
        later.rule(0, 4, NONE, 1, 3, 2, 0);
        CHECK.safe("23: on the same glyph, that place added", later, true, false);
        Joinhand distances = Check.with(10, 11, 12);
        distances.setMark(11, 1);
        distances.lookup(Joinhand.BASE, 0, 0, 0, 0);
        distances.rule(0, 10, NONE, 1, 3, 2, 0);
        CHECK.safe("23: the same distance", distances, false, true);
        distances.lookup(Joinhand.BASE, Joinhand.FORMS + Joinhand.END, 0, 0, 0);
        distances.rule(1, 10, NONE, 1, 4, 2, 0);
        CHECK.safe("23: another distance", distances, false, false);
        Joinhand script = Check.with(30, 0, 10);
        CHECK.safe("23: a script that comes from ahead", script, true, true);
        Joinhand ligature = Check.with(4, 5);
        ligature.setExtra(1, 1, 2);
        CHECK.safe("23: alike", ligature, true);
        ligature.lookup(Joinhand.LIGATURE, 0, 0, 0, 0);
        ligature.rule(0, 4, 5, NONE, 6, 0, 0);
        CHECK.safe("23: fewer glyphs", ligature, false);
        Joinhand syllables = Check.with(30, 40, 31, 39, 32, 0);
        CHECK.safe("23: syllables", syllables, false, true, false, false, true);
    }

    private static void fillings() {
        Joinhand x = Check.with(10, 11, 0, 12, 21, 13, 16, 0);
        CHECK.argument("24: no width -1", () -> x.fill(-1));
        CHECK.argument("24: no width 10001", () -> x.fill(10001));
        CHECK.argument("25: no width -1", () -> x.filling(-1, 0));
        CHECK.argument("25: no width 10001", () -> x.filling(10001, 0));
        CHECK.index("25: no place 8, and a wrong width", () -> x.filling(10001, 8));
        CHECK.index("25: no place -1", () -> x.filling(5, -1));
        CHECK.forms("19: forms", x, 1, 3, NONE, 1, NONE, 2, 3, NONE);
        CHECK.is("24: the text is wider", NONE, () -> x.fill(69));
        CHECK.is("24: as wide as the text", 0, () -> x.fill(70));
        CHECK.fillings("25: the text is wider", x, 69, 0, 0, 0, 0, 0, 0, 0, 0);
        CHECK.fillings("25: nothing is missing", x, 70, 0, 0, 0, 0, 0, 0, 0, 0);
        CHECK.fillings("25: blanks alone", x, 79, 0, 0, 5, 0, 0, 0, 0, 4);
        CHECK.fillings("25: the last stroke first", x, 80, 0, 0, 0, 0, 0, 1, 0, 0);
        CHECK.fillings("25: then those ahead of it", x, 121, 1, 0, 1, 2, 0, 2, 0, 0);
        CHECK.is("24: nothing is left", 0, () -> x.fill(121));
        x.setWidth(20, 0);
        CHECK.fillings("25: no strokes", x, 77, 0, 0, 4, 0, 0, 0, 0, 3);
        x.useFace(1);
        x.setWidth(20, 5);
        Joinhand other = Check.with(10, 16);
        other.useFace(1);
        other.setWidth(20, 100);
        CHECK.is("24: strokes are those of the face 0", 4, () -> other.fill(54));
        CHECK.fillings("25: strokes are those of the face 0", x, 77, 0, 0, 4, 0, 0, 0, 0, 3);
        x.lack(10);
        x.lack(11);
        x.useFace(0);
        x.setWidth(20, 7);
        CHECK.fillings("25: whatever the face of the run", x, 77, 0, 0, 0, 0, 0, 1, 0, 0);
        Joinhand none = Check.with(10, 16);
        CHECK.is("24: what is left", 9, () -> none.fill(59));
        CHECK.fillings("25: strokes", none, 59, 3, 0);
        none.lookup(Joinhand.LIGATURE, 0, 0, 0, 0);
        none.rule(0, 10, 16, NONE, 100, 0, 0);
        CHECK.is("24: no stroke in a ligature", 49, () -> none.fill(59));
        CHECK.fillings("25: no stroke in a ligature", none, 59, 0, 0);
        Joinhand joiner = Check.with(10, 2, 16);
        CHECK.forms("19: joined by the JOINER", joiner, 1, NONE, 3);
        CHECK.fillings("25: the JOINER is of the cluster ahead", joiner, 100, 0, 0, 0);
        Joinhand marked = Check.with(10, 21, 20, 16);
        CHECK.fillings("25: marks are passed over, the stroke takes strokes", marked, 60, 1, 0, 2, 0);
        CHECK.is("24: only what is not wider", NONE, () -> Check.with(30).fill(9));
        CHECK.is("24: neither strokes nor blanks", 9990, () -> Check.with(30).fill(10000));
        Joinhand thin = Check.with(0, 4);
        thin.lookup(Joinhand.PAIR, 0, 0, 0, 0);
        thin.rule(0, 0, 4, -50, 0, 0, 0);
        CHECK.fillings("25: a text less wide than 0", thin, 0, 30, 0);
        CHECK.is("24: a text less wide than 0", 0, () -> thin.fill(0));
    }

    public static void main(String[] args) {
        runs();
        carets();
        hits();
        safePlaces();
        fillings();
        CHECK.end("LineTest");
    }
}

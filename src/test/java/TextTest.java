/** Promises 10 to 13: the text, its tongue and the values of EXTRA. */
final class TextTest {
    private static final int NONE = Joinhand.NONE;
    private static final Check CHECK = new Check();

    private static void insert() {
        Joinhand x = new Joinhand();
        CHECK.index("10: no place 1", () -> x.insert(1, 10));
        CHECK.index("10: no place -1, and no such sign", () -> x.insert(-1, 24));
        for (int wrong : new int[] {-1, 24, 29, 45, 64, NONE}) CHECK.argument("10: no sign " + wrong, () -> x.insert(0, wrong));
        for (int i = 0; i < 16; i++) {
            int its = i;
            CHECK.is("10: sign " + i, i + 1, () -> x.insert(its / 2, 4 + its % 6));
        }
        CHECK.glyphs("10: the order", x, 5, 7, 9, 5, 7, 9, 5, 7, 6, 4, 8, 6, 4, 8, 6, 4);
        CHECK.state("10: a text has 16 signs at most", () -> x.insert(16, 10));
        CHECK.argument("10: no sign goes ahead of a full text", () -> x.insert(16, 45));
        CHECK.index("10: no place goes ahead of all", () -> x.insert(17, 45));
        CHECK.is("10: what was wrong changed nothing", 16, x::glyphs);
        Joinhand y = Check.with(4, 5);
        y.setExtra(0, 1, 2);
        y.insert(1, 6);
        CHECK.is("10: EXTRA is 0 at first, and moves with its sign", 2, () -> y.setExtra(0, 2, 0));
        y.setExtra(1, 1, 3);
        y.insert(0, 7);
        CHECK.is("10: EXTRA moves with its sign", 0, () -> y.setExtra(2, 2, 3));
    }

    private static void cut() {
        Joinhand x = Check.with(4, 5, 6);
        CHECK.index("11: no place 3", () -> x.cut(3));
        CHECK.index("11: no place -1", () -> x.cut(-1));
        x.setExtra(2, 2, 3);
        CHECK.is("11: the sign", 5, () -> x.cut(1));
        CHECK.glyphs("11: the others stay", x, 4, 6);
        CHECK.is("11: EXTRA moves with its sign", 0, () -> x.setExtra(1, 1, 3));
        CHECK.is("11: the last one", 6, () -> x.cut(1));
        CHECK.is("11: the only one", 4, () -> x.cut(0));
        CHECK.index("11: none is left", () -> x.cut(0));
        CHECK.is("11: and none is shaped", 0, x::glyphs);
    }

    private static void setTongue() {
        Joinhand x = Check.with(4, 5, 6);
        for (int tongue = 0; tongue < 3; tongue++) {
            x.lookup(0, 0, 0, tongue, 0);
            x.rule(tongue, 4 + tongue, 100 + tongue, 0, 0, 0, 0);
        }
        CHECK.argument("12: no tongue 0", () -> x.setTongue(0));
        CHECK.argument("12: no tongue 3", () -> x.setTongue(3));
        CHECK.glyphs("12: the tongue 1", x, 100, 101, 6);
        CHECK.is("12: the tongue before", 1, () -> x.setTongue(2));
        CHECK.glyphs("12: the tongue 2", x, 100, 5, 102);
        CHECK.is("12: the tongue before", 2, () -> x.setTongue(1));
        x.lookup(Joinhand.PAIR, 0, 0, 2, 0);
        x.rule(3, 300, 300, 5, 0, 0, 0);
        CHECK.places("12: a PAIR for another tongue", x, 2, 10, 10, 10);
        x.setTongue(2);
        CHECK.places("12: a PAIR for the tongue", x, 2, 15, 15, 10);
    }

    private static void setExtra() {
        Joinhand x = Check.with(4, 5, 6);
        CHECK.index("13: no place -1", () -> x.setExtra(-1, 0, 4));
        CHECK.index("13: no place 3", () -> x.setExtra(0, 3, 4));
        CHECK.index("13: no place 3", () -> x.setExtra(3, 3, 0));
        CHECK.index("13: to is below from", () -> x.setExtra(1, 0, 1));
        CHECK.argument("13: no value 4", () -> x.setExtra(0, 2, 4));
        CHECK.argument("13: no value -1", () -> x.setExtra(0, 2, -1));
        CHECK.is("13: one", 1, () -> x.setExtra(1, 1, 1));
        CHECK.is("13: two others", 2, () -> x.setExtra(0, 2, 1));
        CHECK.is("13: none", 0, () -> x.setExtra(0, 2, 1));
        CHECK.is("13: three", 3, () -> x.setExtra(0, 2, 3));
        x.setExtra(1, 1, 0);
        x.lookup(Joinhand.SINGLE, Joinhand.EXTRA, 0, 0, 0);
        x.rule(0, 300, 99, 0, 0, 0, 0);
        CHECK.glyphs("13: what has EXTRA", x, 99, 5, 99);
    }

    public static void main(String[] args) {
        insert();
        cut();
        setTongue();
        setExtra();
        CHECK.end("TextTest");
    }
}

/** Counts the answers that are not due, and ends the program with 1 if there was one. */
final class Check {
    interface Call {
        long answer();
    }

    private int wrong = 0;
    private int asked = 0;

    void is(String what, long due, Call call) {
        asked++;
        long got;
        try {
            got = call.answer();
        } catch (RuntimeException e) {
            tell(what + " threw " + e + ", due is " + due);
            return;
        }
        if (got != due) tell(what + " answered " + got + ", due is " + due);
    }

    void index(String what, Call call) {
        throwing(what, IndexOutOfBoundsException.class, call);
    }

    void argument(String what, Call call) {
        throwing(what, IllegalArgumentException.class, call);
    }

    void state(String what, Call call) {
        throwing(what, IllegalStateException.class, call);
    }

    private void throwing(String what, Class<?> due, Call call) {
        asked++;
        try {
            tell(what + " answered " + call.answer() + ", due is " + due.getSimpleName());
        } catch (RuntimeException e) {
            if (e.getClass() != due) tell(what + " threw " + e + ", due is " + due.getSimpleName());
        }
    }

    void tell(String text) {
        wrong++;
        if (wrong <= 50) System.out.println(text);
    }

    void end(String name) {
        System.out.println(name + ": " + asked + " answers, " + wrong + " not as due");
        if (wrong != 0) System.exit(1);
    }

    /** A new object with a text of these signs. */
    static Joinhand with(int... signs) {
        Joinhand x = new Joinhand();
        type(x, signs);
        return x;
    }

    /** Puts signs in at the end of the text. */
    static void type(Joinhand x, int... signs) {
        int length = length(x);
        for (int i = 0; i < signs.length; i++) x.insert(length + i, signs[i]);
    }

    static int length(Joinhand x) {
        int length = 0;
        while (true) {
            try {
                x.form(length);
            } catch (IndexOutOfBoundsException e) {
                return length;
            }
            length++;
        }
    }

    /** All glyphs, both ways of shaping, must be these. */
    void glyphs(String what, Joinhand x, int... due) {
        is(what + ": glyphs", due.length, x::glyphs);
        for (int i = 0; i < due.length; i++) {
            int at = i;
            is(what + ": glyph " + i, due[i], () -> x.glyph(at));
            is(what + ": glyphAnew " + i, due[i], () -> x.glyphAnew(at));
        }
        index(what + ": glyph behind the last", () -> x.glyph(due.length));
        index(what + ": glyphAnew behind the last", () -> x.glyphAnew(due.length));
    }

    void clusters(String what, Joinhand x, int... due) {
        for (int i = 0; i < due.length; i++) {
            int at = i;
            is(what + ": cluster " + i, due[i], () -> x.cluster(at));
        }
    }

    void forms(String what, Joinhand x, int... due) {
        for (int i = 0; i < due.length; i++) {
            int at = i;
            is(what + ": form " + i, due[i], () -> x.form(at));
        }
    }

    void places(String what, Joinhand x, int kind, int... due) {
        for (int i = 0; i < due.length; i++) {
            int at = i;
            is(what + ": place " + i + ", " + kind, due[i], () -> x.place(at, kind));
        }
    }

    void runs(String what, Joinhand x, int... due) {
        for (int i = 0; i < due.length; i++) {
            int at = i;
            is(what + ": run " + i, due[i], () -> x.run(at));
        }
    }

    void carets(String what, Joinhand x, int... due) {
        for (int i = 0; i < due.length; i++) {
            int at = i;
            is(what + ": caret " + i, due[i], () -> x.caret(at));
        }
    }

    void fillings(String what, Joinhand x, int width, int... due) {
        for (int i = 0; i < due.length; i++) {
            int at = i;
            is(what + ": filling " + width + ", " + i, due[i], () -> x.filling(width, at));
        }
    }

    /** Which places are safe, from 1 on. */
    void safe(String what, Joinhand x, boolean... due) {
        for (int i = 0; i < due.length; i++) {
            int at = i + 1;
            is(what + ": isSafe " + at, due[i] ? 1 : 0, () -> x.isSafe(at) ? 1 : 0);
        }
    }
}

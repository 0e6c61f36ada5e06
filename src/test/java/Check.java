import java.io.IOException;
import java.io.UncheckedIOException;
import java.nio.file.Files;
import java.nio.file.Path;
import java.util.ArrayList;
import java.util.List;

/** Counts the answers that are not due, and ends the program with 1 if there was one. */
final class Check {
    interface Call {
        long answer();
    }

    private int wrong = 0;
    private int asked = 0;
    private final List<String> sentences = new ArrayList<>();
    private final List<String> headings = new ArrayList<>();

    /** The words of the document that the next answers are about. */
    void says(String words) {
        sentences.add(words);
        headings.add("# Joinhand");
    }

    /** The words of a promise that the next answers are about. */
    void promises(int number, String words) {
        sentences.add(words);
        headings.add("## Promise " + number + ":");
    }

    void is(String what, long due, Call call) {
        asked++;
        long got;
        try {
            got = call.answer();
        } catch (RuntimeException e) {
            tell(what + " threw " + e + ", due is " + due);
            return;
        }
        if (got != due) tell(what + " answered " + got + ", due is " + due);
    }

    void index(String what, Call call) {
        throwing(what, IndexOutOfBoundsException.class, call);
    }

    void argument(String what, Call call) {
        throwing(what, IllegalArgumentException.class, call);
    }

    void state(String what, Call call) {
        throwing(what, IllegalStateException.class, call);
    }

    private void throwing(String what, Class<?> due, Call call) {
        asked++;
        try {
            tell(what + " answered " + call.answer() + ", due is " + due.getSimpleName());
        } catch (RuntimeException e) {
            if (e.getClass() != due) tell(what + " threw " + e + ", due is " + due.getSimpleName());
        }
    }

    void tell(String text) {
        wrong++;
        if (wrong > 50) return;
        int last = sentences.size() - 1;
        if (last >= 0) System.out.print(headings.get(last) + " \"" + sentences.get(last) + "\" ");
        System.out.println(text);
    }

    /** A test must not go on holding what the document says no more. */
    private void compareWithDocument() {
        try {
            String document = Files.readString(Path.of("../shared/DOC.md"));
            for (int i = 0; i < sentences.size(); i++) {
                String heading = headings.get(i);
                int from = document.indexOf(heading);
                int to = heading.startsWith("##") && from >= 0 ? document.indexOf("\n## ", from) : document.length();
                if (from >= 0 && to >= 0 && document.substring(from, to).contains(sentences.get(i))) continue;
                wrong++;
                System.out.println("not in the document: " + heading + " " + sentences.get(i));
            }
        } catch (IOException e) {
            throw new UncheckedIOException(e);
        }
    }

    void end(String name) {
        if (!sentences.isEmpty()) compareWithDocument();
        System.out.println(name + ": " + asked + " answers, " + wrong + " not as due");
        if (wrong != 0) System.exit(1);
    }

    /** A new object with a text of these signs. */
    static Joinhand with(int... signs) {
        Joinhand x = new Joinhand();
        type(x, signs);
        return x;
    }

    /** Puts signs in at the end of the text. */
    static void type(Joinhand x, int... signs) {
        int length = length(x);
        for (int i = 0; i < signs.length; i++) x.insert(length + i, signs[i]);
    }

    static int length(Joinhand x) {
        int length = 0;
        while (true) {
            try {
                x.form(length);
            } catch (IndexOutOfBoundsException e) {
                return length;
            }
            length++;
        }
    }

    /** All glyphs, both ways of shaping, must be these. */
    void glyphs(String what, Joinhand x, int... due) {
        is(what + ": glyphs", due.length, x::glyphs);
        for (int i = 0; i < due.length; i++) {
            int at = i;
            is(what + ": glyph " + i, due[i], () -> x.glyph(at));
            is(what + ": glyphAnew " + i, due[i], () -> x.glyphAnew(at));
        }
        index(what + ": glyph behind the last", () -> x.glyph(due.length));
        index(what + ": glyphAnew behind the last", () -> x.glyphAnew(due.length));
    }

    void clusters(String what, Joinhand x, int... due) {
        for (int i = 0; i < due.length; i++) {
            int at = i;
            is(what + ": cluster " + i, due[i], () -> x.cluster(at));
        }
    }

    void forms(String what, Joinhand x, int... due) {
        for (int i = 0; i < due.length; i++) {
            int at = i;
            is(what + ": form " + i, due[i], () -> x.form(at));
        }
    }

    void places(String what, Joinhand x, int kind, int... due) {
        for (int i = 0; i < due.length; i++) {
            int at = i;
            is(what + ": place " + i + ", " + kind, due[i], () -> x.place(at, kind));
        }
    }

    void runs(String what, Joinhand x, int... due) {
        for (int i = 0; i < due.length; i++) {
            int at = i;
            is(what + ": run " + i, due[i], () -> x.run(at));
        }
    }

    void carets(String what, Joinhand x, int... due) {
        for (int i = 0; i < due.length; i++) {
            int at = i;
            is(what + ": caret " + i, due[i], () -> x.caret(at));
        }
    }

    void fillings(String what, Joinhand x, int width, int... due) {
        for (int i = 0; i < due.length; i++) {
            int at = i;
            is(what + ": filling " + width + ", " + i, due[i], () -> x.filling(width, at));
        }
    }

    /** An answer of each kind: text, runs, glyphs, places, lines, and what the faces hold. */
    static String all(Joinhand x) {
        StringBuilder s = new StringBuilder();
        int length = length(x);
        for (int i = 0; i < length; i++) {
            s.append(x.form(i)).append(' ').append(x.run(i)).append(' ').append(x.caret(i)).append(' ').append(x.filling(500, i)).append(';');
            if (i > 0) s.append(x.isSafe(i));
        }
        s.append(x.fill(500)).append(' ').append(x.hit(15)).append('\n');
        for (int i = 0; i < x.glyphs(); i++) {
            s.append(x.glyph(i)).append(' ').append(x.glyphAnew(i)).append(' ').append(x.cluster(i)).append(' ');
            for (int what = 0; what < 3; what++) s.append(x.place(i, what)).append(' ');
        }
        for (int i = 0; i < 12; i++) {
            try {
                s.append("size ").append(x.size(i)).append(' ');
            } catch (IndexOutOfBoundsException e) {
                break;
            }
        }
        return s.toString();
    }

    void same(String what, String due, Joinhand x) {
        asked++;
        String got = all(x);
        if (!got.equals(due)) tell(what + ": " + got + ", due is " + due);
    }

    /** Which places are safe, from 1 on. */
    void safe(String what, Joinhand x, boolean... due) {
        for (int i = 0; i < due.length; i++) {
            int at = i + 1;
            is(what + ": isSafe " + at, due[i] ? 1 : 0, () -> x.isSafe(at) ? 1 : 0);
        }
    }
}

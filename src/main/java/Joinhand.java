/** A shaper of two scripts, J that joins and S that stacks, with lookups that are told by its user. */
public final class Joinhand {
    public static final int NONE = -100;
    public static final int ALONE = 0, BEGIN = 1, MIDDLE = 2, END = 3;
    public static final int SINGLE = 0, SEVERAL = 1, CHOICE = 2, LIGATURE = 3, CONTEXT = 4, BACKWARD = 5, PAIR = 6, CURSIVE = 7, BASE = 8, MARK = 9;
    public static final int ALWAYS = 0, FORMS = 1, EXTRA = 5, CALLED = 6;

    private static final int TEXT_LIMIT = 16, ROW_LIMIT = 64, PAGE_LIMIT = TEXT_LIMIT * ROW_LIMIT;
    private static final int FACES = 2, LOOKUPS = 12, RULES = 8, RULE_NUMBERS = 6;
    private static final int GLYPHS = 256, GROUPS = 6, CLASSES = 4, PARTS = 3, STEPS = 50;
    private static final int GROUP_ITEM = 300, WIDTH_LIMIT = 100, USUAL_WIDTH = 10;
    private static final int EXTRA_LIMIT = 3, SKIP_LIMIT = 5, SKIP_MARKS = 1, SKIP_ALL_BUT = 2;
    private static final int LINE_LIMIT = 10000, POINT_LEAST = -1000;
    private static final int WHAT_X = 0, WHAT_HEIGHT = 1, WHAT_ADVANCE = 2;
    private static final int MASKS = 256, WORD = 64, FAR = 1000000;

    private static final int BLANK = 0, JOINER = 2, PARTER = 3, COMMON_LAST = 9;
    private static final int LETTER_FIRST = 10, BOTH_LAST = 15, AHEAD_LAST = 18, LONER = 19, STROKE = 20;
    private static final int JMARK_FIRST = 21, JMARK_LAST = 23;
    private static final int CONSONANT_FIRST = 30, CLIMBING = 38, KILLER = 39, VOWEL_AHEAD = 40;
    private static final int VOWEL_LAST = 42, VOWEL_ALONE = 43, SMARK = 44, SIGNS = 45;
    private static final int CARRIER = 64, CLIMBER = 65;

    private final Face[] faces = new Face[FACES];
    private final Text text = new Text();
    private final Row row = new Row();
    private final Opening opening = new Opening(row);
    private final Changes changes = new Changes(row);
    private final Places places = new Places(row);
    private final Line line = new Line();
    private final Page whole = new Page();
    private final Page spare = new Page();
    private int used = 0;
    private boolean stale = true;

    public Joinhand() {
        faces[0] = new Face();
        faces[1] = new Face();
    }

    // ---- faces; those that say so are about the face in use.

    public int useFace(int face) throws IndexOutOfBoundsException {
        if (face < 0 || face >= FACES) throw new IndexOutOfBoundsException("no such face");
        int before = used;
        used = face;
        return before;
    }

    public int lookup(int kind, int feature, int stage, int tongue, int skip) throws IndexOutOfBoundsException, IllegalArgumentException, IllegalStateException {
        if (kind < SINGLE || kind > MARK) throw new IndexOutOfBoundsException("no such kind");
        if (feature < ALWAYS || feature > CALLED) throw new IndexOutOfBoundsException("no such feature");
        if (stage < 0 || stage > 1) throw new IllegalArgumentException("stage is out of range");
        if (tongue < 0 || tongue > 2) throw new IllegalArgumentException("tongue is out of range");
        if (skip < 0 || skip > SKIP_LIMIT) throw new IllegalArgumentException("skip is out of range");
        Face face = faces[used];
        if (face.count >= LOOKUPS) throw new IllegalStateException("the face is full");
        face.lookups[face.count] = new Lookup(kind, feature, stage, tongue, skip);
        face.count++;
        stale = true;
        return face.count - 1;
    }

    public int rule(int lookup, int a, int b, int c, int d, int e, int f) throws IndexOutOfBoundsException, IllegalArgumentException, IllegalStateException {
        Lookup its = faces[used].lookupAt(lookup);
        if (its == null) throw new IndexOutOfBoundsException("no such lookup");
        if (!its.accepts(a, b, c, d, e, f)) throw new IllegalArgumentException("not as its kind tells");
        if (its.told >= RULES) throw new IllegalStateException("the lookup is full");
        its.tell(a, b, c, d, e, f);
        faces[used].tabulate(its);
        stale = true;
        return its.told;
    }

    public int setMark(int glyph, int its) throws IndexOutOfBoundsException, IllegalArgumentException {
        if (!isGlyph(glyph)) throw new IndexOutOfBoundsException("no such glyph");
        if (its != NONE && (its < 0 || its >= CLASSES)) throw new IllegalArgumentException("its is out of range");
        int before = faces[used].marks[glyph];
        faces[used].marks[glyph] = its;
        stale = true;
        return before;
    }

    public int setGroup(int glyph, int group) throws IndexOutOfBoundsException {
        if (!isGlyph(glyph)) throw new IndexOutOfBoundsException("no such glyph");
        if (group < 0 || group >= GROUPS) throw new IndexOutOfBoundsException("no such group");
        int before = faces[used].groups[glyph];
        faces[used].regroup(glyph, group);
        stale = true;
        return before;
    }

    public int setWidth(int glyph, int width) throws IndexOutOfBoundsException, IllegalArgumentException {
        if (!isGlyph(glyph)) throw new IndexOutOfBoundsException("no such glyph");
        if (width < 0 || width > WIDTH_LIMIT) throw new IllegalArgumentException("width is out of range");
        int before = faces[used].widths[glyph];
        faces[used].widths[glyph] = width;
        stale = true;
        return before;
    }

    public boolean lack(int sign) throws IllegalArgumentException {
        if (!isSign(sign)) throw new IllegalArgumentException("no such sign");
        text.lacked[sign] = !text.lacked[sign];
        stale = true;
        return text.lacked[sign];
    }

    public int size(int lookup) throws IndexOutOfBoundsException {
        Lookup its = faces[used].lookupAt(lookup);
        if (its == null) throw new IndexOutOfBoundsException("no such lookup");
        return its.tableSize();
    }

    // ---- the text.

    public int insert(int place, int sign) throws IndexOutOfBoundsException, IllegalArgumentException, IllegalStateException {
        if (place < 0 || place > text.length) throw new IndexOutOfBoundsException("no such place");
        if (!isSign(sign)) throw new IllegalArgumentException("no such sign");
        if (text.length >= TEXT_LIMIT) throw new IllegalStateException("the text is full");
        text.putIn(place, sign);
        stale = true;
        return text.length;
    }

    public int cut(int place) throws IndexOutOfBoundsException {
        needSign(place);
        int sign = text.takeOut(place);
        stale = true;
        return sign;
    }

    public int setTongue(int tongue) throws IllegalArgumentException {
        if (tongue < 1 || tongue > 2) throw new IllegalArgumentException("tongue is out of range");
        int before = text.tongue;
        text.tongue = tongue;
        stale = true;
        return before;
    }

    public int setExtra(int from, int to, int value) throws IndexOutOfBoundsException, IllegalArgumentException {
        needSign(from);
        needSign(to);
        if (to < from) throw new IndexOutOfBoundsException("to is below from");
        if (value < 0 || value > EXTRA_LIMIT) throw new IllegalArgumentException("value is out of range");
        stale = true;
        return text.giveExtra(from, to, value);
    }

    // ---- what is shaped.

    public int glyphs() {
        return shaped().length;
    }

    public int glyph(int place) throws IndexOutOfBoundsException {
        Page page = shaped();
        needGlyph(page, place);
        return page.numbers[place];
    }

    public int glyphAnew(int place) throws IndexOutOfBoundsException {
        spare.clear();
        shape(spare, 0, text.length, false);
        needGlyph(spare, place);
        return spare.numbers[place];
    }

    public int cluster(int place) throws IndexOutOfBoundsException {
        Page page = shaped();
        needGlyph(page, place);
        return page.clusters[place];
    }

    public int place(int place, int what) throws IndexOutOfBoundsException, IllegalArgumentException {
        Page page = shaped();
        needGlyph(page, place);
        switch (what) {
            case WHAT_X:
                return page.lefts[place];
            case WHAT_HEIGHT:
                return page.heights[place];
            case WHAT_ADVANCE:
                return page.advances[place];
            default:
                throw new IllegalArgumentException("what is out of range");
        }
    }

    public int form(int place) throws IndexOutOfBoundsException {
        needSign(place);
        return shaped().runs.forms[place];
    }

    public int run(int place) throws IndexOutOfBoundsException {
        needSign(place);
        return shaped().runs.codeOf(place);
    }

    public int caret(int place) throws IndexOutOfBoundsException {
        needSign(place);
        return shaped().caretOf(place);
    }

    public int hit(int x) throws IllegalArgumentException {
        if (x < POINT_LEAST || x > LINE_LIMIT) throw new IllegalArgumentException("x is out of range");
        Page page = shaped();
        int nearest = NONE;
        int least = 0;
        for (int sign = 0; sign < text.length; sign++) {
            int far = Math.abs(page.caretOf(sign) - x);
            if (nearest == NONE || far < least) {
                nearest = sign;
                least = far;
            }
        }
        return nearest;
    }

    public boolean isSafe(int place) throws IndexOutOfBoundsException {
        if (place < 1 || place >= text.length) throw new IndexOutOfBoundsException("no such place");
        Page page = shaped();
        spare.clear();
        shape(spare, 0, place, true);
        shape(spare, place, text.length, true);
        return page.isLike(spare);
    }

    // ---- lines.

    public int fill(int width) throws IllegalArgumentException {
        needLine(width);
        line.reckon(shaped(), text, width, faces[0].widths[STROKE]);
        return line.isTooShort ? NONE : line.left;
    }

    public int filling(int width, int place) throws IndexOutOfBoundsException, IllegalArgumentException {
        needSign(place);
        needLine(width);
        line.reckon(shaped(), text, width, faces[0].widths[STROKE]);
        return line.given[place];
    }

    private void needSign(int place) {
        if (place < 0 || place >= text.length) throw new IndexOutOfBoundsException("no such place");
    }

    private static void needGlyph(Page page, int place) {
        if (place < 0 || place >= page.length) throw new IndexOutOfBoundsException("no such glyph");
    }

    private static void needLine(int width) {
        if (width < 0 || width > LINE_LIMIT) throw new IllegalArgumentException("width is out of range");
    }

    /** Shapes only when something was told since the last time. */
    private Page shaped() {
        if (stale) {
            whole.clear();
            shape(whole, 0, text.length, true);
            stale = false;
        }
        return whole;
    }

    /** Shapes a part of the text as a text of its own, and puts it onto the page behind what is there. */
    private void shape(Page page, int from, int to, boolean isTabled) {
        Runs runs = page.runs;
        int first = runs.count;
        runs.part(text, from, to);
        for (int run = first; run < runs.count; run++) {
            Face face = faces[runs.faces[run] == 0 ? 0 : 1];
            opening.begin(text, runs, run);
            changes.use(face, isTabled);
            for (int stage = 0; stage <= 1; stage++) {
                for (int i = 0; i < face.count; i++) {
                    Lookup lookup = face.lookupAt(i);
                    if (lookup != null && lookup.isDue(stage, text.tongue)) changes.go(lookup);
                }
                if (stage == 0 && runs.isS[run]) opening.setBack();
            }
            row.dropJoiners();
            places.set(face, text.tongue, isTabled);
            places.settle(page.width, !runs.isS[run]);
            page.append(row, run);
        }
    }

    private static boolean isGlyph(int number) {
        return number >= 0 && number < GLYPHS;
    }

    private static boolean isItem(int number) {
        return isGlyph(number) || number >= GROUP_ITEM && number < GROUP_ITEM + GROUPS;
    }

    private static boolean isSign(int sign) {
        return sign >= 0 && sign <= JMARK_LAST || sign >= CONSONANT_FIRST && sign < SIGNS;
    }

    private static boolean isJoinerOrParter(int number) {
        return number == JOINER || number == PARTER;
    }

    private static boolean isMarkOfJ(int sign) {
        return sign >= JMARK_FIRST && sign <= JMARK_LAST;
    }

    private static boolean joinsOnBothSides(int sign) {
        return sign >= LETTER_FIRST && sign <= BOTH_LAST || sign == STROKE;
    }

    private static boolean isConsonant(int sign) {
        return sign >= CONSONANT_FIRST && sign <= CLIMBING;
    }

    /** A lookup with its rules, and for each glyph a bit for every rule that can begin with it. */
    private static final class Lookup {
        final int kind;
        final int feature;
        final int stage;
        final int tongue;
        final int skip;
        final int lead;
        final int[][] rules = new int[RULES][RULE_NUMBERS];
        final int[] table = new int[GLYPHS];
        int told = 0;

        Lookup(int kind, int feature, int stage, int tongue, int skip) {
            this.kind = kind;
            this.feature = feature;
            this.stage = stage;
            this.tongue = tongue;
            this.skip = skip;
            this.lead = kind == CONTEXT || kind == BACKWARD ? 1 : 0;
        }

        boolean accepts(int a, int b, int c, int d, int e, int f) {
            switch (kind) {
                case SINGLE:
                    return isItem(a) && isGlyph(b) && c == 0 && d == 0 && e == 0 && f == 0;
                case SEVERAL:
                    return isItem(a) && isGlyph(b) && isGlyph(c) && (d == NONE || isGlyph(d)) && e == 0 && f == 0;
                case CHOICE:
                    return isItem(a) && isGlyph(b) && isGlyph(c) && isGlyph(d) && e == 0 && f == 0;
                case LIGATURE:
                    return isItem(a) && isItem(b) && isItemOrNone(c) && isGlyph(d) && e == 0 && f == 0;
                case CONTEXT:
                    return isItemOrNone(a) && isItem(b) && isItemOrNone(c) && isItemOrNone(d)
                        && (e == 0 || e == 1 && c != NONE) && f >= 0 && f < LOOKUPS;
                case BACKWARD:
                    return isItemOrNone(a) && isItem(b) && isItemOrNone(c) && isGlyph(d) && e == 0 && f == 0;
                case PAIR:
                    return isItem(a) && isItem(b) && isStep(c) && d == 0 && e == 0 && f == 0;
                case CURSIVE:
                    return isItem(a) && (b == NONE || isStep(b)) && (c == NONE || isStep(c)) && d == 0 && e == 0 && f == 0;
                case BASE:
                    return isItem(a) && (b == NONE || b >= 0 && b < PARTS) && isClass(c) && isStep(d) && isStep(e) && f == 0;
                default:
                    return isItem(a) && isClass(b) && isStep(c) && isStep(d) && e == 0 && f == 0;
            }
        }

        private static boolean isItemOrNone(int number) {
            return number == NONE || isItem(number);
        }

        private static boolean isStep(int number) {
            return number >= -STEPS && number <= STEPS;
        }

        private static boolean isClass(int number) {
            return number >= 0 && number < CLASSES;
        }

        void tell(int a, int b, int c, int d, int e, int f) {
            if (told >= RULES) return;
            int[] numbers = rules[told];
            numbers[0] = a;
            numbers[1] = b;
            numbers[2] = c;
            numbers[3] = d;
            numbers[4] = e;
            numbers[5] = f;
            told++;
        }

        /** The bits of the rules that can begin with a glyph, looked at as they were told. */
        int begins(int number, int group) {
            int bits = 0;
            for (int i = 0; i < told; i++) {
                int item = rules[i][lead];
                if (item >= GROUP_ITEM ? item - GROUP_ITEM == group : item == number) bits |= 1 << i;
            }
            return bits;
        }

        int tableSize() {
            long[] seen = new long[MASKS / WORD];
            int sum = 0;
            for (int i = 0; i < GLYPHS; i++) {
                int bits = table[i] & (MASKS - 1);
                if (bits == 0) continue;
                sum++;
                int word = bits / WORD;
                long bit = 1L << (bits % WORD);
                if ((seen[word] & bit) == 0) sum += Integer.bitCount(bits);
                seen[word] |= bit;
            }
            return sum;
        }

        boolean isOf(int its) {
            return tongue == 0 || tongue == its;
        }

        /** Whether it changes glyphs, at this stage. */
        boolean isDue(int itsStage, int itsTongue) {
            return kind <= BACKWARD && stage == itsStage && isOf(itsTongue);
        }

        /** The first of some rules, told by their bits, or NONE. */
        int firstOf(int bits) {
            for (int i = 0; i < told; i++) {
                if ((bits >> i & 1) != 0) return i;
            }
            return NONE;
        }

        boolean isFor(Glyph glyph) {
            if (feature == ALWAYS) return true;
            if (feature == CALLED) return false;
            if (feature == EXTRA) return glyph.extra > 0;
            return glyph.form == feature - FORMS;
        }
    }

    /** A face: its lookups, and what it knows of each glyph. */
    private static final class Face {
        final Lookup[] lookups = new Lookup[LOOKUPS];
        final int[] marks = new int[GLYPHS];
        final int[] groups = new int[GLYPHS];
        final int[] widths = new int[GLYPHS];
        int count = 0;

        Face() {
            for (int i = 0; i < GLYPHS; i++) {
                boolean isMark = isMarkOfJ(i) || i == SMARK || i == CLIMBER;
                marks[i] = isMark ? 0 : NONE;
                widths[i] = isMark || isJoinerOrParter(i) ? 0 : USUAL_WIDTH;
            }
        }

        Lookup lookupAt(int number) {
            return number >= 0 && number < count ? lookups[number] : null;
        }

        void tabulate(Lookup lookup) {
            for (int i = 0; i < GLYPHS; i++) lookup.table[i] = lookup.begins(i, groups[i]);
        }

        void regroup(int number, int group) {
            if (!isGlyph(number)) return;
            groups[number] = group;
            for (int i = 0; i < count; i++) {
                Lookup lookup = lookups[i];
                if (lookup != null) lookup.table[number] = lookup.begins(number, group);
            }
        }

        boolean isMark(int number) {
            return number >= 0 && number < GLYPHS && marks[number] != NONE;
        }

        boolean skips(Lookup lookup, int number) {
            int its = number >= 0 && number < GLYPHS ? marks[number] : NONE;
            if (its == NONE || lookup.skip < SKIP_MARKS) return false;
            return lookup.skip == SKIP_MARKS || its != lookup.skip - SKIP_ALL_BUT;
        }

        boolean hasTurn(Lookup lookup, Glyph glyph) {
            return lookup.isFor(glyph) && !skips(lookup, glyph.number);
        }

        /** Whether a glyph is the item, or nothing is asked of it. */
        boolean suits(int item, int number) {
            if (item == NONE) return true;
            if (number < 0 || number >= GLYPHS) return false;
            return item >= GROUP_ITEM ? groups[number] == item - GROUP_ITEM : number == item;
        }

        int beginning(Lookup lookup, int number, boolean isTabled) {
            if (number < 0 || number >= GLYPHS) return 0;
            return isTabled ? lookup.table[number] : lookup.begins(number, groups[number]);
        }
    }

    /** The text, its tongue, and the signs that the face 0 lacks. */
    private static final class Text {
        final int[] signs = new int[TEXT_LIMIT];
        final int[] extras = new int[TEXT_LIMIT];
        final boolean[] lacked = new boolean[SIGNS];
        int length = 0;
        int tongue = 1;

        void putIn(int place, int sign) {
            if (place < 0 || place > length || length >= TEXT_LIMIT) return;
            for (int i = length; i > place; i--) {
                signs[i] = signs[i - 1];
                extras[i] = extras[i - 1];
            }
            signs[place] = sign;
            extras[place] = 0;
            length++;
        }

        int takeOut(int place) {
            if (place < 0 || place >= length) return NONE;
            int sign = signs[place];
            for (int i = place; i < length - 1; i++) {
                signs[i] = signs[i + 1];
                extras[i] = extras[i + 1];
            }
            length--;
            return sign;
        }

        int giveExtra(int from, int to, int value) {
            int changed = 0;
            for (int i = Math.max(from, 0); i <= to && i < length; i++) {
                if (extras[i] != value) changed++;
                extras[i] = value;
            }
            return changed;
        }
    }

    /** The runs of a shaped text, and the forms of its signs. */
    private static final class Runs {
        final int[] ofSign = new int[TEXT_LIMIT];
        final int[] forms = new int[TEXT_LIMIT];
        final boolean[] isS = new boolean[TEXT_LIMIT];
        final int[] faces = new int[TEXT_LIMIT];
        final int[] starts = new int[TEXT_LIMIT];
        final int[] ends = new int[TEXT_LIMIT];
        final int[] firstGlyphs = new int[TEXT_LIMIT];
        final int[] endGlyphs = new int[TEXT_LIMIT];
        final int[] lefts = new int[TEXT_LIMIT];
        final int[] widths = new int[TEXT_LIMIT];
        int count = 0;

        void part(Text text, int from, int to) {
            boolean its = beginsWithS(text, from, to);
            for (int i = from; i < to && i < TEXT_LIMIT; i++) {
                int sign = text.signs[i];
                if (sign > COMMON_LAST) its = sign >= CONSONANT_FIRST;
                int face = sign < SIGNS && text.lacked[sign] ? 1 : 0;
                int last = count - 1;
                if (i == from || last < 0 || isS[last] != its || faces[last] != face) open(i, its, face);
                ofSign[i] = count - 1;
                ends[count - 1] = i + 1;
            }
            for (int i = from; i < to && i < TEXT_LIMIT; i++) forms[i] = formOf(text, i);
        }

        private static boolean beginsWithS(Text text, int from, int to) {
            for (int i = from; i < to && i < TEXT_LIMIT; i++) {
                if (text.signs[i] > COMMON_LAST) return text.signs[i] >= CONSONANT_FIRST;
            }
            return false;
        }

        private void open(int start, boolean its, int face) {
            if (count >= TEXT_LIMIT) return;
            starts[count] = start;
            isS[count] = its;
            faces[count] = face;
            count++;
        }

        private int formOf(Text text, int place) {
            int sign = text.signs[place];
            if (sign < LETTER_FIRST || sign > STROKE) return NONE;
            boolean ahead = sign != LONER && canReachBack(text, place);
            boolean behind = joinsOnBothSides(sign) && canReachOn(text, place);
            if (ahead) return behind ? MIDDLE : END;
            return behind ? BEGIN : ALONE;
        }

        private boolean canReachBack(Text text, int place) {
            for (int i = place - 1; i >= starts[ofSign[place]]; i--) {
                int sign = text.signs[i];
                if (!isMarkOfJ(sign)) return joinsOnBothSides(sign) || sign == JOINER;
            }
            return false;
        }

        private boolean canReachOn(Text text, int place) {
            int next = nextLetter(text, place);
            if (next == NONE) return false;
            int sign = text.signs[next];
            return sign >= LETTER_FIRST && sign <= AHEAD_LAST || sign == STROKE || sign == JOINER;
        }

        /** The place of the next sign of the run that is no mark, or NONE. */
        int nextLetter(Text text, int place) {
            for (int i = place + 1; i < ends[ofSign[place]]; i++) {
                if (!isMarkOfJ(text.signs[i])) return i;
            }
            return NONE;
        }

        int codeOf(int place) {
            int run = ofSign[place];
            return 100 * run + (isS[run] ? 10 : 0) + faces[run];
        }
    }

    /** A glyph of a row, and where it comes to stand. */
    private static final class Glyph {
        int number;
        int cluster;
        int extra;
        int form;
        int origin;
        int part;
        int parts;
        int advance;
        int height;
        int left;
        int on;
        int right;
        int up;

        void start(int sign, int place, int value, int itsForm) {
            number = sign;
            origin = sign;
            cluster = place;
            extra = value;
            form = itsForm;
            part = NONE;
            parts = 1;
        }

        void takeOver(Glyph from) {
            cluster = from.cluster;
            extra = from.extra;
            form = from.form;
            origin = from.origin;
            part = from.part;
            parts = from.parts;
        }

        void setOn(int its, int itsRight, int itsUp) {
            on = its;
            right = itsRight;
            up = itsUp;
        }
    }

    /** The glyphs of one run; the cells from the length on are kept to be used again. */
    private static final class Row {
        final Glyph[] cells = new Glyph[ROW_LIMIT];
        int length = 0;

        Row() {
            for (int i = 0; i < ROW_LIMIT; i++) cells[i] = new Glyph();
        }

        Glyph add() {
            int at = Math.min(length, ROW_LIMIT - 1);
            length = at + 1;
            return cells[at];
        }

        boolean has(int at) {
            return at >= 0 && at < length;
        }

        void move(int from, int to) {
            if (!has(from) || !has(to)) return;
            Glyph moved = cells[from];
            for (int i = from; i < to; i++) cells[i] = cells[i + 1];
            for (int i = from; i > to; i--) cells[i] = cells[i - 1];
            cells[to] = moved;
        }

        void takeOut(int at) {
            if (at < 0 || at >= length) return;
            Glyph out = cells[at];
            for (int i = at; i < length - 1; i++) cells[i] = cells[i + 1];
            length--;
            cells[length] = out;
        }

        /** Puts in a glyph right behind another one, of which it takes over all but the number. */
        void putBehind(int at, int number) {
            if (at < 0 || at >= length || length >= ROW_LIMIT) return;
            Glyph fresh = cells[length];
            for (int i = length; i > at + 1; i--) cells[i] = cells[i - 1];
            cells[at + 1] = fresh;
            length++;
            fresh.takeOver(cells[at]);
            fresh.number = number;
        }

        int numberAt(int at) {
            return at >= 0 && at < length ? cells[at].number : NONE;
        }

        int indexOf(Glyph glyph) {
            for (int i = 0; i < length; i++) {
                if (cells[i] == glyph) return i;
            }
            return NONE;
        }

        int ahead(Face face, Lookup lookup, int at) {
            for (int i = Math.min(at, length) - 1; i >= 0; i--) {
                if (!face.skips(lookup, cells[i].number)) return i;
            }
            return NONE;
        }

        int behind(Face face, Lookup lookup, int at) {
            for (int i = Math.max(at, -1) + 1; i < length; i++) {
                if (!face.skips(lookup, cells[i].number)) return i;
            }
            return NONE;
        }

        void dropJoiners() {
            for (int i = length - 1; i >= 0; i--) {
                if (isJoinerOrParter(cells[i].number)) takeOut(i);
            }
        }
    }

    /** What a row begins as, and the way back of the vowels that are set ahead. */
    private static final class Opening {
        private final Row row;

        Opening(Row row) {
            this.row = row;
        }

        void begin(Text text, Runs runs, int run) {
            row.length = 0;
            if (run < 0 || run >= TEXT_LIMIT) return;
            int end = Math.min(runs.ends[run], TEXT_LIMIT);
            if (!runs.isS[run]) {
                beginJ(text, runs, runs.starts[run], end);
                return;
            }
            int at = runs.starts[run];
            for (int steps = 0; at < end && steps < TEXT_LIMIT; steps++) {
                int next = syllableEnd(text, at, end);
                addSyllable(text, at, next);
                at = next;
            }
        }

        private void beginJ(Text text, Runs runs, int start, int end) {
            int letter = NONE;
            for (int i = start; i < end; i++) {
                boolean isMark = isMarkOfJ(text.signs[i]);
                if (!isMark) letter = i;
                row.add().start(text.signs[i], isMark && letter != NONE ? letter : i, text.extras[i], runs.forms[i]);
            }
        }

        private static int syllableEnd(Text text, int at, int end) {
            int sign = text.signs[at];
            if (isConsonant(sign)) return stackEnd(text, at + 1, end);
            if (sign == VOWEL_ALONE) return vowelsEnd(text, at + 1, end);
            if (needsCarrier(sign)) return stackEnd(text, at, end);
            return at + 1;
        }

        /** The end of what can follow the first consonant, or the carrier, of a syllable. */
        private static int stackEnd(Text text, int from, int end) {
            int at = from;
            for (int steps = 0; at < end && text.signs[at] == KILLER && steps < TEXT_LIMIT; steps++) {
                int next = at + 1;
                if (next < end && isJoinerOrParter(text.signs[next])) next++;
                if (next >= end || !isConsonant(text.signs[next])) return vowelsEnd(text, next, end);
                at = next + 1;
            }
            return vowelsEnd(text, at, end);
        }

        private static int vowelsEnd(Text text, int from, int end) {
            int at = from;
            while (at < end && isVowelOrMark(text.signs[at])) at++;
            return at;
        }

        private static boolean needsCarrier(int sign) {
            return sign == KILLER || isVowelOrMark(sign);
        }

        private static boolean isVowelOrMark(int sign) {
            return sign >= VOWEL_AHEAD && sign <= VOWEL_LAST || sign == SMARK;
        }

        private void addSyllable(Text text, int start, int end) {
            int first = row.length;
            if (needsCarrier(text.signs[start])) row.add().start(CARRIER, start, 0, NONE);
            for (int i = start; i < end; i++) row.add().start(text.signs[i], start, text.extras[i], NONE);
            climb(first);
            setAhead(first);
        }

        private void climb(int first) {
            if (first + 2 >= row.length) return;
            Glyph climbing = row.cells[first];
            if (climbing.number != CLIMBING || row.cells[first + 1].number != KILLER) return;
            if (!isConsonant(row.cells[first + 2].number)) return;
            int last = first + 2;
            for (int i = last; i < row.length; i++) {
                if (isConsonant(row.cells[i].number)) last = i;
            }
            while (last + 1 < row.length && followsConsonant(row.cells[last + 1].number)) last++;
            climbing.number = CLIMBER;
            climbing.origin = NONE;
            row.move(first, last);
            row.takeOut(first);
        }

        private static boolean followsConsonant(int number) {
            return number == KILLER || isJoinerOrParter(number);
        }

        private void setAhead(int first) {
            int to = first;
            for (int i = first; i < row.length; i++) {
                if (row.cells[i].number == VOWEL_AHEAD) {
                    row.move(i, to);
                    to++;
                }
            }
        }

        /** Moves the vowels that were set ahead behind the last killer that a consonant follows. */
        void setBack() {
            int start = 0;
            for (int steps = 0; start < row.length && steps < ROW_LIMIT; steps++) {
                int end = start + 1;
                while (end < row.length && row.cells[end].cluster == row.cells[start].cluster) end++;
                int vowels = start;
                while (vowels < end && row.cells[vowels].origin == VOWEL_AHEAD) vowels++;
                int killer = lastKiller(vowels, end);
                for (int i = start; i < vowels && killer != NONE; i++) row.move(start, killer);
                start = end;
            }
        }

        private int lastKiller(int from, int end) {
            boolean isFollowed = false;
            for (int i = Math.min(end, row.length) - 1; i >= from; i--) {
                if (isFollowed && row.cells[i].number == KILLER) return i;
                int origin = row.cells[i].origin;
                if (isConsonant(origin) || origin == CARRIER) isFollowed = true;
            }
            return NONE;
        }
    }

    /** The lookups of the kinds SINGLE to BACKWARD at work on a row. */
    private static final class Changes {
        private final Row row;
        private final int[] spots = new int[3];
        private Face face = null;
        private boolean isTabled = true;
        private int second = NONE;
        private int third = NONE;
        private int aheadNumber = NONE;
        private int secondNumber = NONE;
        private int thirdNumber = NONE;

        Changes(Row row) {
            this.row = row;
        }

        void use(Face its, boolean areTabled) {
            face = its;
            isTabled = areTabled;
        }

        void go(Lookup lookup) {
            if (face == null) return;
            if (lookup.kind == BACKWARD) {
                goBack(lookup);
                return;
            }
            int at = 0;
            for (int steps = 0; at < row.length && steps < FAR; steps++) {
                int found = face.hasTurn(lookup, row.cells[at]) ? firstFit(lookup, at) : NONE;
                if (found == NONE) at++;
                else if (lookup.kind == CONTEXT) at = call(lookup.rules[found], at);
                else at = change(lookup.kind, lookup.rules[found], at);
            }
        }

        private void goBack(Lookup lookup) {
            for (int at = row.length - 1; at >= 0; at--) {
                int found = face.hasTurn(lookup, row.cells[at]) ? firstFit(lookup, at) : NONE;
                if (found != NONE) row.cells[at].number = lookup.rules[found][3];
            }
        }

        /** The first rule that fits at a glyph, or NONE; it leaves behind where the other items stand. */
        private int firstFit(Lookup lookup, int at) {
            int may = face.beginning(lookup, row.cells[at].number, isTabled);
            if (may == 0) return NONE;
            second = row.behind(face, lookup, at);
            third = second == NONE ? NONE : row.behind(face, lookup, second);
            aheadNumber = row.numberAt(row.ahead(face, lookup, at));
            secondNumber = row.numberAt(second);
            thirdNumber = row.numberAt(third);
            for (int i = 0; i < lookup.told; i++) {
                if ((may >> i & 1) != 0 && fits(lookup.kind, lookup.rules[i], row.cells[at])) return i;
            }
            return NONE;
        }

        private boolean fits(int kind, int[] told, Glyph glyph) {
            switch (kind) {
                case SEVERAL:
                    return row.length + (told[3] == NONE ? 1 : 2) <= ROW_LIMIT;
                case CHOICE:
                    return glyph.extra > 0;
                case LIGATURE:
                    return face.suits(told[1], secondNumber) && face.suits(told[2], thirdNumber);
                case CONTEXT:
                    if (!face.suits(told[0], aheadNumber)) return false;
                    if (told[2] == NONE) return face.suits(told[3], secondNumber);
                    return face.suits(told[2], secondNumber) && face.suits(told[3], thirdNumber);
                case BACKWARD:
                    return face.suits(told[0], aheadNumber) && face.suits(told[2], secondNumber);
                default:
                    return true;
            }
        }

        /** Does what a rule tells at a glyph, and answers where to go on. */
        private int change(int kind, int[] told, int at) {
            Glyph glyph = row.cells[at];
            switch (kind) {
                case SINGLE:
                    glyph.number = told[1];
                    return at + 1;
                case SEVERAL:
                    glyph.number = told[1];
                    row.putBehind(at, told[2]);
                    if (told[3] == NONE) return at + 2;
                    row.putBehind(at + 1, told[3]);
                    return at + 3;
                case CHOICE:
                    if (glyph.extra > 0 && glyph.extra <= EXTRA_LIMIT) glyph.number = told[glyph.extra];
                    return at + 1;
                case LIGATURE:
                    int items = told[2] == NONE ? 2 : 3;
                    if (!row.has(second) || items == 3 && !row.has(third)) return at + 1;
                    spots[0] = at;
                    spots[1] = second;
                    spots[2] = third;
                    giveParts(items);
                    mergeClusters(items);
                    fuse(items, told[3]);
                    return at + 1;
                default:
                    return at + 1;
            }
        }

        /** Tells the marks round the glyphs of a ligature which part of it they belong to. */
        private void giveParts(int items) {
            int before = 0;
            for (int i = 0; i < items; i++) {
                int parts = row.cells[spots[i]].parts;
                int end = i + 1 < items ? spots[i + 1] : row.length;
                for (int j = spots[i] + 1; j < end && face.isMark(row.cells[j].number); j++) {
                    Glyph mark = row.cells[j];
                    mark.part = before + (mark.part == NONE ? parts - 1 : mark.part);
                }
                before += parts;
            }
        }

        private void mergeClusters(int items) {
            int least = row.cells[spots[0]].cluster;
            int greatest = least;
            for (int i = 1; i < items; i++) {
                int cluster = row.cells[spots[i]].cluster;
                least = Math.min(least, cluster);
                greatest = Math.max(greatest, cluster);
            }
            for (int i = 0; i < row.length; i++) {
                Glyph glyph = row.cells[i];
                if (glyph.cluster > least && glyph.cluster <= greatest) glyph.cluster = least;
            }
        }

        private void fuse(int items, int number) {
            Glyph ligature = row.cells[spots[0]];
            ligature.number = number;
            for (int i = 1; i < items; i++) ligature.parts += row.cells[spots[i]].parts;
            for (int i = items - 1; i > 0; i--) row.takeOut(spots[i]);
        }

        /** Calls the lookup of a CONTEXT, and answers where to go on. */
        private int call(int[] told, int at) {
            int last = told[2] == NONE ? at : second;
            int spot = told[4] == 0 ? at : second;
            Lookup called = face.lookupAt(told[5]);
            if (called == null || called.kind > LIGATURE || !row.has(last) || !row.has(spot)) return Math.max(at, last) + 1;
            Glyph lastItem = row.cells[last];
            if (face.skips(called, row.cells[spot].number)) return last + 1;
            int found = firstFit(called, spot);
            if (found == NONE) return last + 1;
            int behind = change(called.kind, called.rules[found], spot);
            if (spot == last) return behind;
            int now = row.indexOf(lastItem);
            return Math.max(at, now == NONE ? behind - 1 : now) + 1;
        }
    }

    /** The lookups of the kinds PAIR to MARK, and where the glyphs of a row stand. */
    private static final class Places {
        private final Row row;
        private Face face = null;
        private boolean isTabled = true;

        Places(Row row) {
            this.row = row;
        }

        void set(Face its, int tongue, boolean areTabled) {
            face = its;
            isTabled = areTabled;
            for (int i = 0; i < row.length; i++) {
                Glyph glyph = row.cells[i];
                glyph.advance = isGlyph(glyph.number) ? its.widths[glyph.number] : 0;
                glyph.height = 0;
                glyph.setOn(NONE, 0, 0);
            }
            for (int i = 0; i < its.count; i++) {
                Lookup lookup = its.lookupAt(i);
                if (lookup == null || !lookup.isOf(tongue)) continue;
                if (lookup.kind == PAIR) addToPairs(lookup);
                else if (lookup.kind == CURSIVE) linkHeights(lookup);
                else if (lookup.kind == BASE || lookup.kind == MARK) setMarks(lookup);
            }
        }

        private void addToPairs(Lookup lookup) {
            int at = 0;
            for (int steps = 0; at < row.length && steps < ROW_LIMIT; steps++) {
                int next = face.hasTurn(lookup, row.cells[at]) ? row.behind(face, lookup, at) : NONE;
                int found = next == NONE ? NONE : pairRule(lookup, at, next);
                if (found == NONE) {
                    at++;
                } else {
                    row.cells[at].advance += lookup.rules[found][2];
                    at = next;
                }
            }
        }

        private int pairRule(Lookup lookup, int at, int next) {
            int may = face.beginning(lookup, row.cells[at].number, isTabled);
            for (int i = 0; i < lookup.told; i++) {
                if ((may >> i & 1) != 0 && face.suits(lookup.rules[i][1], row.cells[next].number)) return i;
            }
            return NONE;
        }

        private void linkHeights(Lookup lookup) {
            Glyph first = null;
            int leftAt = NONE;
            for (int i = 0; i < row.length; i++) {
                Glyph glyph = row.cells[i];
                if (face.skips(lookup, glyph.number)) continue;
                int may = lookup.isFor(glyph) ? face.beginning(lookup, glyph.number, isTabled) : 0;
                int found = lookup.firstOf(may);
                int entered = found == NONE ? NONE : lookup.rules[found][1];
                if (first != null && leftAt != NONE && entered != NONE) glyph.height = first.height + leftAt - entered;
                first = glyph;
                leftAt = found == NONE ? NONE : lookup.rules[found][2];
            }
        }

        private void setMarks(Lookup lookup) {
            for (int i = 0; i < row.length; i++) {
                Glyph mark = row.cells[i];
                if (!face.isMark(mark.number) || !face.hasTurn(lookup, mark)) continue;
                if (lookup.kind == BASE) setOnBase(lookup, mark, i);
                else setOnMark(lookup, mark, i);
            }
        }

        private void setOnBase(Lookup lookup, Glyph mark, int at) {
            int base = at - 1;
            while (base >= 0 && face.isMark(row.cells[base].number)) base--;
            if (base < 0 || !isGlyph(mark.number)) return;
            int part = mark.part == NONE ? row.cells[base].parts - 1 : mark.part;
            int may = face.beginning(lookup, row.cells[base].number, isTabled);
            for (int i = 0; i < lookup.told; i++) {
                int[] told = lookup.rules[i];
                boolean isPart = told[1] == NONE || told[1] == part;
                if ((may >> i & 1) != 0 && isPart && told[2] == face.marks[mark.number]) {
                    mark.setOn(base, told[3], told[4]);
                    return;
                }
            }
        }

        private void setOnMark(Lookup lookup, Glyph mark, int at) {
            int under = row.ahead(face, lookup, at);
            if (under == NONE || !face.isMark(row.cells[under].number) || !isGlyph(mark.number)) return;
            int may = face.beginning(lookup, row.cells[under].number, isTabled);
            for (int i = 0; i < lookup.told; i++) {
                int[] told = lookup.rules[i];
                if ((may >> i & 1) != 0 && told[1] == face.marks[mark.number]) {
                    mark.setOn(under, told[2], told[3]);
                    return;
                }
            }
        }

        /** Reckons where each glyph stands; what a mark is set on lies ahead of it, so it is settled first. */
        void settle(int left, boolean isFromRight) {
            int right = left;
            for (int i = 0; i < row.length; i++) right += row.cells[i].advance;
            int sum = 0;
            for (int i = 0; i < row.length; i++) {
                Glyph glyph = row.cells[i];
                glyph.left = isFromRight ? right - sum - glyph.advance : left + sum;
                sum += glyph.advance;
                if (glyph.on >= 0 && glyph.on < i) {
                    glyph.left = row.cells[glyph.on].left + glyph.right;
                    glyph.height = row.cells[glyph.on].height + glyph.up;
                }
            }
        }
    }

    /** A shaped text: the glyphs of all its runs, one behind the other. */
    private static final class Page {
        final Runs runs = new Runs();
        final int[] numbers = new int[PAGE_LIMIT];
        final int[] clusters = new int[PAGE_LIMIT];
        final int[] advances = new int[PAGE_LIMIT];
        final int[] heights = new int[PAGE_LIMIT];
        final int[] lefts = new int[PAGE_LIMIT];
        final int[] ons = new int[PAGE_LIMIT];
        final int[] rights = new int[PAGE_LIMIT];
        final int[] ups = new int[PAGE_LIMIT];
        int length = 0;
        int width = 0;

        void clear() {
            length = 0;
            width = 0;
            runs.count = 0;
        }

        void append(Row row, int run) {
            int first = length;
            int before = width;
            for (int i = 0; i < row.length && length < PAGE_LIMIT; i++) {
                Glyph glyph = row.cells[i];
                numbers[length] = glyph.number;
                clusters[length] = glyph.cluster;
                advances[length] = glyph.advance;
                heights[length] = glyph.height;
                lefts[length] = glyph.left;
                ons[length] = glyph.on == NONE ? NONE : first + glyph.on;
                rights[length] = glyph.right;
                ups[length] = glyph.up;
                length++;
                width += glyph.advance;
            }
            runs.firstGlyphs[run] = first;
            runs.endGlyphs[run] = length;
            runs.lefts[run] = before;
            runs.widths[run] = width - before;
        }

        boolean isLike(Page other) {
            if (length != other.length) return false;
            for (int i = 0; i < length; i++) {
                if (numbers[i] != other.numbers[i] || clusters[i] != other.clusters[i]) return false;
                if (advances[i] != other.advances[i] || heights[i] != other.heights[i]) return false;
                if (ons[i] != other.ons[i] || rights[i] != other.rights[i] || ups[i] != other.ups[i]) return false;
            }
            return true;
        }

        /** The cluster to which a sign belongs, or NONE. */
        int ownerOf(int sign) {
            int run = runs.ofSign[sign];
            int owner = NONE;
            for (int i = runs.firstGlyphs[run]; i < runs.endGlyphs[run]; i++) {
                if (clusters[i] <= sign && clusters[i] > owner) owner = clusters[i];
            }
            return owner;
        }

        int caretOf(int sign) {
            int run = runs.ofSign[sign];
            int far = fromBeginning(sign, run);
            return runs.isS[run] ? runs.lefts[run] + far : runs.lefts[run] + runs.widths[run] - far;
        }

        private int fromBeginning(int sign, int run) {
            int owner = ownerOf(sign);
            if (owner == NONE) return 0;
            int end = runs.ends[run];
            int lesser = 0;
            int own = 0;
            for (int i = runs.firstGlyphs[run]; i < runs.endGlyphs[run]; i++) {
                if (clusters[i] < owner) lesser += advances[i];
                else if (clusters[i] == owner) own += advances[i];
                else end = Math.min(end, clusters[i]);
            }
            int signs = end - owner;
            return signs > 0 ? lesser + Math.floorDiv(own * (sign - owner), signs) : lesser;
        }
    }

    /** What is put behind the signs when a line is filled. */
    private static final class Line {
        final int[] given = new int[TEXT_LIMIT];
        boolean isTooShort = false;
        int left = 0;

        void reckon(Page page, Text text, int width, int strokeWidth) {
            for (int i = 0; i < TEXT_LIMIT; i++) given[i] = 0;
            isTooShort = page.width > width;
            left = isTooShort ? 0 : width - page.width;
            if (isTooShort) return;
            setStrokes(page, text, strokeWidth);
            widenBlanks(text);
        }

        private void setStrokes(Page page, Text text, int strokeWidth) {
            int spots = 0;
            for (int i = 0; i < text.length; i++) {
                if (takesStroke(page, text, i)) spots++;
            }
            if (spots == 0 || strokeWidth <= 0) return;
            int strokes = left / strokeWidth;
            left -= strokes * strokeWidth;
            int more = strokes % spots;
            for (int i = text.length - 1; i >= 0; i--) {
                if (!takesStroke(page, text, i)) continue;
                given[i] = strokes / spots + (more > 0 ? 1 : 0);
                more--;
            }
        }

        private static boolean takesStroke(Page page, Text text, int place) {
            int form = page.runs.forms[place];
            if (!joinsOnBothSides(text.signs[place]) || form != BEGIN && form != MIDDLE) return false;
            int next = page.runs.nextLetter(text, place);
            return next != NONE && page.ownerOf(place) != page.ownerOf(next);
        }

        private void widenBlanks(Text text) {
            int blanks = 0;
            for (int i = 0; i < text.length; i++) {
                if (text.signs[i] == BLANK) blanks++;
            }
            if (blanks == 0) return;
            int more = left % blanks;
            for (int i = 0; i < text.length; i++) {
                if (text.signs[i] != BLANK) continue;
                given[i] = left / blanks + (more > 0 ? 1 : 0);
                more--;
            }
            left = 0;
        }
    }
}

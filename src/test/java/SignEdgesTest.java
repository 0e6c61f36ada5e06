/** The document's terms up to what a row begins as: for each sentence that names a boundary, a test of its own. */
final class SignEdgesTest {
    private static final int NONE = Joinhand.NONE;
    private static final Check CHECK = new Check();

    // ---- Signs

    private static boolean isIn(int number, int... all) {
        for (int one : all) {
            if (one == number) return true;
        }
        return false;
    }

    private static void noOtherSigns() {
        CHECK.says("There are no other ones.");
        for (int sign = -110; sign <= 310; sign++) {
            int its = sign;
            boolean isSign = sign >= 0 && sign <= 23 || sign >= 30 && sign <= 44;
            Joinhand x = new Joinhand();
            if (isSign) {
                CHECK.is("insert " + sign, 1, () -> x.insert(0, its));
                CHECK.is("lack " + sign, 1, () -> x.lack(its) ? 1 : 0);
            } else {
                CHECK.argument("insert " + sign, () -> x.insert(0, its));
                CHECK.argument("lack " + sign, () -> x.lack(its) ? 1 : 0);
            }
        }
    }

    private static void commonSigns() {
        CHECK.says("0 the blank, 1 a stop, 2 the JOINER, 3 the PARTER, 4 to 9 figures; these are common.");
        for (int sign = 0; sign <= 44; sign++) {
            if (sign > 23 && sign < 30) continue;
            Joinhand behindJ = Check.with(10, sign);
            Joinhand behindS = Check.with(30, sign);
            CHECK.is("the run of " + sign + " behind a J", sign >= 30 ? 110 : 0, () -> behindJ.run(1));
            int due = sign >= 10 && sign <= 23 ? 100 : 10;
            CHECK.is("the run of " + sign + " behind an S", due, () -> behindS.run(1));
        }
    }

    private static void lettersThatJoin() {
        CHECK.says("10 to 15 letters that join on both sides, 16 to 18 letters that join ahead alone, 19 a letter that does not join, 20 the stroke, which joins on both sides, 21 to 23 marks.");
        int[] due = {2, 2, 2, 2, 2, 2, 3, 3, 3, 0, 2, NONE, NONE, NONE};
        for (int sign = 10; sign <= 23; sign++) {
            Joinhand x = Check.with(10, sign, 10);
            CHECK.is("the form of " + sign + " between two 10", due[sign - 10], () -> x.form(1));
        }
    }

    private static void signsOfS() {
        CHECK.says("Of the script S: 30 to 37 consonants, 38 the climbing consonant, 39 the killer, 40 the vowel that is set ahead, 41 and 42 other vowels, 43 a vowel that stands by itself, 44 a mark.");
        for (int i = 30; i <= 44; i++) {
            int sign = i;
            Joinhand x = Check.with(30, sign);
            boolean isBehind = isIn(sign, 39, 40, 41, 42, 44);
            CHECK.is(sign + " belongs to the consonant ahead", isBehind ? 0 : 1, () -> x.cluster(1));
            CHECK.is(sign + " is set ahead", sign == 40 ? 40 : 30, () -> x.glyph(0));
            Joinhand y = Check.with(sign, 39, 30);
            CHECK.is(sign + " climbs", sign == 38 ? 65 : 30, () -> y.glyph(y.glyphs() - 1));
            Joinhand z = Check.with(sign);
            CHECK.is(sign + " stands by itself", isBehind ? 2 : 1, z::glyphs);
            int wide = sign == 44 ? 0 : 10;
            CHECK.is("the advance of " + sign, wide, () -> z.place(sign == 40 ? 0 : z.glyphs() - 1, 2));
        }
    }

    private static void sixteenSigns() {
        CHECK.says("A text has up to 16 signs");
        Joinhand x = new Joinhand();
        for (int i = 0; i < 16; i++) {
            int its = i;
            CHECK.is("the sign " + i, i + 1, () -> x.insert(its, 4));
        }
        CHECK.state("the seventeenth at the end", () -> x.insert(16, 4));
        CHECK.state("the seventeenth at the beginning", () -> x.insert(0, 4));
        CHECK.is("all of them", 16, x::glyphs);
        x.cut(15);
        CHECK.is("a sixteenth again", 16, () -> x.insert(0, 5));
        CHECK.state("no seventeenth again", () -> x.insert(8, 4));
    }

    private static void extraAtFirst() {
        CHECK.says("each has a value of EXTRA, 0 to 3, 0 at first");
        Joinhand x = Check.with(4, 10, 30);
        CHECK.is("0 at first", 0, () -> x.setExtra(0, 2, 0));
        for (int value = -2; value <= 5; value++) {
            int its = value;
            if (value < 0 || value > 3) CHECK.argument("the value " + value, () -> x.setExtra(0, 2, its));
            else CHECK.is("the value " + value, value == 0 ? 0 : 3, () -> x.setExtra(0, 2, its));
        }
        x.insert(1, 5);
        CHECK.is("0 for a new one among others", 1, () -> x.setExtra(0, 3, 3));
    }

    // ---- Runs

    private static void commonBehind() {
        CHECK.says("A common sign has the script of the sign ahead of it, which may have it likewise");
        CHECK.runs("S, then J", Check.with(30, 0, 1, 2, 3, 9, 10, 4, 5), 10, 10, 10, 10, 10, 10, 100, 100, 100);
        CHECK.runs("J, then S", Check.with(23, 0, 9, 44, 4), 0, 0, 0, 110, 110);
        CHECK.runs("to the end", Check.with(44, 0, 0, 0, 0, 0, 0, 0, 0, 0, 0, 0, 0, 0, 0, 0), 10, 10, 10, 10, 10, 10, 10, 10, 10, 10, 10, 10, 10, 10, 10, 10);
    }

    private static void commonAtTheBeginning() {
        CHECK.says("at the beginning of the text, that of the first sign that is not common");
        CHECK.runs("S", Check.with(0, 4, 2, 30, 10), 10, 10, 10, 10, 100);
        CHECK.runs("J", Check.with(0, 4, 2, 10, 30), 0, 0, 0, 0, 110);
        for (int sign = 0; sign <= 9; sign++) CHECK.runs("behind " + sign, Check.with(sign, 30), 10, 10);
        Joinhand gone = Check.with(9, 0, 30, 10);
        gone.cut(2);
        CHECK.runs("when the first one was cut", gone, 0, 0, 0);
        gone.cut(2);
        CHECK.runs("when all were cut", gone, 0, 0);
        CHECK.runs("the last one of 16", Check.with(0, 0, 0, 0, 0, 0, 0, 0, 0, 0, 0, 0, 0, 0, 0, 40), 10, 10, 10, 10, 10, 10, 10, 10, 10, 10, 10, 10, 10, 10, 10, 10);
    }

    private static void commonAlone() {
        CHECK.says("J, if there is none.");
        CHECK.runs("one", Check.with(9), 0);
        CHECK.runs("sixteen", Check.with(0, 1, 2, 3, 4, 5, 6, 7, 8, 9, 0, 1, 2, 3, 4, 5), 0, 0, 0, 0, 0, 0, 0, 0, 0, 0, 0, 0, 0, 0, 0, 0);
        CHECK.places("from the right to the left", Check.with(4, 5), 0, 10, 0);
    }

    private static void faceOne() {
        CHECK.says("A sign has the face 0, unless that lacks it: then the face 1.");
        Joinhand x = Check.with(10, 11, 30);
        x.lack(10);
        CHECK.runs("10 is lacked", x, 1, 100, 210);
        x.lack(30);
        CHECK.runs("30 too", x, 1, 100, 211);
        x.lack(11);
        CHECK.runs("all", x, 1, 1, 111);
        x.lack(10);
        CHECK.runs("10 no more", x, 0, 101, 211);
    }

    private static void runsAsLongAsCanBe() {
        CHECK.says("A run is as many signs one behind the other as can be with the same script and face.");
        CHECK.runs("a script comes again", Check.with(10, 11, 30, 31, 10, 10), 0, 0, 110, 110, 200, 200);
        CHECK.runs("sixteen", Check.with(10, 30, 10, 30, 10, 30, 10, 30, 10, 30, 10, 30, 10, 30, 10, 30),
            0, 110, 200, 310, 400, 510, 600, 710, 800, 910, 1000, 1110, 1200, 1310, 1400, 1510);
        Joinhand x = Check.with(10, 0, 0, 11, 30, 0, 31);
        x.lack(0);
        CHECK.runs("blanks of the face 1", x, 0, 101, 101, 200, 310, 411, 510);
        x.lack(11);
        CHECK.runs("and 11", x, 0, 101, 101, 101, 210, 311, 410);
    }

    private static void runsByThemselves() {
        CHECK.says("Each run is shaped by itself, with the lookups of its face.");
        Joinhand x = Check.with(10, 11, 30);
        x.lookup(Joinhand.LIGATURE, 0, 0, 0, 0);
        x.rule(0, 11, 30, NONE, 100, 0, 0);
        x.rule(0, 10, 11, NONE, 101, 0, 0);
        x.useFace(1);
        x.lookup(Joinhand.SINGLE, 0, 0, 0, 0);
        x.rule(0, 300, 102, 0, 0, 0, 0);
        CHECK.glyphs("no ligature over scripts", x, 101, 30);
        x.lack(11);
        CHECK.glyphs("no ligature over faces", x, 10, 102, 30);
    }

    // ---- What a row begins as

    private static void carrierAndClimber() {
        CHECK.says("Glyphs are 0 to 255; 64 is the carrier, 65 the climber.");
        CHECK.glyphs("the carrier", Check.with(39), 64, 39);
        CHECK.glyphs("the climber", Check.with(38, 39, 30), 30, 65);
        Joinhand x = Check.with(4, 5);
        x.lookup(Joinhand.SINGLE, 0, 0, 0, 0);
        x.rule(0, 4, 0, 0, 0, 0, 0);
        x.rule(0, 5, 255, 0, 0, 0, 0);
        CHECK.glyphs("the least and the greatest one", x, 0, 255);
        CHECK.argument("-1", () -> x.rule(0, 4, -1, 0, 0, 0, 0));
        CHECK.argument("256", () -> x.rule(0, 4, 256, 0, 0, 0, 0));
    }

    private static void placesInTheText() {
        CHECK.says("Each sign becomes the glyph with its number, which has the sign's place in the text as its cluster, and its value of EXTRA.");
        Joinhand x = Check.with(30, 10, 11, 4, 31, 0);
        CHECK.glyphs("numbers", x, 30, 10, 11, 4, 31, 0);
        CHECK.clusters("places in the text, not in the run", x, 0, 1, 2, 3, 4, 5);
        x.setExtra(1, 1, 1);
        x.setExtra(2, 2, 2);
        x.setExtra(4, 5, 3);
        x.lookup(Joinhand.CHOICE, 0, 0, 0, 0);
        x.rule(0, 300, 101, 102, 103, 0, 0);
        CHECK.glyphs("values of EXTRA", x, 30, 101, 102, 4, 103, 103);
    }

    private static void clustersOfMarks() {
        CHECK.says("marks have the cluster of the nearest sign ahead in the run that is no mark, if there is one");
        CHECK.clusters("none ahead, then 10, then the blank", Check.with(21, 22, 10, 21, 22, 23, 0, 23), 0, 1, 2, 2, 2, 2, 6, 6);
        CHECK.clusters("ahead of the run", Check.with(30, 21, 22), 0, 1, 2);
        Joinhand x = Check.with(10, 22, 11, 21);
        x.lack(22);
        CHECK.clusters("in another face", x, 0, 1, 2, 2);
        CHECK.clusters("the JOINER, which is taken out", Check.with(2, 21, 22), 0, 0);
    }

    private static void signsWithForms() {
        CHECK.says("Each of the signs 10 to 20 has a form.");
        for (int sign = 0; sign <= 44; sign++) {
            if (sign > 23 && sign < 30) continue;
            Joinhand x = Check.with(sign);
            CHECK.is("the form of " + sign, sign >= 10 && sign <= 20 ? Joinhand.ALONE : NONE, () -> x.form(0));
        }
    }

    private static void joiningAhead() {
        CHECK.says("It joins ahead if it is not 19, and, the marks 21 to 23 being passed over, the sign right ahead of it in the run is one of 10 to 15, 20 or the JOINER");
        for (int ahead = 0; ahead <= 23; ahead++) {
            boolean joins = isIn(ahead, 2, 10, 11, 12, 13, 14, 15, 20);
            Joinhand x = Check.with(ahead, 16);
            CHECK.is("16 behind " + ahead, joins ? Joinhand.END : Joinhand.ALONE, () -> x.form(1));
            Joinhand y = Check.with(ahead, 21, 22, 23, 16);
            CHECK.is("16 behind " + ahead + " and marks", joins ? Joinhand.END : Joinhand.ALONE, () -> y.form(4));
            Joinhand z = Check.with(ahead, 19);
            CHECK.is("19 behind " + ahead, Joinhand.ALONE, () -> z.form(1));
        }
        for (int sign = 10; sign <= 20; sign++) {
            Joinhand x = Check.with(2, sign);
            CHECK.is(sign + " behind the JOINER", sign == 19 ? Joinhand.ALONE : Joinhand.END, () -> x.form(1));
        }
        Joinhand x = Check.with(10, 16);
        x.lack(16);
        CHECK.forms("not in the run", x, 0, 0);
        CHECK.forms("not right ahead", Check.with(10, 0, 16), 0, NONE, 0);
    }

    private static void joiningBehind() {
        CHECK.says("it joins behind if it is one of 10 to 15 or 20, and, these being passed over, the sign right behind it in the run is one of 10 to 18, 20 or the JOINER");
        for (int behind = 0; behind <= 23; behind++) {
            boolean joins = behind == 2 || behind >= 10 && behind <= 18 || behind == 20;
            Joinhand x = Check.with(10, behind);
            CHECK.is("10 ahead of " + behind, joins ? Joinhand.BEGIN : Joinhand.ALONE, () -> x.form(0));
            Joinhand y = Check.with(10, 23, 22, 21, behind);
            CHECK.is("10 ahead of marks and " + behind, joins ? Joinhand.BEGIN : Joinhand.ALONE, () -> y.form(0));
        }
        for (int sign = 10; sign <= 20; sign++) {
            boolean joins = sign <= 15 || sign == 20;
            Joinhand x = Check.with(sign, 2);
            CHECK.is(sign + " ahead of the JOINER", joins ? Joinhand.BEGIN : Joinhand.ALONE, () -> x.form(0));
        }
        Joinhand x = Check.with(10, 16);
        x.lack(10);
        CHECK.forms("not in the run", x, 0, 0);
        CHECK.forms("not right behind", Check.with(10, 3, 16), 0, NONE, 0);
        CHECK.forms("not over another script", Check.with(10, 30, 16), 0, NONE, 0);
    }

    private static void fourForms() {
        CHECK.says("The form is ALONE, BEGIN (it joins behind alone), MIDDLE (on both sides) or END (ahead alone).");
        CHECK.forms("all four", Check.with(10, 11, 12, 19), 1, 2, 3, 0);
        CHECK.forms("sixteen", Check.with(10, 10, 10, 10, 10, 10, 10, 10, 10, 10, 10, 10, 10, 10, 10, 10), 1, 2, 2, 2, 2, 2, 2, 2, 2, 2, 2, 2, 2, 2, 2, 3);
    }

    private static void noFormsInS() {
        CHECK.says("Each of the signs 10 to 20 has a form.");
        for (int form = 0; form < 4; form++) {
            Joinhand x = Check.with(30, 2, 39, 44, 38, 39, 31, 43);
            x.lookup(Joinhand.SINGLE, Joinhand.FORMS + form, 0, 0, 0);
            x.rule(0, 300, 100, 0, 0, 0, 0);
            CHECK.glyphs("none in S, the form " + form, x, 30, 64, 39, 44, 31, 65, 43);
            Joinhand y = Check.with(0, 1, 3, 9, 21);
            y.lookup(Joinhand.SINGLE, Joinhand.FORMS + form, 0, 0, 0);
            y.rule(0, 300, 100, 0, 0, 0, 0);
            CHECK.glyphs("none of others in J, the form " + form, y, 0, 1, 9, 21);
        }
    }

    private static void longSyllables() {
        CHECK.says("A run of S is parted into syllables, from the left to the right, each as long as can be");
        CHECK.clusters("sixteen signs in one", Check.with(30, 39, 31, 39, 32, 39, 33, 39, 34, 39, 35, 39, 36, 39, 37, 39), 0, 0, 0, 0, 0, 0, 0, 0, 0, 0, 0, 0, 0, 0, 0, 0);
        CHECK.clusters("sixteen of one sign each", Check.with(30, 31, 32, 33, 34, 35, 36, 37, 38, 30, 31, 32, 33, 34, 35, 36), 0, 1, 2, 3, 4, 5, 6, 7, 8, 9, 10, 11, 12, 13, 14, 15);
        CHECK.clusters("a run that begins behind another one", Check.with(10, 30, 39, 31, 44, 30), 0, 1, 1, 1, 1, 5);
    }

    private static void consonants() {
        CHECK.says("a consonant (30 to 38)");
        for (int sign = 30; sign <= 44; sign++) {
            Joinhand x = Check.with(sign, 39, 31);
            boolean isFirst = sign <= 38;
            int due = sign == 38 ? 2 : isFirst ? 3 : sign == 39 ? 5 : sign == 43 ? 4 : 5;
            CHECK.is("glyphs of " + sign + ", 39 and 31", due, x::glyphs);
            CHECK.is("31 belongs to the syllable of " + sign, isFirst ? 0 : 1, () -> x.cluster(x.glyphs() - 1));
            Joinhand y = Check.with(30, 39, sign);
            boolean goesOn = sign != 39 && sign != 43;
            CHECK.is(sign + " behind 30 and 39", goesOn ? 0 : 2, () -> y.cluster(y.glyphs() - 1));
        }
    }

    private static void stacks() {
        CHECK.says("then, any number of times, 39, perhaps 2 or 3, and a consonant");
        CHECK.clusters("no time", Check.with(30, 31), 0, 1);
        CHECK.clusters("once", Check.with(30, 39, 31), 0, 0, 0);
        CHECK.clusters("with 2", Check.with(30, 39, 2, 31), 0, 0, 0);
        CHECK.clusters("with 3", Check.with(30, 39, 3, 31), 0, 0, 0);
        CHECK.clusters("with two of them", Check.with(30, 39, 2, 3, 31), 0, 0, 4);
        CHECK.clusters("with 4", Check.with(30, 39, 4, 31), 0, 0, 2, 3);
        CHECK.clusters("with 2 ahead of 39", Check.with(30, 2, 39, 31), 0, 2, 2, 2);
        CHECK.clusters("five times", Check.with(30, 39, 2, 31, 39, 3, 32, 39, 33, 39, 2, 34, 39, 38, 30), 0, 0, 0, 0, 0, 0, 0, 0, 0, 0, 0, 14);
    }

    private static void stackEnds() {
        CHECK.says("then perhaps 39, and perhaps 2 or 3 behind that");
        CHECK.clusters("39", Check.with(30, 39, 44), 0, 0, 0);
        CHECK.clusters("39 and 2", Check.with(30, 39, 2, 44), 0, 0, 0);
        CHECK.clusters("39 and 3", Check.with(30, 39, 3, 44), 0, 0, 0);
        CHECK.clusters("39, 3 and 2", Check.with(30, 39, 3, 2, 44), 0, 0, 4, 4);
        CHECK.clusters("39 twice", Check.with(30, 39, 39, 44), 0, 0, 2, 2, 2);
        CHECK.clusters("2 without 39", Check.with(30, 2, 44), 0, 2, 2);
        CHECK.clusters("at the end of the text", Check.with(30, 39, 2), 0, 0);
        CHECK.clusters("at the end of the run", Check.with(30, 39, 10), 0, 0, 2);
    }

    private static void vowelsOfSyllables() {
        CHECK.says("then any number of 40, 41, 42 and 44; or 43, and any number of 40, 41, 42 and 44");
        CHECK.clusters("none", Check.with(30, 30, 43, 43), 0, 1, 2, 3);
        CHECK.clusters("fifteen", Check.with(30, 40, 41, 42, 44, 44, 42, 41, 40, 40, 41, 42, 44, 41, 42, 44), 0, 0, 0, 0, 0, 0, 0, 0, 0, 0, 0, 0, 0, 0, 0, 0);
        CHECK.clusters("43 is none of them", Check.with(30, 41, 43, 41), 0, 0, 2, 2);
        CHECK.clusters("a consonant behind them", Check.with(30, 41, 31), 0, 0, 2);
        CHECK.clusters("39 behind them", Check.with(30, 41, 39, 31), 0, 0, 2, 2, 2);
        CHECK.clusters("43 and all of them", Check.with(43, 44, 41, 42, 40, 43), 0, 0, 0, 0, 0, 5);
        CHECK.glyphs("43 and all of them", Check.with(43, 44, 41, 42, 40, 43), 40, 43, 44, 41, 42, 43);
        CHECK.clusters("39 behind 43", Check.with(43, 39, 31), 0, 1, 1, 1);
        CHECK.clusters("2 behind 43", Check.with(43, 2, 44), 0, 2, 2);
    }

    private static void carriers() {
        CHECK.says("or, if it would begin with one of 39 to 42 or 44, a carrier is put ahead of it, with its place as the cluster, EXTRA 0, and counts as a consonant");
        for (int sign = 30; sign <= 44; sign++) {
            Joinhand x = Check.with(0, sign);
            boolean needs = isIn(sign, 39, 40, 41, 42, 44);
            if (!needs) CHECK.glyphs("no carrier ahead of " + sign, x, 0, sign);
            else if (sign == 40) CHECK.glyphs("the vowel that is set ahead", x, 0, 40, 64);
            else CHECK.glyphs("a carrier ahead of " + sign, x, 0, 64, sign);
            if (needs) CHECK.clusters("its place", x, 0, 1, 1);
        }
        CHECK.glyphs("as a consonant", Check.with(39, 2, 31, 39, 3, 42), 64, 39, 31, 39, 42);
        CHECK.clusters("as a consonant", Check.with(39, 2, 31, 39, 3, 42), 0, 0, 0, 0, 0);
        CHECK.glyphs("one for each syllable", Check.with(39, 39, 39), 64, 39, 64, 39, 64, 39);
        CHECK.glyphs("sixteen of them", Check.with(39, 39, 39, 39, 39, 39, 39, 39, 39, 39, 39, 39, 39, 39, 39, 39),
            64, 39, 64, 39, 64, 39, 64, 39, 64, 39, 64, 39, 64, 39, 64, 39, 64, 39, 64, 39, 64, 39, 64, 39, 64, 39, 64, 39, 64, 39, 64, 39);
        Joinhand x = Check.with(44);
        x.setExtra(0, 0, 3);
        x.lookup(Joinhand.CHOICE, 0, 0, 0, 0);
        x.rule(0, 300, 101, 102, 103, 0, 0);
        CHECK.glyphs("EXTRA 0", x, 64, 103);
    }

    private static void otherSigns() {
        CHECK.says("or any other sign by itself");
        CHECK.clusters("common ones", Check.with(30, 0, 1, 4, 9, 2, 3, 30), 0, 1, 2, 3, 4, 7);
        CHECK.carets("2 and 3 belong to the cluster ahead", Check.with(30, 2, 3, 31), 0, 3, 6, 10);
        CHECK.glyphs("a carrier behind them", Check.with(30, 0, 44), 30, 0, 64, 44);
    }

    private static void clustersOfSyllables() {
        CHECK.says("All glyphs of a syllable have the place of its first sign as their cluster.");
        CHECK.clusters("behind a run of J", Check.with(10, 11, 38, 39, 30, 40, 31, 41), 0, 1, 2, 2, 2, 6, 6);
        CHECK.glyphs("behind a run of J", Check.with(10, 11, 38, 39, 30, 40, 31, 41), 10, 11, 40, 30, 65, 31, 41);
    }

    private static void climbing() {
        CHECK.says("if it begins with 38, 39 and a consonant, the glyphs of 38 and 39 are taken out");
        for (int sign = 30; sign <= 38; sign++) CHECK.glyphs("38, 39 and " + sign, Check.with(38, 39, sign), sign, 65);
        CHECK.glyphs("38 alone", Check.with(38), 38);
        CHECK.glyphs("38 and 39", Check.with(38, 39), 38, 39);
        CHECK.glyphs("38 and a consonant", Check.with(38, 30), 38, 30);
        CHECK.glyphs("38, 39, 2 and a consonant", Check.with(38, 39, 2, 30), 38, 39, 30);
        CHECK.glyphs("38, 39, 3 and a consonant", Check.with(38, 39, 3, 30), 38, 39, 30);
        CHECK.glyphs("38, 39 and a vowel", Check.with(38, 39, 41), 38, 39, 41);
        CHECK.glyphs("38, 39 and 43", Check.with(38, 39, 43), 38, 39, 43);
        CHECK.glyphs("37 at the beginning", Check.with(37, 39, 30), 37, 39, 30);
        CHECK.glyphs("38 not at the beginning", Check.with(30, 39, 38, 39, 31), 30, 39, 38, 39, 31);
        CHECK.glyphs("38 behind a carrier", Check.with(39, 38, 39, 30), 64, 39, 38, 39, 30);
        CHECK.glyphs("once alone", Check.with(38, 39, 38, 39, 30), 38, 39, 30, 65);
        CHECK.glyphs("in each syllable", Check.with(38, 39, 30, 38, 39, 31), 30, 65, 31, 65);
    }

    private static void climbers() {
        CHECK.says("a climber, with the EXTRA of the 38, is put in behind the last consonant and the glyphs 39, 2 and 3 that are right behind that");
        CHECK.glyphs("behind the last consonant", Check.with(38, 39, 30, 39, 31, 41), 30, 39, 31, 65, 41);
        CHECK.glyphs("and 39", Check.with(38, 39, 30, 39, 41), 30, 39, 65, 41);
        CHECK.glyphs("and 39 at the end", Check.with(38, 39, 30, 39), 30, 39, 65);
        CHECK.glyphs("and 39 ahead of another syllable", Check.with(38, 39, 30, 39, 0, 31), 30, 39, 65, 0, 31);
        for (int joiner = 2; joiner <= 3; joiner++) {
            Joinhand x = Check.with(38, 39, 30, 39, joiner, 41);
            x.lookup(Joinhand.SINGLE, 0, 0, 0, 0);
            x.rule(0, joiner, 100 + joiner, 0, 0, 0, 0);
            CHECK.glyphs("and " + joiner, x, 30, 39, 100 + joiner, 65, 41);
            CHECK.clusters("and " + joiner, x, 0, 0, 0, 0, 0);
            x.cut(5);
            CHECK.glyphs("and " + joiner + " at the end", x, 30, 39, 100 + joiner, 65);
        }
        for (int value = 0; value <= 3; value++) {
            Joinhand x = Check.with(38, 39, 30);
            x.setExtra(1, 2, 3);
            x.setExtra(0, 0, value);
            x.lookup(Joinhand.CHOICE, 0, 0, 0, 0);
            x.rule(0, 65, 101, 102, 103, 0, 0);
            CHECK.glyphs("the EXTRA " + value, x, 30, value == 0 ? 65 : 100 + value);
        }
    }

    private static void vowelsAhead() {
        CHECK.says("then all 40 are moved to the beginning of the syllable, in their order.");
        Joinhand x = Check.with(30, 31, 40, 41, 40, 42, 40, 32, 40);
        x.setExtra(2, 2, 1);
        x.setExtra(4, 4, 2);
        x.setExtra(6, 6, 3);
        CHECK.glyphs("of their syllables", x, 30, 40, 40, 40, 31, 41, 42, 40, 32);
        x.lookup(Joinhand.CHOICE, 0, 0, 0, 0);
        x.rule(0, 40, 101, 102, 103, 0, 0);
        CHECK.glyphs("in their order", x, 30, 101, 102, 103, 31, 41, 42, 40, 32);
        CHECK.glyphs("ahead of a carrier", Check.with(40, 40), 40, 40, 64);
        CHECK.glyphs("ahead of 43", Check.with(43, 41, 40), 40, 43, 41);
        Joinhand stack = Check.with(38, 39, 30, 39, 31, 40);
        stack.lookup(Joinhand.LIGATURE, 0, 0, 0, 0);
        stack.rule(0, 40, 30, NONE, 100, 0, 0);
        CHECK.glyphs("when the climber has gone", stack, 39, 100, 31, 65);
    }

    public static void main(String[] args) {
        noOtherSigns();
        commonSigns();
        lettersThatJoin();
        signsOfS();
        sixteenSigns();
        extraAtFirst();
        commonBehind();
        commonAtTheBeginning();
        commonAlone();
        faceOne();
        runsAsLongAsCanBe();
        runsByThemselves();
        carrierAndClimber();
        placesInTheText();
        clustersOfMarks();
        signsWithForms();
        noFormsInS();
        joiningAhead();
        joiningBehind();
        fourForms();
        longSyllables();
        consonants();
        stacks();
        stackEnds();
        vowelsOfSyllables();
        carriers();
        otherSigns();
        clustersOfSyllables();
        climbing();
        climbers();
        vowelsAhead();
        CHECK.end("SignEdgesTest");
    }
}

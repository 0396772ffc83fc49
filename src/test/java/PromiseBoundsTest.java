import java.io.IOException;
import java.nio.charset.StandardCharsets;
import java.nio.file.Files;
import java.nio.file.Path;

/**
 * The bounds that the document's promises name, and what is refused: each test says the sentence that it is of, has the
 * last case that is taken beside the first that is not, and sees that a refused call changes nothing.
 */
public final class PromiseBoundsTest {
    private static final Path DOCUMENT = Path.of("../shared/DOC.md");
    private static final int BAD = TruthSums.BAD, FULL = TruthSums.FULL, NONE = TruthSums.NONE, NO = TruthSums.NO;
    private static final int LOWEST = Integer.MIN_VALUE, HIGHEST = Integer.MAX_VALUE;
    private static final String EIGHT = "a>=0;b>=0;c>=0;d>=0;e>=0;f>=0;a>=1;b>=1;";
    private static final String TWELVE = "so a;so b;so c;so d;so e;so f;not a;not b;not c;not d;not e;not f;";

    private static int failures = 0;
    private static String document = "";
    private static String sentence = "";

    public static void main(String[] args) throws IOException {
        if (Files.exists(DOCUMENT)) {
            document = Files.readString(DOCUMENT, StandardCharsets.ISO_8859_1).replaceAll("\\s+", " ");
        }
        refused();
        constants();
        newObject();
        typeCounts();
        typeFull();
        typeBytes();
        clear();
        given();
        givenFault();
        proof();
        proofFault();
        wrong();
        line();
        holds();
        broken();
        end();
        both();
        forcedLines();
        forcedTold();
        forcedWhat();
        trues();
        told();
        tight();
        needed();
        covers();
        cost();
        least();
        fit();
        count();
        System.out.println(failures == 0 ? "all bounds of the promises hold" : failures + " answers are not as due");
        if (failures != 0) {
            System.exit(1);
        }
    }

    /** The document's own words, so that what is tested can be found there. */
    private static void of(String words) {
        sentence = words;
        if (!document.isEmpty() && !document.contains(words)) {
            failures++;
            System.out.println("the document does not say: " + words);
        }
    }

    private static void due(String call, long got, long want) {
        if (got != want) {
            failures++;
            System.out.println("\"" + sentence + "\": " + call + " answered " + got + ", due is " + want);
        }
    }

    private static void dueSame(String call, String got, String want) {
        if (!got.equals(want)) {
            failures++;
            System.out.println("\"" + sentence + "\": " + call + " changed " + want + " to " + got);
        }
    }

    /** Eight bytes a call, so that no object comes near its 512 calls. */
    private static void typeText(TruthSums x, String text) {
        for (int at = 0; at < text.length(); at += 8) {
            int n = Math.min(8, text.length() - at);
            long v = 0;
            for (int k = 0; k < n; k++) {
                v = v << 8 | text.charAt(at + k);
            }
            x.type(v, n);
        }
    }

    private static TruthSums withGiven(String text) {
        TruthSums x = new TruthSums();
        typeText(x, text);
        due("given of '" + text + "'", x.given(), text.chars().filter(c -> c == ';').count());
        return x;
    }

    /** The STEPS up to the first that is WRONG are as many as told. */
    private static TruthSums withProof(String given, String text, int lines) {
        TruthSums x = withGiven(given);
        typeText(x, text);
        due("proof of '" + text + "'", x.proof(), lines);
        return x;
    }

    /** LINES 0 and 1 are GIVEN, 2 and 3 THE PROOF's, a third STEP is WRONG; costs are 1, 2, 4 ..; the text is "b+". */
    private static TruthSums inTheMiddle() {
        TruthSums x = withProof("2a+!b>=2;c+f>=1;", "times 0 2;so d;claim d>=1;so e;", 2);
        for (int letter = 0; letter < 6; letter++) {
            x.cost(letter, 1 << letter);
        }
        typeText(x, "b+");
        return x;
    }

    /** All that can be asked of it; some 50 calls. */
    private static String stateOf(TruthSums x) {
        StringBuilder s = new StringBuilder();
        for (int i = 0; i < 5; i++) {
            s.append(x.count(i)).append(' ');
            for (int letter = 0; letter < 7; letter++) {
                s.append(x.line(i, letter)).append(' ');
            }
        }
        s.append(x.wrong(0)).append(' ').append(x.wrong(1)).append(' ');
        s.append(x.trues()).append(' ').append(x.least(0)).append(' ').append(x.least(1));
        return s.toString();
    }

    private interface Call {
        long on(TruthSums x, int argument);
    }

    /** Each of these arguments is refused with that answer, and nothing changes. */
    private static void dueRefused(String call, long answer, Call made, int... arguments) {
        for (int argument : arguments) {
            TruthSums x = inTheMiddle();
            String before = stateOf(x);
            due(call + " of " + argument, made.on(x, argument), answer);
            dueSame(call + " of " + argument, stateOf(x), before);
            // the text is as it was, byte by byte, and each cost
            due(call + " of " + argument + ", then type", x.type(0x633e3d313bL, 5), 7);
            due(call + " of " + argument + ", then given", x.given(), 1);
            for (int letter = 0; letter < 6; letter++) {
                due(call + " of " + argument + ", then cost", x.cost(letter, 0), 1 << letter);
            }
        }
    }

    private static void refused() {
        of("Refused, and nothing changes, the first of these: BAD (a number is not as told, or there is no such thing),"
                + " FULL.");
        TruthSums x = new TruthSums();
        typeText(x, "a>=1;" + " ".repeat(395));
        due("BAD goes ahead of FULL, 9 bytes", x.type(0, 9), BAD);
        due("BAD goes ahead of FULL, 0 bytes", x.type(0, 0), BAD);
        due("FULL", x.type(0, 1), FULL);
        due("count(4)", x.count(4), 400);
        due("given", x.given(), 1);
        of("---- texts.");
        dueRefused("type(.., n)", BAD, (y, n) -> y.type(0x6161616161616161L, n), LOWEST, -1, 0, 9, HIGHEST);
        dueRefused("wrong(what)", BAD, (y, what) -> y.wrong(what), LOWEST, -1, 2, HIGHEST);
        of("---- lines.");
        dueRefused("line(i, 0)", NO, (y, i) -> y.line(i, 0), LOWEST, -1, 4, HIGHEST);
        dueRefused("line(0, letter)", NO, (y, letter) -> y.line(0, letter), LOWEST, -1, 7, HIGHEST);
        dueRefused("holds(i)", 0L, (y, i) -> y.holds(i), LOWEST, -1, 4, HIGHEST);
        dueRefused("broken(i)", BAD, (y, i) -> y.broken(i), LOWEST, -1, 4, HIGHEST);
        dueRefused("both(i, 0, 0)", BAD, (y, i) -> y.both(i, 0, 0), LOWEST, -1, 4, HIGHEST);
        dueRefused("both(0, j, 1)", BAD, (y, j) -> y.both(0, j, 1), LOWEST, -1, 4, HIGHEST);
        dueRefused("both(0, 0, what)", BAD, (y, what) -> y.both(0, 0, what), LOWEST, -1, 2, HIGHEST);
        of("---- forced.");
        dueRefused("forced(n, 0, 0, 0)", BAD, (y, n) -> y.forced(n, 0, 0, 0), LOWEST, -1, 5, HIGHEST);
        dueRefused("forced(4, so, 0, 0)", BAD, (y, so) -> y.forced(4, so, 0, 0), LOWEST, -1, 64, HIGHEST);
        dueRefused("forced(4, 0, not, 0)", BAD, (y, not) -> y.forced(4, 0, not, 0), LOWEST, -1, 64, HIGHEST);
        dueRefused("forced(4, set, set, 0)", BAD, (y, set) -> y.forced(4, set, set, 0), 1, 32, 63);
        dueRefused("forced(4, 0, 0, what)", BAD, (y, what) -> y.forced(4, 0, 0, what), LOWEST, -1, 3, HIGHEST);
        of("---- worlds.");
        dueRefused("told(i)", BAD, (y, i) -> y.told(i), LOWEST, -1, 4, HIGHEST);
        dueRefused("tight(i)", BAD, (y, i) -> y.tight(i), LOWEST, -1, 4, HIGHEST);
        dueRefused("needed(i, 0)", BAD, (y, i) -> y.needed(i, 0), LOWEST, -1, 4, HIGHEST);
        dueRefused("needed(0, what)", BAD, (y, what) -> y.needed(0, what), LOWEST, -1, 2, HIGHEST);
        dueRefused("covers(i, -1)", BAD, (y, i) -> y.covers(i, -1), LOWEST, -1, 4, HIGHEST);
        dueRefused("covers(0, k)", BAD, (y, k) -> y.covers(0, k), LOWEST, -2, 1, HIGHEST);
        dueRefused("cost(letter, 5)", BAD, (y, letter) -> y.cost(letter, 5), LOWEST, -1, 6, HIGHEST);
        dueRefused("cost(0, v)", BAD, (y, v) -> y.cost(0, v), LOWEST, -1, 100, HIGHEST);
        dueRefused("least(what)", BAD, (y, what) -> y.least(what), LOWEST, -1, 2, HIGHEST);
        dueRefused("fit(table, 0)", NO, (y, table) -> y.fit(table, 0), LOWEST, -1, 256, HIGHEST);
        dueRefused("fit(0, what)", NO, (y, what) -> y.fit(0, what), LOWEST, -1, 5, HIGHEST);
        dueRefused("count(what)", BAD, (y, what) -> y.count(what), LOWEST, -1, 5, HIGHEST);
    }

    private static void constants() {
        of("public static final int BAD = -1, FULL = -3, NONE = -9;");
        due("BAD", BAD, -1);
        due("FULL", FULL, -3);
        due("NONE", NONE, -9);
        of("`NO = -1000000`: What none is, where a number may be below 0.");
        due("NO", NO, -1000000);
    }

    private static void newObject() {
        of("`TruthSums()`: No LINES.");
        TruthSums none = new TruthSums();
        TruthSums one = withGiven("a>=1;");
        due("count(0)", none.count(0), 0);
        due("count(1)", none.count(1), 0);
        due("count(2)", none.count(2), 0);
        due("count(4)", none.count(4), 0);
        due("wrong(0)", none.wrong(0), NONE);
        due("wrong(1)", none.wrong(1), NONE);
        due("end()", none.end(), NONE);
        due("line(0, 0) of none", none.line(0, 0), NO);
        due("line(0, 0) of one", one.line(0, 0), 1);
        due("holds(0) of none", none.holds(0), 0L);
        due("holds(0) of one", one.holds(0), 0xaaaaaaaaaaaaaaaaL);
        due("broken(0) of none", none.broken(0), BAD);
        due("broken(0) of one", one.broken(0), 0);
        due("both(0, 0, 0) of none", none.both(0, 0, 0), BAD);
        due("both(0, 0, 0) of one", one.both(0, 0, 0), 1);
        due("forced(1, 0, 0, 0) of none", none.forced(1, 0, 0, 0), BAD);
        due("forced(1, 0, 0, 0) of one", one.forced(1, 0, 0, 0), 1);
        due("told(0) of none", none.told(0), BAD);
        due("told(0) of one", one.told(0), 1);
        due("tight(0) of none", none.tight(0), BAD);
        due("tight(0) of one", one.tight(0), 1);
        due("needed(0, 0) of none", none.needed(0, 0), BAD);
        due("needed(0, 0) of one", one.needed(0, 0), 1);
        due("covers(0, -1) of none", none.covers(0, -1), BAD);
        due("covers(0, -1) of one", one.covers(0, -1), 1);
        due("trues()", none.trues(), -1L);
        due("least(0)", none.least(0), 0);
        due("least(1)", none.least(1), 0);
    }

    private static void typeCounts() {
        of("The lowest n (1 .. 8) bytes of v, the highest of them first, come to THE TEXT: how many it has. BAD; FULL.");
        TruthSums x = new TruthSums();
        due("type(.., 0)", x.type(0x6161616161616161L, 0), BAD);
        int length = 0;
        for (int n = 1; n <= 8; n++) {
            length += n;
            due("type(.., " + n + ")", x.type(0x6161616161616161L, n), length);
        }
        due("type(.., 9)", x.type(0x6161616161616161L, 9), BAD);
        due("count(4)", x.count(4), 36);
    }

    private static void typeFull() {
        of("come to THE TEXT: how many it has. BAD; FULL.");
        for (int n = 1; n <= 8; n++) {
            TruthSums x = new TruthSums();
            typeText(x, " ".repeat(395 - n) + "a>=1;");
            if (n < 8) {
                due("1 byte too many", x.type(0x2020202020202020L, n + 1), FULL);
            }
            due("count(4)", x.count(4), 400 - n);
            due("just as many", x.type(0x2020202020202020L, n), 400);
            due("1 byte behind 400", x.type(' ', 1), FULL);
            due("given", x.given(), 1);
            due("type in the room again", x.type(' ', 1), 1);
        }
        // of a call that is FULL no byte comes, not the first ones either
        TruthSums y = new TruthSums();
        typeText(y, "a>=1" + " ".repeat(395));
        due("two at 399", y.type(0x3b20L, 2), FULL);
        due("one at 399", y.type(0x3bL, 1), 400);
        due("given", y.given(), 1);
    }

    private static void typeBytes() {
        of("The lowest n (1 .. 8) bytes of v, the highest of them first, come to THE TEXT");
        TruthSums x = new TruthSums();
        due("eight", x.type(0x39392161202b2066L, 8), 8);
        due("the lowest three", x.type(0x20202020203e3d37L, 3), 11);
        due("the lowest", x.type(0xffffffffffffff3bL, 1), 12);
        due("given", x.given(), 1);
        due("line(0, 0)", x.line(0, 0), -99);
        due("line(0, 5)", x.line(0, 5), 1);
        due("line(0, 6)", x.line(0, 6), 7);
        // the highest bytes of all: nothing is lost of a sign
        TruthSums y = new TruthSums();
        due("below 0", y.type(0xff00000000000000L, 8), 8);
        due("given", y.given(), -10);
        y.clear();
        due("below 0, the lowest seven", y.type(0xff613e3d20203b20L, 7), 7);
        due("given", y.given(), -15);
    }

    private static void clear() {
        of("THE TEXT is empty: how many bytes it had.");
        TruthSums x = inTheMiddle();
        due("two", x.clear(), 2);
        due("none", x.clear(), 0);
        due("count(4)", x.count(4), 0);
        due("count(0)", x.count(0), 2);
        due("count(1)", x.count(1), 2);
        due("wrong(0)", x.wrong(0), 2);
        due("line(3, 3)", x.line(3, 3), 1);
        due("least(1)", x.least(1), 5);
        typeText(x, " ".repeat(400));
        due("400", x.clear(), 400);
        typeText(x, " ".repeat(395) + "f>=9;");
        due("count(4)", x.count(4), 400);
        due("given", x.given(), 1);
        due("line(0, 6)", x.line(0, 6), 9);
        due("clear behind given", x.clear(), 0);
    }

    private static void given() {
        of("THE TEXT becomes GIVEN (THE PROOF is empty then), and is empty then: how many.");
        TruthSums x = inTheMiddle();
        typeText(x, "c>=1;");
        due("one", x.given(), 1);
        due("count(0)", x.count(0), 1);
        due("count(1)", x.count(1), 0);
        due("count(2)", x.count(2), 0);
        due("count(4)", x.count(4), 0);
        due("wrong(0)", x.wrong(0), NONE);
        due("wrong(1)", x.wrong(1), NONE);
        due("line(0, 0) is of the new one", x.line(0, 0), 0);
        due("line(0, 2) is of the new one", x.line(0, 2), 1);
        due("line(1, 0)", x.line(1, 0), NO);
        due("holds(1)", x.holds(1), 0L);
        due("cost stays", x.cost(5, 0), 32);
        typeText(x, EIGHT);
        due("eight", x.given(), 8);
        due("line(7, 1)", x.line(7, 1), 1);
        due("none", x.given(), 0);
        due("count(0)", x.count(0), 0);
        due("line(0, 0)", x.line(0, 0), NO);
        due("trues()", x.trues(), -1L);
    }

    private static void givenFault() {
        of("-10 less FAULT: nothing changes.");
        TruthSums x = inTheMiddle();
        String before = stateOf(x);
        due("given of 'b+'", x.given(), -12);
        dueSame("given", stateOf(x), before);
        typeText(x, "c>=1;" + EIGHT);
        before = stateOf(x);
        due("given of a ninth", x.given(), -52);
        dueSame("given", stateOf(x), before);
        due("clear", x.clear(), 47);
        typeText(x, "@");
        before = stateOf(x);
        due("given of '@'", x.given(), -10);
        dueSame("given", stateOf(x), before);
        x.clear();
        typeText(x, " ".repeat(399) + "a");
        due("given of 400 bytes", x.given(), -410);
        due("given of 400 bytes again", x.given(), -410);
        due("count(4)", x.count(4), 400);
    }

    private static void proof() {
        of("THE TEXT becomes THE PROOF, and is empty then: how many LINES it has that are not WRONG.");
        TruthSums x = inTheMiddle();
        x.clear();
        typeText(x, "so e;");
        due("one", x.proof(), 1);
        due("count(0)", x.count(0), 2);
        due("count(1)", x.count(1), 1);
        due("count(2)", x.count(2), 1);
        due("count(4)", x.count(4), 0);
        due("wrong(0)", x.wrong(0), NONE);
        due("wrong(1)", x.wrong(1), NONE);
        due("line(1, 5) stays", x.line(1, 5), 1);
        due("line(2, 0) is of the new one", x.line(2, 0), 0);
        due("line(2, 4) is of the new one", x.line(2, 4), 1);
        due("line(3, 3)", x.line(3, 3), NO);
        due("none", x.proof(), 0);
        due("count(1)", x.count(1), 0);
        due("line(2, 4)", x.line(2, 4), NO);
        withProof("", "", 0);
        withProof("", "so a;claim a>=0;", 2);
        withProof("", "claim a>=1;so a;", 0);
        withProof("", "so a;claim a>=1;", 1);
        withProof("", TWELVE + TWELVE, 24);
        withProof("", TWELVE + TWELVE.substring(5) + "claim a>=0;", 24);
        withProof("", TWELVE + TWELVE.substring(5) + "claim a>=1;", 23);
    }

    private static void proofFault() {
        of("-10 less FAULT: nothing changes.");
        TruthSums x = inTheMiddle();
        String before = stateOf(x);
        due("proof of 'b+'", x.proof(), -10);
        dueSame("proof", stateOf(x), before);
        x.clear();
        typeText(x, "not a;not b;not c;not d;add 0 6;");
        before = stateOf(x);
        due("proof of a LINE not ahead", x.proof(), -40);
        dueSame("proof", stateOf(x), before);
        due("clear", x.clear(), 32);
        typeText(x, TWELVE + TWELVE + "so a;");
        before = stateOf(x);
        due("proof of a 25th", x.proof(), -142);
        dueSame("proof", stateOf(x), before);
        x.clear();
        typeText(x, " ".repeat(398) + "so");
        due("proof of 400 bytes", x.proof(), -410);
        due("proof of 400 bytes again", x.proof(), -410);
        due("count(4)", x.count(4), 400);
    }

    private static void wrong() {
        of("WRONG: the STEP (what = 0), whether by a number too great (1), a claim (2) (what = 1); NONE. BAD.");
        TruthSums right = withProof("a>=1;", "so b;", 1);
        due("none, 0", right.wrong(0), NONE);
        due("none, 1", right.wrong(1), NONE);
        due("none, -1", right.wrong(-1), BAD);
        due("none, 2", right.wrong(2), BAD);
        TruthSums first = withProof("a>=1;", "claim b>=1;", 0);
        due("the first STEP", first.wrong(0), 0);
        due("a claim", first.wrong(1), 2);
        TruthSums second = withProof("99a>=1;", "times 0 99;times 1 2;", 1);
        due("the second STEP", second.wrong(0), 1);
        due("a number", second.wrong(1), 1);
        due("-1", second.wrong(-1), BAD);
        due("2", second.wrong(2), BAD);
        TruthSums last = withProof("a>=1;", TWELVE + TWELVE.substring(5) + "claim b>=1;", 23);
        due("the 24th STEP", last.wrong(0), 23);
        typeText(last, "so a;");
        due("proof", last.proof(), 1);
        due("none then, 0", last.wrong(0), NONE);
        due("none then, 1", last.wrong(1), NONE);
    }

    private static void line() {
        of("WEIGHT of a LETTER in a LINE (letter = 6: DEGREE). NO: BAD.");
        TruthSums x = withProof("2a+!f>=3;b>=0;", "times 0 2;", 1);
        due("line(0, -1)", x.line(0, -1), NO);
        due("line(0, 0)", x.line(0, 0), 2);
        due("line(0, 5)", x.line(0, 5), -1);
        due("line(0, 6)", x.line(0, 6), 3);
        due("line(0, 7)", x.line(0, 7), NO);
        due("line(-1, 0)", x.line(-1, 0), NO);
        due("line(2, 0)", x.line(2, 0), 4);
        due("line(2, 6)", x.line(2, 6), 6);
        due("line(3, 0)", x.line(3, 0), NO);
        due("line(-1, 6)", x.line(-1, 6), NO);
        due("line(3, 6)", x.line(3, 6), NO);
        TruthSums y = withProof(EIGHT, TWELVE + TWELVE, 24);
        due("line(31, 5)", y.line(31, 5), -1);
        due("line(32, 5)", y.line(32, 5), NO);
    }

    private static void holds() {
        of("WORLDS in which a LINE HOLDS. BAD: 0.");
        TruthSums x = withProof("a>=1;a>=2;", "so b;", 1);
        due("holds(-1)", x.holds(-1), 0L);
        due("holds(0)", x.holds(0), 0xaaaaaaaaaaaaaaaaL);
        due("holds(1), in none", x.holds(1), 0L);
        due("holds(2), in all", x.holds(2), -1L);
        due("holds(3)", x.holds(3), 0L);
    }

    private static void broken() {
        of("Whether a LINE is BROKEN. BAD.");
        TruthSums x = withProof("a>=1;a>=2;", "so b;", 1);
        due("broken(-1)", x.broken(-1), BAD);
        due("broken(0)", x.broken(0), 0);
        due("broken(1)", x.broken(1), 1);
        due("broken(2)", x.broken(2), 0);
        due("broken(3)", x.broken(3), BAD);
    }

    private static void end() {
        of("The first LINE that is BROKEN; NONE.");
        due("no LINES", new TruthSums().end(), NONE);
        due("none is BROKEN", withGiven("a>=1;!a>=1;").end(), NONE);
        due("LINE 0", withGiven("a>=2;a>=3;").end(), 0);
        due("LINE 7", withGiven("a>=0;b>=0;c>=0;d>=0;e>=0;f>=0;a>=1;b>=2;").end(), 7);
        due("the first of THE PROOF", withProof("a>=1;!a>=1;", "add 0 1;add 0 1;", 2).end(), 2);
        due("GIVEN ahead of THE PROOF", withProof("a>=1;!a>=1;b>=2;", "add 0 1;", 1).end(), 2);
        String all = TWELVE + TWELVE.substring(5);
        due("LINE 31", withProof("a>=1;!a>=1;b>=0;b>=0;b>=0;b>=0;b>=0;b>=0;", all + "add 0 1;", 24).end(), 31);
        due("WRONG ones are none", withProof("a>=1;", "claim b>=9;", 0).end(), NONE);
        // what an earlier proof left behind is none, either
        TruthSums x = withProof("a>=1;!a>=1;", "add 0 1;", 1);
        due("BROKEN", x.end(), 2);
        due("an empty proof", x.proof(), 0);
        due("none then", x.end(), NONE);
    }

    private static void both() {
        of("Whether two LINES HOLD in the same WORLDS (what = 0), the first tells the second (1). BAD.");
        TruthSums x = withProof("a+b>=1;2a+2b>=2;a+b>=2;a>=2;a>=0;", "trim 4;", 1);
        due("both(0, 1, -1)", x.both(0, 1, -1), BAD);
        due("both(0, 1, 0)", x.both(0, 1, 0), 1);
        due("both(0, 1, 1)", x.both(0, 1, 1), 1);
        due("both(0, 1, 2)", x.both(0, 1, 2), BAD);
        due("both(0, 2, 0)", x.both(0, 2, 0), 0);
        due("both(2, 0, 0)", x.both(2, 0, 0), 0);
        due("both(2, 0, 1)", x.both(2, 0, 1), 1);
        due("both(0, 2, 1)", x.both(0, 2, 1), 0);
        // one that never HOLDS tells all; one that always does is told by all, and tells only such
        due("both(3, 2, 1)", x.both(3, 2, 1), 1);
        due("both(2, 3, 1)", x.both(2, 3, 1), 0);
        due("both(2, 4, 1)", x.both(2, 4, 1), 1);
        due("both(4, 2, 1)", x.both(4, 2, 1), 0);
        due("both(3, 3, 1)", x.both(3, 3, 1), 1);
        due("both(4, 5, 0)", x.both(4, 5, 0), 1);
        due("both(5, 5, 1)", x.both(5, 5, 1), 1);
        due("both(6, 5, 0)", x.both(6, 5, 0), BAD);
        due("both(5, 6, 0)", x.both(5, 6, 0), BAD);
        due("both(-1, 5, 0)", x.both(-1, 5, 0), BAD);
        due("both(5, -1, 0)", x.both(5, -1, 0), BAD);
        // a WORLD more at either end: WORLD 0, and WORLD 63
        TruthSums y = withGiven("a+b+c+d+e+f>=1;a>=0;!a+!b+!c+!d+!e+!f>=1;");
        due("but for WORLD 0", y.both(1, 0, 1), 0);
        due("but for WORLD 63", y.both(1, 2, 1), 0);
        due("but for WORLD 63, the same", y.both(1, 2, 0), 0);
    }

    private static void forcedLines() {
        of("FORCED by the first n LINES from told ones (bits, none told both ways):");
        TruthSums x = withProof("a>=1;!a+b>=1;", "claim b>=1;so c;", 2);
        due("n = -1", x.forced(-1, 0, 0, 0), BAD);
        due("n = 0", x.forced(0, 0, 0, 0), 0);
        due("n = 1", x.forced(1, 0, 0, 0), 1);
        due("n = 2", x.forced(2, 0, 0, 0), 3);
        due("n = 4", x.forced(4, 0, 0, 0), 3);
        due("n = 5", x.forced(5, 0, 0, 0), BAD);
        due("n = 0 of no LINES", new TruthSums().forced(0, 5, 2, 0), 5);
        due("n = 1 of no LINES", new TruthSums().forced(1, 5, 2, 0), BAD);
        // THE PROOF's last LINE counts with n = 3, and not with n = 2
        TruthSums y = withProof("a+b>=1;a+!b>=1;", "claim a>=1;", 1);
        due("n = 2, without the claim", y.forced(2, 0, 0, 0), 0);
        due("n = 3, with the claim", y.forced(3, 0, 0, 0), 1);
        due("n = 4", y.forced(4, 0, 0, 0), BAD);
        TruthSums z = withProof(EIGHT, TWELVE + TWELVE, 24);
        due("n = 32", z.forced(32, 0, 0, 0), 3);
        due("n = 33", z.forced(33, 0, 0, 0), BAD);
    }

    private static void forcedTold() {
        of("from told ones (bits, none told both ways):");
        TruthSums x = withGiven("a>=0;");
        due("so = -1", x.forced(1, -1, 0, 0), BAD);
        due("so = 0", x.forced(1, 0, 0, 0), 0);
        due("so = 63", x.forced(1, 63, 0, 0), 63);
        due("so = 64", x.forced(1, 64, 0, 0), BAD);
        due("not = -1", x.forced(1, 0, -1, 1), BAD);
        due("not = 0", x.forced(1, 0, 0, 1), 0);
        due("not = 63", x.forced(1, 0, 63, 1), 63);
        due("not = 64", x.forced(1, 0, 64, 1), BAD);
        for (int letter = 0; letter < 6; letter++) {
            int bit = 1 << letter;
            due("one both ways", x.forced(1, bit, bit, 0), BAD);
            due("one of all both ways", x.forced(1, 63, bit, 0), BAD);
            due("each one way, so", x.forced(1, 63 - bit, bit, 0), 63 - bit);
            due("each one way, not", x.forced(1, 63 - bit, bit, 1), bit);
        }
        due("both ways, of no LINES", x.forced(0, 1, 1, 0), BAD);
    }

    private static void forcedWhat() {
        of("LETTERS that are so then (what = 0), not so (1), whether it CLASHES (2). BAD.");
        TruthSums x = withGiven("a+!b>=2;");
        due("what = -1", x.forced(1, 0, 0, -1), BAD);
        due("what = 0", x.forced(1, 0, 0, 0), 1);
        due("what = 1", x.forced(1, 0, 0, 1), 2);
        due("what = 2", x.forced(1, 0, 0, 2), 0);
        due("what = 2, it CLASHES", x.forced(1, 2, 0, 2), 1);
        due("what = 2, as ahead", x.forced(1, 0, 0, 2), 0);
        due("what = 3", x.forced(1, 0, 0, 3), BAD);
    }

    private static void trues() {
        of("`long trues()`: TRUE WORLDS.");
        due("all", new TruthSums().trues(), -1L);
        due("none", withGiven("a>=2;").trues(), 0L);
        due("WORLD 0 alone", withGiven("!a+!b+!c+!d+!e+!f>=6;").trues(), 1L);
        due("WORLD 63 alone", withGiven("a+b+c+d+e+f>=6;").trues(), Long.MIN_VALUE);
        due("but for WORLD 0", withGiven("a+b+c+d+e+f>=1;").trues(), -2L);
        due("but for WORLD 63", withGiven("!a+!b+!c+!d+!e+!f>=1;").trues(), Long.MAX_VALUE);
    }

    private static void told() {
        of("Whether a LINE is TOLD. BAD.");
        TruthSums x = withProof("a>=1;", "so b;", 1);
        due("told(-1)", x.told(-1), BAD);
        due("told(0)", x.told(0), 1);
        due("told(1)", x.told(1), 1);
        due("told(2)", x.told(2), BAD);
    }

    private static void tight() {
        of("`int tight(int i)`: TIGHT. BAD.");
        TruthSums x = withProof("2a>=1;", "so b;", 1);
        due("tight(-1)", x.tight(-1), BAD);
        due("tight(0)", x.tight(0), 2);
        due("tight(1)", x.tight(1), 0);
        due("tight(2)", x.tight(2), BAD);
        TruthSums none = withGiven("a>=2;");
        due("no TRUE WORLDS", none.tight(0), NONE);
        due("BAD ahead of NONE", none.tight(1), BAD);
        due("BAD ahead of NONE", none.tight(-1), BAD);
    }

    private static void needed() {
        of("NEEDED: how many (what = 0), the set (1); NONE. BAD.");
        TruthSums x = withProof("b>=0;a>=1;", "trim 1;", 1);
        due("needed(2, -1)", x.needed(2, -1), BAD);
        due("needed(2, 0)", x.needed(2, 0), 1);
        due("needed(2, 1)", x.needed(2, 1), 2);
        due("needed(2, 2)", x.needed(2, 2), BAD);
        due("needed(-1, 0)", x.needed(-1, 0), BAD);
        due("needed(0, 0)", x.needed(0, 0), 0);
        due("needed(0, 1)", x.needed(0, 1), 0);
        due("needed(3, 0)", x.needed(3, 0), BAD);
        due("needed(3, 1)", x.needed(3, 1), BAD);
    }

    private static void covers() {
        of("COVERS: how many (k = -1), the k-th. BAD: no k-th one, too.");
        TruthSums x = withProof("a+b+c>=2;a>=0;", "so b;", 1);
        due("covers(0, -2)", x.covers(0, -2), BAD);
        due("covers(0, -1)", x.covers(0, -1), 3);
        due("covers(0, 0)", x.covers(0, 0), 3);
        due("covers(0, 2)", x.covers(0, 2), 6);
        due("covers(0, 3)", x.covers(0, 3), BAD);
        due("covers(1, -1)", x.covers(1, -1), 0);
        due("covers(1, 0)", x.covers(1, 0), BAD);
        due("covers(-1, -1)", x.covers(-1, -1), BAD);
        due("covers(2, -1)", x.covers(2, -1), 0);
        due("covers(3, -1)", x.covers(3, -1), BAD);
        TruthSums most = withGiven("a+b+c+d+e+f>=4;");
        due("most there are", most.covers(0, -1), 20);
        due("the last of them", most.covers(0, 19), 56);
        due("no 21st", most.covers(0, 20), BAD);
    }

    private static void cost() {
        of("COST of a LETTER becomes v: what it was. BAD.");
        TruthSums x = new TruthSums();
        due("cost(-1, 0)", x.cost(-1, 0), BAD);
        due("cost(6, 0)", x.cost(6, 0), BAD);
        for (int letter = 0; letter < 6; letter++) {
            due("0 at first", x.cost(letter, 99 - letter), 0);
        }
        for (int letter = 0; letter < 6; letter++) {
            due("cost(letter, -1)", x.cost(letter, -1), BAD);
            due("cost(letter, 100)", x.cost(letter, 100), BAD);
            due("what it was", x.cost(letter, 0), 99 - letter);
            due("what it was then", x.cost(letter, 99), 0);
            due("what it was at last", x.cost(letter, 1), 99);
        }
        // costs are of LETTERS, not of GIVEN: they stay
        typeText(x, "a>=1;");
        due("given", x.given(), 1);
        due("cost stays", x.cost(0, 1), 1);
        typeText(x, "so a;");
        due("proof", x.proof(), 1);
        due("cost stays", x.cost(5, 1), 1);
    }

    private static void least() {
        of("LEAST: the WORLD (what = 0), its cost (1); NONE. BAD.");
        TruthSums x = withGiven("b>=1;");
        x.cost(1, 99);
        due("least(-1)", x.least(-1), BAD);
        due("least(0)", x.least(0), 2);
        due("least(1)", x.least(1), 99);
        due("least(2)", x.least(2), BAD);
        TruthSums none = withGiven("a>=2;");
        due("none, -1", none.least(-1), BAD);
        due("none, 0", none.least(0), NONE);
        due("none, 1", none.least(1), NONE);
        due("none, 2", none.least(2), BAD);
    }

    private static void fit() {
        of("FIT: WEIGHT of a, b, c (what = 0 .. 2), DEGREE (3), all WEIGHTS together (4); NO: NONE, or BAD.");
        TruthSums x = new TruthSums();
        // not a, and b or not c
        int table = 0x45;
        due("what = -1", x.fit(table, -1), NO);
        due("what = 0", x.fit(table, 0), -2);
        due("what = 1", x.fit(table, 1), 1);
        due("what = 2", x.fit(table, 2), -1);
        due("what = 3", x.fit(table, 3), 3);
        due("what = 4", x.fit(table, 4), 4);
        due("what = 5", x.fit(table, 5), NO);
        due("table = -1", x.fit(-1, 3), NO);
        due("table = 0", x.fit(0, 3), 1);
        due("table = 255", x.fit(255, 3), 0);
        due("table = 256", x.fit(256, 3), NO);
        due("no such LINE", x.fit(0x66, 3), NO);
        due("table = -256 + 1", x.fit(-255, 3), NO);
        due("table = 256 + 1", x.fit(257, 3), NO);
    }

    private static void count() {
        of("0 GIVEN, 1 LINES of THE PROOF, 2 STEPS of THE PROOF, 3 TRUE WORLDS, 4 bytes of THE TEXT. BAD.");
        TruthSums x = inTheMiddle();
        due("count(-1)", x.count(-1), BAD);
        due("count(0)", x.count(0), 2);
        due("count(1)", x.count(1), 2);
        due("count(2)", x.count(2), 4);
        due("count(3)", x.count(3), 24);
        due("count(4)", x.count(4), 2);
        due("count(5)", x.count(5), BAD);
        TruthSums full = withProof(EIGHT, TWELVE + TWELVE, 24);
        typeText(full, " ".repeat(400));
        due("count(0) at most", full.count(0), 8);
        due("count(1) at most", full.count(1), 24);
        due("count(2) at most", full.count(2), 24);
        due("count(4) at most", full.count(4), 400);
        due("count(3) at most", new TruthSums().count(3), 64);
        due("count(3) at least", withGiven("a>=2;").count(3), 0);
        due("count(3) of WORLD 63", withGiven("a+b+c+d+e+f>=6;").count(3), 1);
    }
}

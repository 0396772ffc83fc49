/** For each promise of the document: ordinary inputs, the edges that it names, and wrong inputs. */
public final class PromisesTest {
    private static int failures = 0;
    private static String about = "";

    public static void main(String[] args) {
        newObject();
        type();
        clear();
        given();
        givenFaults();
        tokens();
        proof();
        proofFaults();
        steps();
        wrong();
        claims();
        line();
        holds();
        broken();
        end();
        both();
        forced();
        forcedOrder();
        trues();
        told();
        tight();
        needed();
        covers();
        cost();
        least();
        fit();
        count();
        System.out.println(failures == 0 ? "all promises are kept" : failures + " answers are not as due");
        if (failures != 0) {
            System.exit(1);
        }
    }

    private static void due(String call, long got, long want) {
        if (got != want) {
            failures++;
            System.out.println(about + ": " + call + " answered " + got + ", due is " + want);
        }
    }

    /** Eight bytes a call, so that no object comes near its 512 calls. */
    private static void typeText(TruthSums x, String text) {
        for (int at = 0; at < text.length(); at += 8) {
            int n = Math.min(8, text.length() - at);
            long v = 0;
            for (int k = 0; k < n; k++) {
                v = v << 8 | text.charAt(at + k);
            }
            x.type(v, n);
        }
    }

    private static TruthSums withGiven(String text) {
        TruthSums x = new TruthSums();
        typeText(x, text);
        if (x.given() < 0) {
            failures++;
            System.out.println(about + ": GIVEN is refused: " + text);
        }
        return x;
    }

    private static TruthSums withProof(String given, String proof) {
        TruthSums x = withGiven(given);
        typeText(x, proof);
        if (x.proof() < 0) {
            failures++;
            System.out.println(about + ": THE PROOF is refused: " + proof);
        }
        return x;
    }

    private static int answerGiven(String text) {
        TruthSums x = new TruthSums();
        typeText(x, text);
        return x.given();
    }

    private static int answerProof(String given, String text) {
        TruthSums x = withGiven(given);
        typeText(x, text);
        return x.proof();
    }

    private static void dueFault(String text, int place) {
        due("given of '" + text + "'", answerGiven(text), -10 - place);
    }

    private static void dueProofFault(String given, String text, int place) {
        due("proof of '" + text + "'", answerProof(given, text), -10 - place);
    }

    private static void dueLine(TruthSums x, int i, int... want) {
        for (int letter = 0; letter < want.length - 1; letter++) {
            due("line(" + i + ", " + letter + ")", x.line(i, letter), want[letter]);
        }
        due("line(" + i + ", 6)", x.line(i, 6), want[want.length - 1]);
    }

    private static void newObject() {
        about = "1 a new object";
        TruthSums x = new TruthSums();
        for (int what = 0; what < 5; what++) {
            due("count(" + what + ")", x.count(what), what == 3 ? 64 : 0);
        }
        due("line(0, 0)", x.line(0, 0), TruthSums.NO);
        due("end()", x.end(), TruthSums.NONE);
        due("wrong(0)", x.wrong(0), TruthSums.NONE);
        due("wrong(1)", x.wrong(1), TruthSums.NONE);
        due("trues()", x.trues(), -1L);
        due("clear()", x.clear(), 0);
        due("forced(0, 0, 0, 2)", x.forced(0, 0, 0, 2), 0);
        due("least(0)", x.least(0), 0);
        due("needed(0, 0)", x.needed(0, 0), TruthSums.BAD);
        TruthSums other = withGiven("a>=1;");
        due("count(0) of one", x.count(0), 0);
        due("count(0) of another", other.count(0), 1);
    }

    private static void type() {
        about = "2 type";
        TruthSums x = new TruthSums();
        due("type(0, 0)", x.type(0, 0), TruthSums.BAD);
        due("type(0, 9)", x.type(0, 9), TruthSums.BAD);
        due("type(0, -1)", x.type(0, -1), TruthSums.BAD);
        due("type(0, MIN)", x.type(0, Integer.MIN_VALUE), TruthSums.BAD);
        due("type(0, MAX)", x.type(0, Integer.MAX_VALUE), TruthSums.BAD);
        due("count(4)", x.count(4), 0);
        // the bytes above the lowest four are none of them
        due("type a>=1", x.type(0x7f7f7f7f613e3d31L, 4), 4);
        due("type ;", x.type(-256L + ';', 1), 5);
        due("given()", x.given(), 1);
        due("line(0, 0)", x.line(0, 0), 1);
        for (int k = 1; k <= 49; k++) {
            due("type of eight", x.type(0x2020202020202020L, 8), 8 * k);
        }
        due("type(.., 8) at 392", x.type(0x2020202020202020L, 8), 400);
        due("type(.., 1) at 400", x.type(' ', 1), TruthSums.FULL);
        due("type(.., 9) at 400", x.type(' ', 9), TruthSums.BAD);
        due("type(.., 0) at 400", x.type(' ', 0), TruthSums.BAD);
        due("count(4)", x.count(4), 400);
        due("given() of 400 blanks", x.given(), 0);
        typeText(x, " ".repeat(394));
        due("type(.., 7) at 394", x.type(0L, 7), TruthSums.FULL);
        due("type(.., 6) at 394", x.type(0x20613e3d313bL, 6), 400);
        due("given() of 400 bytes", x.given(), 1);
        TruthSums y = new TruthSums();
        due("type(-1, 8)", y.type(-1L, 8), 8);
        due("given() of bytes 255", y.given(), -10);
    }

    private static void clear() {
        about = "3 clear";
        TruthSums x = withProof("a>=1;", "trim 0;");
        typeText(x, "xyz");
        due("clear()", x.clear(), 3);
        due("clear()", x.clear(), 0);
        due("count(4)", x.count(4), 0);
        due("count(0)", x.count(0), 1);
        due("count(1)", x.count(1), 1);
        typeText(x, "b>=0;");
        due("given()", x.given(), 1);
        dueLine(x, 0, 0, 1, 0, 0, 0, 0, 0);
    }

    private static void given() {
        about = "4 given";
        TruthSums x = withGiven("99a+!b+98!c+1d+e+7f>=999;f>=0;");
        due("count(0)", x.count(0), 2);
        due("count(4)", x.count(4), 0);
        dueLine(x, 0, 99, -1, -98, 1, 1, 7, 999);
        dueLine(x, 1, 0, 0, 0, 0, 0, 1, 0);
        typeText(x, "times 0 999;");
        due("proof()", x.proof(), -18);
        x.clear();
        typeText(x, "trim 0;times 0 99;times 3 99;");
        due("proof()", x.proof(), 2);
        due("wrong(0)", x.wrong(0), 2);
        typeText(x, "b>=1;b>=");
        due("given() with a FAULT", x.given(), -18);
        due("count(4)", x.count(4), 8);
        due("count(0)", x.count(0), 2);
        due("count(1)", x.count(1), 2);
        due("count(2)", x.count(2), 3);
        due("wrong(0)", x.wrong(0), 2);
        dueLine(x, 0, 99, -1, -98, 1, 1, 7, 999);
        typeText(x, "2;");
        due("given()", x.given(), 2);
        dueLine(x, 1, 0, 1, 0, 0, 0, 0, 2);
        due("count(1)", x.count(1), 0);
        due("count(2)", x.count(2), 0);
        due("wrong(0)", x.wrong(0), TruthSums.NONE);
        due("wrong(1)", x.wrong(1), TruthSums.NONE);
        due("line(2, 0)", x.line(2, 0), TruthSums.NO);
        due("given() of nothing", x.given(), 0);
        due("count(0)", x.count(0), 0);
        due("eight LINES", answerGiven("a>=0;b>=0;c>=0;d>=0;e>=0;f>=0;a>=1;b>=1;"), 8);
        due("eight LINES and blanks", answerGiven(" a>=0;b>=0;c>=0;d>=0;e>=0;f>=0;a>=1;b>=1;  "), 8);
    }

    private static void givenFaults() {
        about = "4 given, FAULT";
        dueFault("a>=0;b>=0;c>=0;d>=0;e>=0;f>=0;a>=1;b>=1; c>=1;", 41);
        dueFault("a>=0;b>=0;c>=0;d>=0;e>=0;f>=0;a>=1;b>=1;;", 40);
        dueFault("a", 1);
        dueFault("a  ", 3);
        dueFault("a>=1", 4);
        dueFault("2", 1);
        dueFault("!", 1);
        dueFault("a+", 2);
        dueFault(">=1;", 0);
        dueFault(";", 0);
        dueFault("a>=1;;", 5);
        dueFault("a b>=1;", 2);
        dueFault("a+b>=;", 5);
        dueFault("a>=b;", 3);
        dueFault("a>=1 b;", 5);
        dueFault("a>=-1;", 3);
        dueFault("0a>=1;", 0);
        dueFault("a+0b>=1;", 2);
        dueFault("a+100b>=1;", 2);
        dueFault("!2a>=1;", 1);
        dueFault("!!a>=1;", 1);
        dueFault("2 3a>=1;", 2);
        dueFault("a+2!a>=1;", 4);
        dueFault("a+b+c+d+e+f+a>=1;", 12);
        dueFault("a+!g>=1;", 3);
        dueFault("add>=1;", 0);
        dueFault("a>=1;b>=x;@", 8);
    }

    private static void tokens() {
        about = "TOKENS";
        due("blanks between", answerGiven("  2  !  a  +  b  >=  3  ;  "), 1);
        dueFault("a> =1;", 1);
        dueFault("a=1;", 1);
        dueFault("a>", 1);
        dueFault("a>==1;", 3);
        dueFault("a>=1000;", 3);
        dueFault("a>=99999999999999999999;", 3);
        dueFault("a>=4294967297;", 3);
        dueFault("a>=01;", 3);
        dueFault("a>=00;", 3);
        dueFault("05a>=1;", 0);
        dueFault("ab>=1;", 0);
        dueFault("az>=1;", 0);
        dueFault("A>=1;", 0);
        dueFault("\ta>=1;", 0);
        dueFault("a\n>=1;", 1);
        dueFault("a" + (char) 160 + ">=1;", 1);
        dueFault("a>=1" + (char) 0, 4);
        due("a>=0;", answerGiven("a>=0;"), 1);
        due("a>=999;", answerGiven("a>=999;"), 1);
        due("add0 0;", answerProof("a>=1;", "add0 0;"), 1);
        dueProofFault("a>=1;", "soa;", 0);
        dueProofFault("a>=1;", "so aa;", 3);
        dueProofFault("a>=1;", "add 00;", 4);
    }

    private static void proof() {
        about = "5 proof";
        TruthSums x = withGiven("a+b>=1;");
        due("proof() of nothing", x.proof(), 0);
        typeText(x, "so a;so b;add 1 2;");
        due("proof()", x.proof(), 3);
        due("count(4)", x.count(4), 0);
        dueLine(x, 3, 1, 1, 0, 0, 0, 0, 0);
        typeText(x, "not c;add 0 2;");
        due("proof() with a FAULT", x.proof(), -22);
        due("count(4)", x.count(4), 14);
        due("count(1)", x.count(1), 3);
        dueLine(x, 1, 1, 0, 0, 0, 0, 0, 0);
        x.clear();
        typeText(x, "not c;add 0 1;");
        due("proof() anew", x.proof(), 2);
        dueLine(x, 1, 0, 0, -1, 0, 0, 0, 0);
        dueLine(x, 2, 1, 1, -1, 0, 0, 0, 1);
        due("line(3, 0)", x.line(3, 0), TruthSums.NO);
        due("proof() of nothing", x.proof(), 0);
        due("count(0)", x.count(0), 1);
        due("count(1)", x.count(1), 0);
        due("count(2)", x.count(2), 0);
        due("line(1, 0)", x.line(1, 0), TruthSums.NO);
        String twelve = "so a;so b;so c;so d;so e;so f;so a;so b;so c;so d;so e;so f;";
        due("24 STEPS", answerProof("a>=0;b>=0;c>=0;d>=0;e>=0;f>=0;a>=1;b>=1;", twelve + twelve), 24);
        dueProofFault("", twelve + twelve + " so a;", 121);
        dueProofFault("", twelve + twelve + "@", 120);
        dueProofFault("", twelve + twelve + ";", 120);
        String last = twelve + twelve.substring(0, 55) + "add 30 30;";
        due("a 24th STEP of LINE 30", answerProof("a>=0;b>=0;c>=0;d>=0;e>=0;f>=0;a>=1;b>=1;", last), 24);
        dueProofFault("a>=0;b>=0;c>=0;d>=0;e>=0;f>=0;a>=1;b>=1;", last.replace("30;", "31;"), 122);
    }

    private static void proofFaults() {
        about = "5 proof, FAULT";
        String g = "a>=1;b>=1;";
        dueProofFault(g, "add 0 2;", 6);
        dueProofFault(g, "add 2 0;", 4);
        dueProofFault(g, "so a;add 2 3;", 11);
        dueProofFault(g, "add 0;", 5);
        dueProofFault(g, "add 0 1", 7);
        dueProofFault(g, "add 0 1 1;", 8);
        dueProofFault(g, "add a 1;", 4);
        dueProofFault(g, "times 0 0;", 8);
        dueProofFault(g, "times 0 100;", 8);
        dueProofFault(g, "times 2 1;", 6);
        dueProofFault(g, "times 0 a;", 8);
        due("times 0 1;times 0 99;", answerProof(g, "times 0 1;times 0 99;"), 2);
        dueProofFault(g, "cut 0 0;", 6);
        dueProofFault(g, "cut 0 1;", 6);
        dueProofFault(g, "cut 0 100;", 6);
        dueProofFault(g, "cut 2 2;", 4);
        due("cut 0 2;cut 0 99;", answerProof(g, "cut 0 2;cut 0 99;"), 2);
        dueProofFault(g, "trim 2;", 5);
        dueProofFault(g, "trim;", 4);
        dueProofFault(g, "trim 0 0;", 7);
        dueProofFault(g, "drop 0 1;", 7);
        dueProofFault(g, "drop 0 g;", 7);
        dueProofFault(g, "drop 2 a;", 5);
        dueProofFault(g, "drop a 0;", 5);
        dueProofFault(g, "so 0;", 3);
        dueProofFault(g, "so !a;", 3);
        dueProofFault(g, "not so;", 4);
        dueProofFault(g, "not", 3);
        dueProofFault(g, "claim;", 5);
        dueProofFault(g, "claim a+a>=1;", 8);
        dueProofFault(g, "claim 0;", 6);
        dueProofFault(g, "claim 2;", 7);
        dueProofFault(g, "claim a>=1 0;", 11);
        dueProofFault(g, "a>=1;", 0);
        dueProofFault(g, "0;", 0);
        dueProofFault(g, ";", 0);
        dueProofFault(g, "trim 0;;", 7);
        dueProofFault(g, "adds 0 1;", 0);
        // what is WRONG is told all the same: LINES behind it may be named
        due("claim a+b>=3;trim 2;", answerProof(g, "claim a+b>=3;trim 2;"), 0);
    }

    private static void steps() {
        about = "5 STEPS";
        TruthSums x = withProof("5a+3!b+2c>=4;2!a+4!b+3d>=3;2a+!b>=0;",
                "add 0 1;add 0 0;times 0 7;cut 0 2;cut 0 99;trim 0;drop 0 a;drop 0 b;drop 0 f;so f;not e;"
                        + "trim 2;cut 2 2;add 11 2;drop 2 a;times 2 99;");
        dueLine(x, 3, 3, -7, 2, 3, 0, 0, 5);
        dueLine(x, 4, 10, -6, 4, 0, 0, 0, 8);
        dueLine(x, 5, 35, -21, 14, 0, 0, 0, 28);
        dueLine(x, 6, 3, -2, 1, 0, 0, 0, 2);
        dueLine(x, 7, 1, -1, 1, 0, 0, 0, 1);
        dueLine(x, 8, 4, -3, 2, 0, 0, 0, 4);
        dueLine(x, 9, 0, -3, 2, 0, 0, 0, 0);
        dueLine(x, 10, 5, 0, 2, 0, 0, 0, 1);
        dueLine(x, 11, 5, -3, 2, 0, 0, 0, 4);
        dueLine(x, 12, 0, 0, 0, 0, 0, 1, 0);
        dueLine(x, 13, 0, 0, 0, 0, -1, 0, 0);
        dueLine(x, 14, 0, 0, 0, 0, 0, 0, 0);
        dueLine(x, 15, 1, -1, 0, 0, 0, 0, 0);
        dueLine(x, 16, 7, -4, 2, 0, 0, 0, 4);
        dueLine(x, 17, 0, -1, 0, 0, 0, 0, 0);
        dueLine(x, 18, 198, -99, 0, 0, 0, 0, 0);
        // DEGREES added are less than what goes: 0 at least; equal WEIGHTS go wholly
        TruthSums y = withProof("3a>=1;3!a>=1;", "add 0 1;add 0 2;");
        dueLine(y, 2, 0, 0, 0, 0, 0, 0, 0);
        dueLine(y, 3, 3, 0, 0, 0, 0, 0, 1);
    }

    private static void wrong() {
        about = "6 wrong";
        TruthSums x = withProof("a>=999;", "times 0 99;add 1 0;times 0 2;add 2 3;");
        due("wrong(0)", x.wrong(0), 3);
        due("wrong(1)", x.wrong(1), 1);
        due("wrong(2)", x.wrong(2), TruthSums.BAD);
        due("wrong(-1)", x.wrong(-1), TruthSums.BAD);
        due("count(1)", x.count(1), 3);
        dueLine(x, 2, 100, 0, 0, 0, 0, 0, 99900);
        TruthSums y = withProof("99a+b>=1;33c>=999;c>=99;", "times 0 99;times 0 2;add 3 4;so a;drop 0 b;");
        due("wrong(0) at 9999", y.wrong(0), TruthSums.NONE);
        due("line(5, 0)", y.line(5, 0), 9999);
        typeText(y, "times 0 99;times 0 2;add 3 4;so a;add 5 6;so b;");
        due("proof()", y.proof(), 4);
        due("wrong(0) at 10000", y.wrong(0), 4);
        due("wrong(1) at 10000", y.wrong(1), 1);
        due("count(2)", y.count(2), 6);
        due("line(7, 0)", y.line(7, 0), TruthSums.NO);
        TruthSums z = withProof("99!a>=1;", "times 0 99;times 0 2;add 1 2;not a;add 3 4;");
        due("line(3, 0)", z.line(3, 0), -9999);
        due("wrong(0) at -10000", z.wrong(0), 4);
        TruthSums d = withProof("a>=999;a>=99;b>=1;", "times 0 99;add 0 3;add 1 4;add 2 5;");
        due("line(5, 6)", d.line(5, 6), 99999);
        due("wrong(0) at 100000", d.wrong(0), 3);
        due("wrong(1) at 100000", d.wrong(1), 1);
        typeText(d, "so a;");
        due("proof()", d.proof(), 1);
        due("wrong(0) of a right one", d.wrong(0), TruthSums.NONE);
        due("wrong(1) of a right one", d.wrong(1), TruthSums.NONE);
    }

    private static void claims() {
        about = "6 claim";
        TruthSums x = withProof("a+b>=1;!a+b>=1;", "claim b>=1;claim a+b>=1;claim a>=1;so a;");
        due("wrong(0)", x.wrong(0), 2);
        due("wrong(1)", x.wrong(1), 2);
        due("count(1)", x.count(1), 2);
        due("count(2)", x.count(2), 4);
        // told in all worlds, but not forced: each opposite alone leaves both letters open
        due("what is told, not forced", answerProof("a+b>=1;a+!b>=1;!a+b+c>=1;!a+!b+c>=1;", "claim c>=1;"), 0);
        due("with a claim ahead", answerProof("a+b>=1;a+!b>=1;!a+b+c>=1;!a+!b+c>=1;", "claim a>=1;claim c>=1;"), 2);
        due("of nothing", answerProof("", "claim a>=0;claim a+!b>=0;claim a>=1;"), 2);
        due("beyond its WEIGHTS", answerProof("b>=1;", "claim a>=999;"), 0);
        due("where LINES CLASH", answerProof("b>=2;", "claim a>=999;claim !f>=1;"), 2);
        TruthSums y = withProof("a>=1;!a>=1;", "so a;add 0 1;");
        typeText(y, "a>=0;b>=0;");
        y.given();
        typeText(y, "claim c>=1;");
        due("with no LINES of an earlier proof", y.proof(), 0);
        due("heavy", answerProof("3a+2b+c>=5;", "claim a+b>=2;claim 2a+b>=3;claim a+b+c>=3;"), 2);
    }

    private static void line() {
        about = "7 line";
        TruthSums x = withProof("2a+!f>=3;", "times 0 2;");
        due("line(0, 0)", x.line(0, 0), 2);
        due("line(0, 5)", x.line(0, 5), -1);
        due("line(0, 6)", x.line(0, 6), 3);
        due("line(1, 6)", x.line(1, 6), 6);
        due("line(0, 7)", x.line(0, 7), TruthSums.NO);
        due("line(0, -1)", x.line(0, -1), TruthSums.NO);
        due("line(2, 0)", x.line(2, 0), TruthSums.NO);
        due("line(-1, 0)", x.line(-1, 0), TruthSums.NO);
        due("line(MAX, 0)", x.line(Integer.MAX_VALUE, 0), TruthSums.NO);
        due("line(MIN, MIN)", x.line(Integer.MIN_VALUE, Integer.MIN_VALUE), TruthSums.NO);
    }

    private static void holds() {
        about = "8 holds";
        TruthSums x = withGiven("f>=1;!a>=1;a>=0;a>=2;2a+b+!c>=3;");
        due("holds(0)", x.holds(0), 0xffffffff00000000L);
        due("holds(1)", x.holds(1), 0x5555555555555555L);
        due("holds(2)", x.holds(2), -1L);
        due("holds(3)", x.holds(3), 0L);
        // a with b or without c: 1, 3, 7 of each eight
        due("holds(4)", x.holds(4), 0x8a8a8a8a8a8a8a8aL);
        due("holds(5)", x.holds(5), 0L);
        due("holds(-1)", x.holds(-1), 0L);
    }

    private static void broken() {
        about = "9 broken";
        TruthSums x = withGiven("2a+3!b>=5;2a+3!b>=6;a>=0;");
        due("broken(0)", x.broken(0), 0);
        due("broken(1)", x.broken(1), 1);
        due("broken(2)", x.broken(2), 0);
        due("broken(3)", x.broken(3), TruthSums.BAD);
        due("broken(-1)", x.broken(-1), TruthSums.BAD);
    }

    private static void end() {
        about = "10 end";
        due("none", withGiven("a>=1;!a>=1;").end(), TruthSums.NONE);
        due("of THE PROOF", withProof("a>=1;!a>=1;", "trim 0;add 0 1;add 0 1;").end(), 3);
        due("of GIVEN", withGiven("a>=1;b>=2;c>=2;").end(), 1);
        TruthSums x = withProof("a>=1;!a>=1;b>=0;", "claim b>=1;");
        due("a claim by what clashes", x.count(1), 1);
        // a WRONG one is no LINE, though it would be BROKEN
        due("of what is WRONG", withProof("a>=1;", "claim b>=2;").end(), TruthSums.NONE);
    }

    private static void both() {
        about = "11 both";
        TruthSums x = withGiven("a+b>=1;2a+3b>=2;a>=1;a>=2;");
        due("both(0, 1, 0)", x.both(0, 1, 0), 1);
        due("both(0, 2, 0)", x.both(0, 2, 0), 0);
        due("both(2, 2, 0)", x.both(2, 2, 0), 1);
        due("both(0, 1, 1)", x.both(0, 1, 1), 1);
        due("both(2, 0, 1)", x.both(2, 0, 1), 1);
        due("both(0, 2, 1)", x.both(0, 2, 1), 0);
        due("both(3, 2, 1)", x.both(3, 2, 1), 1);
        due("both(2, 3, 1)", x.both(2, 3, 1), 0);
        due("both(0, 1, 2)", x.both(0, 1, 2), TruthSums.BAD);
        due("both(0, 1, -1)", x.both(0, 1, -1), TruthSums.BAD);
        due("both(4, 0, 0)", x.both(4, 0, 0), TruthSums.BAD);
        due("both(0, 4, 1)", x.both(0, 4, 1), TruthSums.BAD);
        due("both(-1, 0, 0)", x.both(-1, 0, 0), TruthSums.BAD);
    }

    private static void forced() {
        about = "12 forced";
        TruthSums x = withGiven("3a+2!b+c>=4;b+d>=1;!d+e>=1;");
        due("of no LINES", x.forced(0, 5, 2, 0), 5);
        due("of no LINES", x.forced(0, 5, 2, 1), 2);
        due("of no LINES", x.forced(0, 5, 2, 2), 0);
        due("a is forced", x.forced(3, 0, 0, 0), 1);
        due("nothing else", x.forced(3, 0, 0, 1), 0);
        due("without c", x.forced(3, 0, 4, 0), 1 + 8 + 16);
        due("without c", x.forced(3, 0, 4, 1), 2 + 4);
        due("without c, two LINES", x.forced(2, 0, 4, 0), 1 + 8);
        due("without a", x.forced(3, 0, 1, 2), 1);
        due("all told", x.forced(3, 63, 0, 2), 0);
        due("all told not", x.forced(3, 0, 63, 2), 1);
        due("n = -1", x.forced(-1, 0, 0, 0), TruthSums.BAD);
        due("n = 4", x.forced(4, 0, 0, 0), TruthSums.BAD);
        due("so = 64", x.forced(3, 64, 0, 0), TruthSums.BAD);
        due("so = -1", x.forced(3, -1, 0, 0), TruthSums.BAD);
        due("not = 64", x.forced(3, 0, 64, 0), TruthSums.BAD);
        due("not = -1", x.forced(3, 0, -1, 0), TruthSums.BAD);
        due("told both ways", x.forced(3, 32, 32, 0), TruthSums.BAD);
        due("what = 3", x.forced(3, 0, 0, 3), TruthSums.BAD);
        due("what = -1", x.forced(3, 0, 0, -1), TruthSums.BAD);
        typeText(x, "claim e+!c>=0;so f;");
        due("proof()", x.proof(), 2);
        due("n = 5", x.forced(5, 0, 0, 0), 1);
        due("n = 6", x.forced(6, 0, 0, 0), TruthSums.BAD);
    }

    private static void forcedOrder() {
        about = "12 forced, in order";
        // against the order: one LETTER a pass, so all six passes and the one behind them count
        TruthSums x = withGiven("!e+f>=1;!d+e>=1;!c+d>=1;!b+c>=1;!a+b>=1;a>=1;");
        due("a chain", x.forced(6, 0, 0, 0), 63);
        due("a chain", x.forced(6, 0, 0, 2), 0);
        TruthSums z = withGiven("!e+!f>=1;!e+f>=1;!d+e>=1;!c+d>=1;!b+c>=1;!a+b>=1;a>=1;");
        due("a chain to a clash", z.forced(7, 0, 0, 2), 1);
        due("a chain to a clash", z.forced(7, 0, 0, 0), 31);
        due("a chain to a clash", z.forced(7, 0, 0, 1), 32);
        // a clash in LINE 1 stops ahead of LINE 2
        TruthSums y = withGiven("a>=1;!a>=1;b>=1;");
        due("stopped", y.forced(3, 0, 0, 0), 1);
        due("stopped", y.forced(3, 0, 0, 1), 0);
        due("stopped", y.forced(3, 0, 0, 2), 1);
        // LINES go on in order and do not start anew when something is forced
        TruthSums w = withGiven("a+b>=1;!a+c>=1;!b+c>=1;");
        due("no new start", w.forced(3, 0, 4, 1), 7);
        TruthSums v = withGiven("2a+!b+c>=3;");
        due("only above SLACK", v.forced(1, 0, 0, 0), 1);
        due("only above SLACK", v.forced(1, 0, 0, 1), 0);
        due("above SLACK with b", v.forced(1, 2, 0, 0), 7);
    }

    private static void trues() {
        about = "13 trues";
        due("none GIVEN", new TruthSums().trues(), -1L);
        due("a, not b", withGiven("a>=1;!b>=1;").trues(), 0x2222222222222222L);
        due("only 63", withGiven("a+b+c+d+e+f>=6;").trues(), Long.MIN_VALUE);
        due("never", withGiven("a>=1;!a>=1;").trues(), 0L);
        due("not THE PROOF's", withProof("a>=0;a>=1;", "cut 1 2;add 1 1;drop 1 b;").trues(), 0xaaaaaaaaaaaaaaaaL);
    }

    private static void told() {
        about = "14 told";
        TruthSums x = withProof("a+b>=1;!a+b>=1;", "add 0 1;cut 2 2;so a;times 0 3;cut 0 2;");
        due("told(0)", x.told(0), 1);
        due("told(3)", x.told(3), 1);
        due("told(4)", x.told(4), 1);
        due("told(7)", x.told(7), TruthSums.BAD);
        due("told(-1)", x.told(-1), TruthSums.BAD);
        // without TRUE WORLDS all is told
        TruthSums z = withProof("a>=1;!a>=1;", "claim b>=9;");
        due("told(2)", z.told(2), 1);
        TruthSums y = withProof("a+b+c>=2;", "cut 0 2;");
        due("told(1)", y.told(1), 1);
        due("told of each GIVEN", withGiven("a+!b+c>=2;").told(0), 1);
    }

    private static void tight() {
        about = "15 tight";
        TruthSums x = withProof("a+b>=1;b+c>=1;a+c>=1;", "so a;add 0 1;add 2 4;not b;");
        due("tight(0)", x.tight(0), 1);
        due("tight(3)", x.tight(3), 0);
        due("tight(4)", x.tight(4), 2);
        due("tight(5)", x.tight(5), 4);
        due("tight(6)", x.tight(6), 0);
        due("tight(7)", x.tight(7), TruthSums.BAD);
        due("tight(-1)", x.tight(-1), TruthSums.BAD);
        due("none true", withGiven("a>=1;!a>=1;").tight(0), TruthSums.NONE);
        due("above its DEGREE", withGiven("2a+3!b>=1;a>=1;!b>=1;").tight(0), 5);
    }

    private static void needed() {
        about = "16 needed";
        TruthSums x = withProof("c>=0;a+b>=1;!a+b>=1;b+c>=2;b>=1;", "trim 4;so a;claim b+c>=2;");
        due("needed(4, 0)", x.needed(4, 0), 1);
        due("needed(4, 1)", x.needed(4, 1), 8);
        due("needed(5, 1)", x.needed(5, 1), 8);
        due("needed(6, 0)", x.needed(6, 0), 0);
        due("needed(6, 1)", x.needed(6, 1), 0);
        due("needed(7, 1)", x.needed(7, 1), 8);
        due("needed(7, 2)", x.needed(7, 2), TruthSums.BAD);
        due("needed(7, -1)", x.needed(7, -1), TruthSums.BAD);
        due("needed(8, 0)", x.needed(8, 0), TruthSums.BAD);
        due("needed(-1, 0)", x.needed(-1, 0), TruthSums.BAD);
        // two sets of two: {0, 3} is 9, {1, 2} is 6, so the lesser number is due
        TruthSums y = withProof("a+b>=1;c+b>=1;!c+b>=1;!a+b>=1;", "add 0 3;cut 4 2;");
        due("needed(5, 0)", y.needed(5, 0), 2);
        due("needed(5, 1)", y.needed(5, 1), 6);
        // fewer go ahead of a lesser number
        TruthSums z = withProof("a+b>=1;!a+b>=1;2b>=1;", "cut 2 2;");
        due("needed(3, 0)", z.needed(3, 0), 1);
        due("needed(3, 1)", z.needed(3, 1), 4);
        TruthSums all = withProof("a+b+c>=1;a+b+!c>=1;a+!b+c>=1;a+!b+!c>=1;!a+b+c>=1;!a+b+!c>=1;!a+!b+c>=1;!a+!b+!c>=1;",
                "claim a+b>=1;claim a>=1;claim !a+b>=1;claim f>=9;");
        due("all eight", all.needed(11, 0), 8);
        due("all eight", all.needed(11, 1), 255);
        // all STEPS keep what is TOLD, so no run of calls makes a LINE that is not
        TruthSums w = withGiven("a>=1;b>=1;c>=1;d>=1;e>=1;f>=1;a+b+c+d+e+f>=6;a+b>=2;");
        due("needed(6, 1)", w.needed(6, 1), 64);
        due("needed(7, 0)", w.needed(7, 0), 1);
        due("needed(7, 1)", w.needed(7, 1), 64);
    }

    private static void covers() {
        about = "17 covers";
        TruthSums x = withGiven("a+b+c>=2;3a+!b+c>=3;a>=0;a>=2;a+b>=2;a+b+c+d+e+f>=3;2!a+2f>=1;");
        due("covers(0, -1)", x.covers(0, -1), 3);
        due("covers(0, 0)", x.covers(0, 0), 3);
        due("covers(0, 1)", x.covers(0, 1), 5);
        due("covers(0, 2)", x.covers(0, 2), 6);
        due("covers(0, 3)", x.covers(0, 3), TruthSums.BAD);
        due("covers(0, -2)", x.covers(0, -2), TruthSums.BAD);
        due("covers(0, MIN)", x.covers(0, Integer.MIN_VALUE), TruthSums.BAD);
        due("covers(0, MAX)", x.covers(0, Integer.MAX_VALUE), TruthSums.BAD);
        due("covers(1, -1)", x.covers(1, -1), 1);
        due("covers(1, 0)", x.covers(1, 0), 1);
        due("covers(2, -1)", x.covers(2, -1), 0);
        due("covers(2, 0)", x.covers(2, 0), TruthSums.BAD);
        due("covers(3, -1)", x.covers(3, -1), 1);
        due("covers(3, 0)", x.covers(3, 0), 0);
        due("covers(3, 1)", x.covers(3, 1), TruthSums.BAD);
        due("covers(4, -1)", x.covers(4, -1), 2);
        due("covers(4, 0)", x.covers(4, 0), 1);
        due("covers(4, 1)", x.covers(4, 1), 2);
        due("covers(5, -1)", x.covers(5, -1), 15);
        due("covers(5, 14)", x.covers(5, 14), 60);
        due("covers(6, 0)", x.covers(6, 0), 33);
        due("covers of all LETTERS", withGiven("a+b+c+d+e+f>=1;").covers(0, 0), 63);
        due("covers(7, -1)", x.covers(7, -1), TruthSums.BAD);
        due("covers(-1, -1)", x.covers(-1, -1), TruthSums.BAD);
    }

    private static void cost() {
        about = "18 cost";
        TruthSums x = new TruthSums();
        for (int letter = 0; letter < 6; letter++) {
            due("cost(" + letter + ", ..)", x.cost(letter, 99 - letter), 0);
        }
        for (int letter = 0; letter < 6; letter++) {
            due("cost(" + letter + ", 0)", x.cost(letter, 0), 99 - letter);
        }
        due("cost(5, 99)", x.cost(5, 99), 0);
        due("cost(5, 100)", x.cost(5, 100), TruthSums.BAD);
        due("cost(5, -1)", x.cost(5, -1), TruthSums.BAD);
        due("cost(6, 0)", x.cost(6, 0), TruthSums.BAD);
        due("cost(-1, 0)", x.cost(-1, 0), TruthSums.BAD);
        typeText(x, "f>=1;");
        x.given();
        due("cost stays", x.cost(5, 1), 99);
    }

    private static void least() {
        about = "19 least";
        TruthSums x = withGiven("a+b+c>=2;!a+!b+!c>=1;");
        due("the first of several", x.least(0), 3);
        due("its cost", x.least(1), 0);
        x.cost(0, 5);
        x.cost(1, 3);
        x.cost(2, 2);
        due("least(0)", x.least(0), 6);
        due("least(1)", x.least(1), 5);
        x.cost(0, 3);
        x.cost(2, 3);
        due("all alike", x.least(0), 3);
        due("all alike", x.least(1), 6);
        due("least(2)", x.least(2), TruthSums.BAD);
        due("least(-1)", x.least(-1), TruthSums.BAD);
        TruthSums y = withGiven("a>=2;");
        due("least(0) of none", y.least(0), TruthSums.NONE);
        due("least(1) of none", y.least(1), TruthSums.NONE);
        due("least(2) of none", y.least(2), TruthSums.BAD);
        TruthSums z = withGiven("a+b+c+d+e+f>=6;");
        for (int letter = 0; letter < 6; letter++) {
            z.cost(letter, 99);
        }
        due("world 63", z.least(0), 63);
        due("world 63", z.least(1), 594);
    }

    private static void dueFit(int table, int a, int b, int c, int degree) {
        TruthSums x = new TruthSums();
        int[] want = {a, b, c, degree, Math.abs(a) + Math.abs(b) + Math.abs(c)};
        for (int what = 0; what < want.length; what++) {
            due("fit(" + table + ", " + what + ")", x.fit(table, what), want[what]);
        }
    }

    private static void fit() {
        about = "20 fit";
        dueFit(0, 0, 0, 0, 1);
        dueFit(255, 0, 0, 0, 0);
        dueFit(0xaa, 1, 0, 0, 1);
        dueFit(0x55, -1, 0, 0, 1);
        dueFit(0xf0, 0, 0, 1, 1);
        dueFit(0x80, 1, 1, 1, 3);
        dueFit(0x01, -1, -1, -1, 3);
        dueFit(0xe8, 1, 1, 1, 2);
        // a, and b or c; a, or b and c
        dueFit(0xa8, 2, 1, 1, 3);
        dueFit(0xea, 2, 1, 1, 2);
        dueFit(0x54, -2, 1, 1, 3);
        TruthSums x = new TruthSums();
        for (int what = 0; what < 5; what++) {
            due("fit(0x66, " + what + ")", x.fit(0x66, what), TruthSums.NO);
        }
        due("fit(-1, 0)", x.fit(-1, 0), TruthSums.NO);
        due("fit(256, 0)", x.fit(256, 0), TruthSums.NO);
        due("fit(1, 5)", x.fit(1, 5), TruthSums.NO);
        due("fit(1, -1)", x.fit(1, -1), TruthSums.NO);
        int found = 0;
        for (int table = 0; table < 256; table++) {
            if (new TruthSums().fit(table, 3) != TruthSums.NO) {
                found++;
            }
        }
        // so many functions of three letters are one line each
        due("tables that have one", found, 104);
    }

    private static void count() {
        about = "21 count";
        TruthSums x = withProof("a>=1;b+c>=1;", "so a;add 0 1;claim f>=1;so b;");
        typeText(x, "abc");
        due("count(0)", x.count(0), 2);
        due("count(1)", x.count(1), 2);
        due("count(2)", x.count(2), 4);
        due("count(3)", x.count(3), 24);
        due("count(4)", x.count(4), 3);
        due("count(5)", x.count(5), TruthSums.BAD);
        due("count(-1)", x.count(-1), TruthSums.BAD);
    }
}

import java.io.IOException;
import java.nio.charset.StandardCharsets;
import java.nio.file.Files;
import java.nio.file.Path;

/**
 * The bounds that the document's "Terms" name: each test says the sentence that it is of, and has the last case that is
 * taken beside the first that is not.
 */
public final class TermsBoundsTest {
    private static final Path DOCUMENT = Path.of("../shared/DOC.md");
    private static final String EIGHT = "a>=0;b>=0;c>=0;d>=0;e>=0;f>=0;a>=1;b>=1;";
    private static final String TWELVE = "so a;so b;so c;so d;so e;so f;not a;not b;not c;not d;not e;not f;";

    private static final int[] NONE_FITS = {
        TruthSums.NO, TruthSums.NO, TruthSums.NO, TruthSums.NO, TruthSums.NO,
    };

    private static int failures = 0;
    private static String document = "";
    private static String sentence = "";

    public static void main(String[] args) throws IOException {
        if (Files.exists(DOCUMENT)) {
            document = Files.readString(DOCUMENT, StandardCharsets.ISO_8859_1).replaceAll("\\s+", " ");
        }
        calls();
        letters();
        weights();
        degrees();
        broken();
        worlds();
        eightGiven();
        eachEnded();
        terms();
        toldDegrees();
        numbers();
        bangs();
        eachLetterOnce();
        twentyFourSteps();
        numberedOn();
        stepsEnded();
        toldAhead();
        addedWeights();
        addedDegrees();
        timesBounds();
        timesAll();
        cutBounds();
        cutRounded();
        trimmed();
        dropped();
        soAndNot();
        claimed();
        fourHundredBytes();
        blanks();
        words();
        numberTokens();
        signs();
        faultOfNinthAndOthers();
        faultOfTokenThatIsNone();
        faultOfTheEnd();
        wrongWeights();
        wrongDegrees();
        wrongClaims();
        behindWrong();
        forcedFromTold();
        forcedOrder();
        forcedClash();
        forcedWeights();
        forcedTillNothingIsNew();
        opposites();
        trueWorlds();
        told();
        tight();
        needed();
        covers();
        costs();
        least();
        fitTables();
        fitLines();
        fitOfAllAndNone();
        System.out.println(failures == 0 ? "all bounds of the Terms hold" : failures + " answers are not as due");
        if (failures != 0) {
            System.exit(1);
        }
    }

    /** The document's own words, so that what is tested can be found there. */
    private static void of(String words) {
        sentence = words;
        if (!document.isEmpty() && !document.contains(words)) {
            failures++;
            System.out.println("the document does not say: " + words);
        }
    }

    private static void due(String call, long got, long want) {
        if (got != want) {
            failures++;
            System.out.println("\"" + sentence + "\": " + call + " answered " + got + ", due is " + want);
        }
    }

    /** Eight bytes a call, so that no object comes near its 512 calls. */
    private static void typeText(TruthSums x, String text) {
        for (int at = 0; at < text.length(); at += 8) {
            int n = Math.min(8, text.length() - at);
            long v = 0;
            for (int k = 0; k < n; k++) {
                v = v << 8 | text.charAt(at + k);
            }
            x.type(v, n);
        }
    }

    private static TruthSums withGiven(String text) {
        TruthSums x = new TruthSums();
        typeText(x, text);
        int told = x.given();
        if (told < 0) {
            due("given of '" + text + "'", told, text.chars().filter(c -> c == ';').count());
        }
        return x;
    }

    private static TruthSums withProof(String given, String text) {
        TruthSums x = withGiven(given);
        typeText(x, text);
        int told = x.proof();
        if (told < 0) {
            due("proof of '" + text + "'", told, text.chars().filter(c -> c == ';').count());
        }
        return x;
    }

    private static void taken(String text, int lines) {
        TruthSums x = new TruthSums();
        typeText(x, text);
        due("given of '" + text + "'", x.given(), lines);
    }

    private static void fault(String text, int place) {
        TruthSums x = new TruthSums();
        typeText(x, text);
        due("given of '" + text + "'", x.given(), -10 - place);
    }

    private static void proofTaken(String given, String text, int lines) {
        TruthSums x = withGiven(given);
        typeText(x, text);
        due("proof of '" + text + "' behind '" + given + "'", x.proof(), lines);
    }

    private static void proofFault(String given, String text, int place) {
        TruthSums x = withGiven(given);
        typeText(x, text);
        due("proof of '" + text + "' behind '" + given + "'", x.proof(), -10 - place);
    }

    /** WEIGHTS of a .. f, and DEGREE. */
    private static void dueLine(TruthSums x, int i, int... want) {
        for (int letter = 0; letter < 7; letter++) {
            due("line(" + i + ", " + letter + ")", x.line(i, letter), want[letter]);
        }
    }

    private static void dueWrong(String given, String text, int step, int kind) {
        TruthSums x = withProof(given, text);
        due("wrong(0) of '" + text + "'", x.wrong(0), step);
        due("wrong(1) of '" + text + "'", x.wrong(1), kind);
        due("count(1) of '" + text + "'", x.count(1), step);
    }

    private static void dueRight(String given, String text, int lines) {
        TruthSums x = withProof(given, text);
        due("wrong(0) of '" + text + "'", x.wrong(0), TruthSums.NONE);
        due("wrong(1) of '" + text + "'", x.wrong(1), TruthSums.NONE);
        due("count(1) of '" + text + "'", x.count(1), lines);
    }

    private static void dueForced(String given, int n, int so, int not, int... want) {
        for (int what = 0; what < 3; what++) {
            due("forced(" + n + ", " + so + ", " + not + ", " + what + ") of '" + given + "'",
                    withGiven(given).forced(n, so, not, what), want[what]);
        }
    }

    private static void calls() {
        of("An object is used for at most 512 calls after it has been made; what later calls answer is free.");
        TruthSums x = new TruthSums();
        for (int k = 1; k <= 508; k++) {
            due("cost, call " + k, x.cost(5, k % 100), (k - 1) % 100);
        }
        due("type, call 509", x.type(0x663e3d313bL, 5), 5);
        due("given, call 510", x.given(), 1);
        due("least(0), call 511", x.least(0), 32);
        due("least(1), call 512", x.least(1), 8);
    }

    private static void letters() {
        of("LETTERS are a .. f (0 ..");
        dueLine(withGiven("a>=1;"), 0, 1, 0, 0, 0, 0, 0, 1);
        dueLine(withGiven("f>=1;"), 0, 0, 0, 0, 0, 0, 1, 1);
        fault("`>=1;", 0);
        fault("g>=1;", 0);
        fault("A>=1;", 0);
        proofTaken("a>=1;", "so a;not a;drop 0 a;claim a>=0;", 4);
        proofTaken("a>=1;", "so f;not f;drop 0 f;claim f>=0;", 4);
        proofFault("a>=1;", "so g;", 3);
        proofFault("a>=1;", "not g;", 4);
        proofFault("a>=1;", "drop 0 g;", 7);
        proofFault("a>=1;", "claim g>=0;", 6);
        proofFault("a>=1;", "so `;", 3);
        proofFault("a>=1;", "not `;", 4);
        proofFault("a>=1;", "drop 0 `;", 7);
        proofFault("a>=1;", "claim `>=0;", 6);
    }

    private static void weights() {
        of("A LINE has for each LETTER a WEIGHT: above 0 it weighs if the LETTER is so, below 0 as much (without its"
                + " sign) if it is not;");
        due("1 above 0", withGiven("a>=1;").holds(0), 0xaaaaaaaaaaaaaaaaL);
        due("1 below 0", withGiven("!a>=1;").holds(0), 0x5555555555555555L);
        due("as much", withGiven("99!a>=99;").holds(0), 0x5555555555555555L);
        due("not more", withGiven("98!a>=99;").holds(0), 0L);
        // b's WEIGHT is 0: it never weighs, so or not
        due("0", withProof("a+b>=2;", "drop 0 b;").holds(1), 0xaaaaaaaaaaaaaaaaL);
    }

    private static void degrees() {
        of("and a DEGREE, 0 at least: it HOLDS, if what weighs, together, is DEGREE at least.");
        due("DEGREE 0", withGiven("a>=0;").holds(0), -1L);
        due("DEGREE 1", withGiven("a>=1;").holds(0), 0xaaaaaaaaaaaaaaaaL);
        due("just DEGREE", withGiven("2a+3!b>=5;").holds(0), 0x2222222222222222L);
        due("1 below it", withGiven("2a+3!b>=6;").holds(0), 0L);
        due("just the lesser WEIGHT", withGiven("2a+3!b>=2;").holds(0), 0xbbbbbbbbbbbbbbbbL);
        due("the greater WEIGHT alone", withGiven("2a+3!b>=3;").holds(0), 0x3333333333333333L);
    }

    private static void broken() {
        of("A LINE is BROKEN, if all WEIGHTS (without signs) together are below DEGREE.");
        due("all together", withGiven("2a+3!b>=5;").broken(0), 0);
        due("1 above", withGiven("2a+3!b>=6;").broken(0), 1);
        due("all of six", withGiven("99a+99b+99!c+99!d+99e+99f>=594;").broken(0), 0);
        due("1 above six", withGiven("99a+99b+99!c+99!d+99e+99f>=595;").broken(0), 1);
        TruthSums x = withProof("2a>=1;2!a>=1;2!a>=2;", "add 0 1;add 0 2;");
        due("no WEIGHTS, DEGREE 0", x.broken(3), 0);
        due("no WEIGHTS, DEGREE 1", x.broken(4), 1);
    }

    private static void worlds() {
        of("WORLDS 0 .. 63: bit i of a WORLD is LETTER i.");
        due("WORLD 0", withGiven("!a+!b+!c+!d+!e+!f>=6;").holds(0), 1L);
        due("WORLD 1", withGiven("a+!b+!c+!d+!e+!f>=6;").holds(0), 1L << 1);
        due("WORLD 2", withGiven("!a+b+!c+!d+!e+!f>=6;").holds(0), 1L << 2);
        due("WORLD 4", withGiven("!a+!b+c+!d+!e+!f>=6;").holds(0), 1L << 4);
        due("WORLD 8", withGiven("!a+!b+!c+d+!e+!f>=6;").holds(0), 1L << 8);
        due("WORLD 16", withGiven("!a+!b+!c+!d+e+!f>=6;").holds(0), 1L << 16);
        due("WORLD 32", withGiven("!a+!b+!c+!d+!e+f>=6;").holds(0), 1L << 32);
        due("WORLD 63", withGiven("a+b+c+d+e+f>=6;").holds(0), 1L << 63);
        due("least(0) of WORLD 63", withGiven("a+b+c+d+e+f>=6;").least(0), 63);
    }

    private static void eightGiven() {
        of("GIVEN are LINES 0 .. (8 at most) told by a text: LINE ; each.");
        taken("", 0);
        taken("a>=0;", 1);
        taken(EIGHT.substring(5), 7);
        taken(EIGHT, 8);
        fault(EIGHT + "c>=1;", 40);
        fault(EIGHT + EIGHT, 40);
        TruthSums x = withGiven(EIGHT);
        dueLine(x, 0, 1, 0, 0, 0, 0, 0, 0);
        dueLine(x, 7, 0, 1, 0, 0, 0, 0, 1);
        due("line(8, 6)", x.line(8, 6), TruthSums.NO);
    }

    private static void eachEnded() {
        of("told by a text: LINE ; each.");
        taken("a>=1;b>=1;", 2);
        fault("a>=1;b>=1", 9);
        fault("a>=1 b>=1;", 5);
        fault("a>=1;;", 5);
        fault(";", 0);
        fault("a>=1+b>=1;", 4);
    }

    private static void terms() {
        of("A LINE: TERMS with + between, then >= , then DEGREE (0 .. 999);");
        taken("a>=1;", 1);
        taken("a+b>=1;", 1);
        taken("a+b+c+d+e+f>=1;", 1);
        fault(">=1;", 0);
        fault("+a>=1;", 0);
        fault("a+>=1;", 2);
        fault("a++b>=1;", 2);
        fault("a b>=1;", 2);
        fault("a;", 1);
        fault("a 1;", 2);
        fault("a>=;", 3);
        fault("a>=b;", 3);
        fault("a>=1>=1;", 4);
        fault("a>=1 1;", 5);
    }

    private static void toldDegrees() {
        of("then DEGREE (0 .. 999);");
        due("0", withGiven("a>=0;").line(0, 6), 0);
        due("1", withGiven("a>=1;").line(0, 6), 1);
        due("99", withGiven("a>=99;").line(0, 6), 99);
        due("100", withGiven("a>=100;").line(0, 6), 100);
        due("999", withGiven("a>=999;").line(0, 6), 999);
        fault("a>=1000;", 3);
        fault("a>=-1;", 3);
        fault("a>=!1;", 3);
        due("a claim's 0", withProof("", "claim a>=0;").line(0, 6), 0);
        due("a claim's 999", withProof("a>=2;", "claim a>=999;").line(1, 6), 999);
        proofFault("a>=2;", "claim a>=1000;", 9);
    }

    private static void numbers() {
        of("a TERM: perhaps a NUMBER (1 .. 99; else 1), perhaps ! , then a LETTER");
        due("1", withGiven("1a>=1;").line(0, 0), 1);
        due("99", withGiven("99a>=1;").line(0, 0), 99);
        due("none", withGiven("a>=1;").line(0, 0), 1);
        due("99!", withGiven("99!a>=1;").line(0, 0), -99);
        due("none and !", withGiven("!a>=1;").line(0, 0), -1);
        due("99 of the last", withGiven("a+99f>=1;").line(0, 5), 99);
        fault("0a>=1;", 0);
        fault("100a>=1;", 0);
        fault("a+0b>=1;", 2);
        fault("a+100b>=1;", 2);
        fault("999a>=1;", 0);
        fault("1 1a>=1;", 2);
        due("a claim's 99", withProof("", "claim 99a>=0;").line(0, 0), 99);
        proofTaken("", "claim 1a>=0;", 1);
        proofFault("", "claim 0a>=0;", 6);
        proofFault("", "claim 100a>=0;", 6);
    }

    private static void bangs() {
        of("perhaps ! , then a LETTER (each once a LINE).");
        taken("a>=1;", 1);
        taken("!a>=1;", 1);
        fault("!!a>=1;", 1);
        fault("!2a>=1;", 1);
        fault("a!>=1;", 1);
        fault("!>=1;", 1);
        fault("2>=1;", 1);
        fault("2!>=1;", 2);
    }

    private static void eachLetterOnce() {
        of("then a LETTER (each once a LINE).");
        taken("a+b+c+d+e+f>=1;", 1);
        taken("f+e+d+c+b+a>=1;", 1);
        taken("a>=1;a>=1;", 2);
        fault("a+a>=1;", 2);
        fault("a+!a>=1;", 3);
        fault("a+99!a>=1;", 5);
        fault("f+e+d+c+b+a+f>=1;", 12);
        fault("a>=1;b+c+b>=1;", 9);
        proofTaken("a>=1;", "claim a>=1;claim a>=1;", 2);
        proofFault("a>=1;", "claim a+b+a>=1;", 10);
    }

    private static void twentyFourSteps() {
        of("THE PROOF (24 STEPS at most) is a text, too;");
        proofTaken("", "", 0);
        proofTaken("", "so a;", 1);
        proofTaken("", TWELVE + TWELVE.substring(5), 23);
        proofTaken("", TWELVE + TWELVE, 24);
        proofFault("", TWELVE + TWELVE + "so a;", 132);
        proofTaken(EIGHT, TWELVE + TWELVE, 24);
        proofFault(EIGHT, TWELVE + TWELVE + "so a;", 132);
        due("count(2)", withProof("", TWELVE + TWELVE).count(2), 24);
    }

    private static void numberedOn() {
        of("its LINES are numbered on behind GIVEN:");
        dueLine(withProof("", "so b;"), 0, 0, 1, 0, 0, 0, 0, 0);
        dueLine(withProof("a>=1;", "so b;"), 1, 0, 1, 0, 0, 0, 0, 0);
        TruthSums x = withProof(EIGHT, TWELVE + TWELVE);
        dueLine(x, 8, 1, 0, 0, 0, 0, 0, 0);
        dueLine(x, 31, 0, 0, 0, 0, 0, -1, 0);
        due("line(32, 0)", x.line(32, 0), TruthSums.NO);
    }

    private static void stepsEnded() {
        of("STEPS, each ended by ; (I, J: LINES told ahead of it):");
        proofTaken("a>=1;", "so a;trim 0;", 2);
        proofFault("a>=1;", "so a;trim 0", 11);
        proofFault("a>=1;", "so a trim 0;", 5);
        proofFault("a>=1;", "so a;;", 5);
        proofFault("a>=1;", ";", 0);
        proofFault("a>=1;", "add 0 0 0;", 8);
        proofFault("a>=1;", "times 0 1 1;", 10);
        proofFault("a>=1;", "cut 0 2 2;", 8);
        proofFault("a>=1;", "trim 0 0;", 7);
        proofFault("a>=1;", "drop 0 a a;", 9);
        proofFault("a>=1;", "so a a;", 5);
        proofFault("a>=1;", "not a a;", 6);
        proofFault("a>=1;", "claim a>=1 a;", 11);
        proofFault("a>=1;", "add 0;", 5);
        proofFault("a>=1;", "times 0;", 7);
        proofFault("a>=1;", "cut 0;", 5);
        proofFault("a>=1;", "trim;", 4);
        proofFault("a>=1;", "drop 0;", 6);
        proofFault("a>=1;", "so;", 2);
        proofFault("a>=1;", "not;", 3);
        proofFault("a>=1;", "claim;", 5);
    }

    private static void toldAhead() {
        of("(I, J: LINES told ahead of it)");
        String two = "a>=1;b>=1;";
        proofTaken(two, "add 1 0;add 0 1;times 1 1;cut 1 2;trim 1;drop 1 a;", 6);
        proofFault(two, "add 2 0;", 4);
        proofFault(two, "add 0 2;", 6);
        proofFault(two, "times 2 1;", 6);
        proofFault(two, "cut 2 2;", 4);
        proofFault(two, "trim 2;", 5);
        proofFault(two, "drop 2 a;", 5);
        // a STEP's own LINE is not ahead of it, the one of the STEP ahead is
        proofTaken(two, "so a;add 2 2;add 3 3;times 4 1;cut 5 2;trim 6;drop 7 a;", 7);
        proofFault(two, "so a;add 3 0;", 9);
        proofFault(two, "so a;add 0 3;", 11);
        proofFault(two, "so a;times 3 1;", 11);
        proofFault(two, "so a;cut 3 2;", 9);
        proofFault(two, "so a;trim 3;", 10);
        proofFault(two, "so a;drop 3 a;", 10);
        proofFault("", "trim 0;", 5);
        proofTaken("", "so a;trim 0;", 2);
        proofFault(two, "trim 999;", 5);
        String most = TWELVE + TWELVE.substring(0, 60);
        proofTaken(EIGHT, most + "add 30 30;", 24);
        proofFault(EIGHT, most + "add 31 30;", 130);
        proofFault(EIGHT, most + "add 30 31;", 133);
    }

    private static void addedWeights() {
        of("add I J: WEIGHTS added (with their signs);");
        TruthSums x = withProof("5a+3!b+2c+4!d>=0;2a+3!b+2!c+5d>=0;", "add 0 1;add 1 0;add 0 0;");
        dueLine(x, 2, 7, -6, 0, 1, 0, 0, 0);
        dueLine(x, 3, 7, -6, 0, 1, 0, 0, 0);
        dueLine(x, 4, 10, -6, 4, -8, 0, 0, 0);
    }

    private static void addedDegrees() {
        of("DEGREES added, less, for each LETTER whose WEIGHTS have unlike signs, the lesser of both (without signs);"
                + " 0 at least.");
        dueLine(withProof("3a>=9;2!a>=9;", "add 0 1;"), 2, 1, 0, 0, 0, 0, 0, 16);
        dueLine(withProof("2a>=9;3!a>=9;", "add 0 1;"), 2, -1, 0, 0, 0, 0, 0, 16);
        dueLine(withProof("3!a>=9;3a>=9;", "add 0 1;"), 2, 0, 0, 0, 0, 0, 0, 15);
        dueLine(withProof("3a>=9;2a>=9;", "add 0 1;"), 2, 5, 0, 0, 0, 0, 0, 18);
        dueLine(withProof("3!a>=9;2!a>=9;", "add 0 1;"), 2, -5, 0, 0, 0, 0, 0, 18);
        // the least WEIGHTS that have signs
        dueLine(withProof("a>=9;!a>=9;", "add 0 1;add 1 0;"), 2, 0, 0, 0, 0, 0, 0, 17);
        dueLine(withProof("a>=9;!a>=9;", "add 0 1;add 1 0;"), 3, 0, 0, 0, 0, 0, 0, 17);
        dueLine(withProof("a>=9;a>=9;", "add 0 1;"), 2, 2, 0, 0, 0, 0, 0, 18);
        // a WEIGHT of 0 has no sign that is unlike
        dueLine(withProof("3a>=9;2!b>=9;", "add 0 1;"), 2, 3, -2, 0, 0, 0, 0, 18);
        dueLine(withProof("3a+2!b+f>=9;2!a+3b+!f>=9;", "add 0 1;"), 2, 1, 1, 0, 0, 0, 0, 13);
        due("1 more than goes", withProof("5a>=3;5!a>=3;", "add 0 1;").line(2, 6), 1);
        due("just what goes", withProof("5a>=3;5!a>=2;", "add 0 1;").line(2, 6), 0);
        due("1 less than goes", withProof("5a>=2;5!a>=2;", "add 0 1;").line(2, 6), 0);
        due("much less than goes", withProof("99a+99b>=0;99!a+99!b>=0;", "add 0 1;").line(2, 6), 0);
        // what goes first is less than 0 on the way, and all of it still counts
        due("below 0 on the way", withProof("99a+b>=50;99!a+b>=50;", "add 0 1;").line(2, 6), 1);
    }

    private static void timesBounds() {
        of("times I N (1 .. 99): all N times.");
        proofFault("a>=1;", "times 0 0;", 8);
        proofTaken("a>=1;", "times 0 1;", 1);
        proofTaken("a>=1;", "times 0 99;", 1);
        proofFault("a>=1;", "times 0 100;", 8);
        proofFault("a>=1;", "times 0 a;", 8);
    }

    private static void timesAll() {
        of("times I N (1 .. 99): all N times.");
        TruthSums x = withProof("99a+2!b+f>=999;a>=0;", "times 0 1;times 0 99;times 1 99;");
        dueLine(x, 2, 99, -2, 0, 0, 0, 1, 999);
        dueLine(x, 3, 9801, -198, 0, 0, 0, 99, 98901);
        dueLine(x, 4, 99, 0, 0, 0, 0, 0, 0);
    }

    private static void cutBounds() {
        of("cut I N (2 .. 99): each WEIGHT (its sign stays) and DEGREE by N, rounded up.");
        proofFault("a>=1;", "cut 0 0;", 6);
        proofFault("a>=1;", "cut 0 1;", 6);
        proofTaken("a>=1;", "cut 0 2;", 1);
        proofTaken("a>=1;", "cut 0 99;", 1);
        proofFault("a>=1;", "cut 0 100;", 6);
        proofFault("a>=1;", "cut 0 a;", 6);
    }

    private static void cutRounded() {
        of("each WEIGHT (its sign stays) and DEGREE by N, rounded up.");
        TruthSums x = withProof("a+2b+3c+4!d+5!e+6!f>=7;98a+99b+98!c+99!d>=0;a>=98;a>=99;a>=100;",
                "cut 0 3;cut 0 2;cut 1 99;cut 1 98;cut 2 99;cut 3 99;cut 4 99;");
        dueLine(x, 5, 1, 1, 1, -2, -2, -2, 3);
        dueLine(x, 6, 1, 1, 2, -2, -3, -3, 4);
        dueLine(x, 7, 1, 1, -1, -1, 0, 0, 0);
        dueLine(x, 8, 1, 2, -1, -2, 0, 0, 0);
        due("98 by 99", x.line(9, 6), 1);
        due("99 by 99", x.line(10, 6), 1);
        due("100 by 99", x.line(11, 6), 2);
    }

    private static void trimmed() {
        of("trim I: no WEIGHT (without sign) above DEGREE.");
        TruthSums x = withProof("3a+4b+5c+3!d+4!e+5!f>=4;a+!b>=0;9a+!b>=1;", "trim 0;trim 1;trim 2;");
        dueLine(x, 3, 3, 4, 4, -3, -4, -4, 4);
        dueLine(x, 4, 0, 0, 0, 0, 0, 0, 0);
        dueLine(x, 5, 1, -1, 0, 0, 0, 0, 1);
    }

    private static void dropped() {
        of("drop I LETTER: its WEIGHT becomes 0, DEGREE less by as much, 0 at least.");
        TruthSums x = withProof("4a+5!b+6f>=5;", "drop 0 a;drop 0 b;drop 0 f;drop 0 c;");
        dueLine(x, 1, 0, -5, 0, 0, 0, 6, 1);
        dueLine(x, 2, 4, 0, 0, 0, 0, 6, 0);
        dueLine(x, 3, 4, -5, 0, 0, 0, 0, 0);
        dueLine(x, 4, 4, -5, 0, 0, 0, 6, 5);
        proofFault("a>=1;", "drop 0 0;", 7);
        proofFault("a>=1;", "drop a 0;", 5);
    }

    private static void soAndNot() {
        of("so LETTER, not LETTER: WEIGHT 1, below 0 (not: -1), DEGREE 0.");
        TruthSums x = withProof("", "so a;so f;not a;not f;");
        dueLine(x, 0, 1, 0, 0, 0, 0, 0, 0);
        dueLine(x, 1, 0, 0, 0, 0, 0, 1, 0);
        dueLine(x, 2, -1, 0, 0, 0, 0, 0, 0);
        dueLine(x, 3, 0, 0, 0, 0, 0, -1, 0);
        // nothing of the LINES that an earlier proof had there is left
        TruthSums y = withProof("9b>=9;", "times 0 2;times 0 3;");
        typeText(y, "so a;not f;");
        due("proof() anew", y.proof(), 2);
        dueLine(y, 1, 1, 0, 0, 0, 0, 0, 0);
        dueLine(y, 2, 0, 0, 0, 0, 0, -1, 0);
        proofFault("", "so !a;", 3);
        proofFault("", "so 1;", 3);
        proofFault("", "not !a;", 4);
    }

    private static void claimed() {
        of("claim LINE: right only if its opposite, with all LINES ahead of it, CLASHES.");
        dueRight("a+b>=2;", "claim a>=1;", 1);
        dueWrong("a+b>=1;", "claim a>=1;", 0, 2);
        dueWrong("", "claim a>=1;", 0, 2);
        dueRight("", "claim a>=0;", 1);
        // all LINES ahead: the last of THE PROOF's too, but none behind, and none of an earlier proof
        String given = "a+b>=1;a+!b>=1;!a+b+c>=1;!a+!b+c>=1;";
        dueWrong(given, "claim c>=1;claim a>=1;", 0, 2);
        dueRight(given, "claim a>=1;claim c>=1;", 2);
        TruthSums x = withProof(given, "claim a>=1;claim c>=1;");
        typeText(x, "claim c>=1;");
        due("proof() anew", x.proof(), 0);
        due("wrong(0) anew", x.wrong(0), 0);
        // where LINES ahead CLASH by themselves, all is right
        dueRight("a>=2;", "claim b>=999;claim !b>=1;", 2);
        dueLine(withProof("2a+3!b>=5;", "claim 2a+3!b+c>=4;"), 1, 2, -3, 1, 0, 0, 0, 4);
    }

    private static void fourHundredBytes() {
        of("Both texts (400 bytes at most) are read byte by byte,");
        String line = "99!a+99!b+99!c+99!d+99!e+99!f>=999;";
        String given = " ".repeat(400 - 8 * line.length()) + line.repeat(8);
        TruthSums x = new TruthSums();
        typeText(x, given);
        due("count(4)", x.count(4), 400);
        due("type at 400", x.type(' ', 1), TruthSums.FULL);
        due("given of 400 bytes", x.given(), 8);
        dueLine(x, 7, -99, -99, -99, -99, -99, -99, 999);
        String proof = " ".repeat(400 - 24 * 11) + "times 0 10;".repeat(24);
        typeText(x, proof);
        due("count(4)", x.count(4), 400);
        due("type at 400", x.type(' ', 1), TruthSums.FULL);
        due("proof of 400 bytes", x.proof(), 24);
        dueLine(x, 31, -990, -990, -990, -990, -990, -990, 9990);
    }

    private static void blanks() {
        of("blanks (32) between TOKENS;");
        taken("  2  !  a  +  b  >=  3  ;  ", 1);
        taken("2!a+b>=3;", 1);
        proofTaken("a>=1;", " add  0  0 ; so  a ; claim  2  a  >=  0 ; ", 3);
        proofTaken("a>=1;", "add0 0;claim2a>=0;", 2);
        taken("a >=1;", 1);
        fault("a" + (char) 31 + ">=1;", 1);
        fault("a" + (char) 33 + ">=1;", 1);
        fault("a" + (char) 0 + ">=1;", 1);
        fault("a\t>=1;", 1);
        fault("a\n>=1;", 1);
        fault("a\r>=1;", 1);
        fault("a" + (char) 160 + ">=1;", 1);
        // a blank parts TOKENS, and can't stand inside one
        fault("a> =1;", 1);
        fault("a>=1 0;", 5);
        proofFault("a>=1;", "a dd 0 0;", 0);
        proofFault("a>=1;", "soa;", 0);
    }

    private static void words() {
        of("TOKENS are words of letters a .. z, NUMBERS, >= , and + ! ; .");
        for (int b = 0; b < 256; b++) {
            boolean isLetter = b >= 'a' && b <= 'z';
            if (b == ' ') {
                taken("a" + (char) b + ">=1;", 1);
            } else if (b == '+') {
                fault("a+>=1;", 2);
            } else {
                // a letter more makes another word of it; any other byte begins what is behind the word
                fault("a" + (char) b + ">=1;", isLetter ? 0 : 1);
            }
        }
        String[] steps = {"add 0 0;", "times 0 1;", "cut 0 2;", "trim 0;", "drop 0 a;", "so a;", "not a;", "claim a>=0;"};
        for (String step : steps) {
            proofTaken("a>=1;", step, 1);
            int blank = step.indexOf(' ');
            proofFault("a>=1;", step.substring(0, blank - 1) + step.substring(blank), 0);
            proofFault("a>=1;", step.substring(0, blank) + "s" + step.substring(blank), 0);
            proofFault("a>=1;", step.substring(1), 0);
            proofFault("a>=1;", step.substring(0, 1).toUpperCase() + step.substring(1), 0);
        }
    }

    private static void numberTokens() {
        of("NUMBERS, >= , and + ! ; .");
        for (int b = 0; b < 256; b++) {
            String text = "a>=1" + (char) b + ";";
            if (b >= '0' && b <= '9') {
                due("DEGREE of '" + text + "'", withGiven(text).line(0, 6), 10 + b - '0');
            } else if (b == ' ') {
                taken(text, 1);
            } else {
                fault(text, b == ';' ? 5 : 4);
            }
        }
    }

    private static void signs() {
        of(">= , and + ! ; .");
        for (int b = 0; b < 256; b++) {
            if (b == '=') {
                taken("a>" + (char) b + "1;", 1);
            } else {
                fault("a>" + (char) b + "1;", 1);
            }
        }
        fault("a>==1;", 3);
        fault("a>>=1;", 1);
        fault("a=>1;", 1);
    }

    private static void faultOfNinthAndOthers() {
        of("FAULT: the place of the first byte of the first TOKEN that can't stand there (a ninth LINE's, a 25th STEP's"
                + " first, a LETTER told twice, a NUMBER beyond, a LINE that is not told ahead, too);");
        taken(EIGHT + "   ", 8);
        fault(EIGHT + "   c>=1;", 43);
        fault(EIGHT + "  99c>=1;", 42);
        fault(EIGHT + " !", 41);
        fault(EIGHT + ";", 40);
        proofTaken("", TWELVE + TWELVE + "   ", 24);
        proofFault("", TWELVE + TWELVE + "   claim a>=0;", 135);
        proofFault("", TWELVE + TWELVE + ";", 132);
        fault(" 2 ! a + 3 ! a >= 1;", 13);
        fault(" a + 100 b >= 1;", 5);
        fault(" a >= 1000 ;", 6);
        proofFault("a>=1;", " times  0  100 ;", 11);
        proofFault("a>=1;", " add  0  1 ;", 9);
        proofFault("a>=1;", " add  1  1 ;", 6);
        // the first of several
        fault("a+a>=1000;@", 2);
        proofFault("a>=1;", "times 1 100;", 6);
        // FAULT 0, and the last place that a text of 400 bytes has
        fault("@", 0);
        fault(" ".repeat(399) + "@", 399);
    }

    private static void faultOfTokenThatIsNone() {
        of("of a byte that begins none (a > without = , too), a word that is none, a NUMBER above 999 or with a 0 ahead"
                + " of others, that TOKEN's;");
        fault("a >= 1 @;", 7);
        fault("a >= 1 =;", 7);
        fault("a >", 2);
        fault("a > = 1;", 2);
        fault("a >1;", 2);
        fault(" ab>=1;", 1);
        fault("a>=1;az>=1;", 5);
        fault("a>=1;zz", 5);
        taken("a>=999;", 1);
        fault("a>= 1000;", 4);
        fault("a>= 99999999999999999999;", 4);
        fault("a>= 4294967296;", 4);
        fault("a>= 4294967297;", 4);
        taken("a>=0;", 1);
        taken("a>=10;", 1);
        taken("a>=100;", 1);
        fault("a>= 00;", 4);
        fault("a>= 01;", 4);
        fault("a>= 010;", 4);
        fault("01a>=1;", 0);
        proofFault("a>=1;", "add 0 00;", 6);
        proofFault("a>=1;", "add 00 0;", 4);
        proofFault("a>=1;", "times 0 01;", 8);
        proofFault("a>=1;", "cut 0 02;", 6);
    }

    private static void faultOfTheEnd() {
        of("the text's length, if it ends too early.");
        taken("", 0);
        taken("   ", 0);
        String line = "12!a+b>=12";
        for (int length = 1; length <= line.length(); length++) {
            // an > at the end is a byte that begins no TOKEN, which comes ahead of the end
            boolean endsInBare = line.charAt(length - 1) == '>';
            fault(line.substring(0, length), endsInBare ? length - 1 : length);
        }
        fault("a>=1  ", 6);
        fault("a>=1;b", 6);
        taken("a>=1;  ", 1);
        String[] steps = {"add 0 0", "times 0 1", "cut 0 2", "trim 0", "drop 0 a", "so a", "not a", "claim a>=0"};
        for (String step : steps) {
            proofTaken("a>=1;", step + ";", 1);
            proofTaken("a>=1;", step + ";  ", 1);
            proofFault("a>=1;", step, step.length());
            proofFault("a>=1;", step + "  ", step.length() + 2);
            proofFault("a>=1;", step.substring(0, step.indexOf(' ')), step.indexOf(' '));
        }
        proofFault("a>=1;", "add 0", 5);
        proofFault("a>=1;", "times 0 ", 8);
        fault(" ".repeat(399) + "a", 400);
        fault(" ".repeat(395) + "a>=1 ", 400);
    }

    private static void wrongWeights() {
        of("WRONG: the first STEP that makes a WEIGHT above 9999 (without sign) or a DEGREE above 99999,");
        for (char letter = 'a'; letter <= 'f'; letter++) {
            String most = "times 0 99;times 0 2;add 1 2;";
            String given = "99" + letter + ">=0;";
            due("9999", withProof(given, most).line(3, letter - 'a'), 9999);
            dueRight(given, most + "so " + letter + ";", 4);
            dueWrong(given, most + "so " + letter + ";add 3 4;", 4, 1);
            String opposite = "99!" + letter + ">=0;";
            due("-9999", withProof(opposite, most).line(3, letter - 'a'), -9999);
            dueRight(opposite, most + "not " + letter + ";", 4);
            dueWrong(opposite, most + "not " + letter + ";add 3 4;", 4, 1);
        }
        // by times: 101 * 99 is 9999, 80 * 125 is 10000
        dueRight("99a>=0;2a>=0;26a>=0;", "add 0 1;times 3 99;", 2);
        dueWrong("99a>=0;2a>=0;26a>=0;", "add 0 2;times 3 80;", 1, 1);
        dueRight("99!a>=0;2!a>=0;26!a>=0;", "add 0 1;times 3 99;", 2);
        dueWrong("99!a>=0;2!a>=0;26!a>=0;", "add 0 2;times 3 80;", 1, 1);
        // one against the other: the sum counts
        dueRight("99a>=0;99!a>=0;", "times 0 99;times 1 99;add 2 3;", 3);
    }

    private static void wrongDegrees() {
        of("or a DEGREE above 99999,");
        String given = "a>=999;a>=99;a>=1;";
        String proof = "times 0 99;add 0 3;add 1 4;";
        dueRight(given, proof, 3);
        due("99999", withProof(given, proof).line(5, 6), 99999);
        dueWrong(given, proof + "add 2 5;", 3, 1);
        // by times: 2439 * 41 is 99999, 2000 * 50 is 100000
        String by = "a>=999;a>=441;a>=2;";
        due("99999 by times", withProof(by, "add 0 0;add 1 3;times 4 41;").line(5, 6), 99999);
        dueRight(by, "add 0 0;add 1 3;times 4 41;", 3);
        dueWrong(by, "add 0 0;add 2 3;times 4 50;", 2, 1);
        // what goes from DEGREES added counts: 99999 and 1, less 1
        due("99999 by add", withProof("a>=999;a>=99;!a>=1;", proof + "add 2 5;").line(6, 6), 99999);
    }

    private static void wrongClaims() {
        of("or that claims what is not right: it and what stands behind it have no LINES.");
        dueRight("a+b>=2;", "so a;claim b>=1;", 2);
        dueWrong("a+b>=2;", "so a;claim b>=2;", 1, 2);
        dueWrong("a+b>=2;", "claim b>=2;claim a>=2;", 0, 2);
        // the first of several, of both kinds
        dueWrong("99a>=0;", "times 0 99;add 1 1;claim a>=1;", 1, 1);
        dueWrong("99a>=0;", "times 0 99;claim a>=1;add 1 1;", 1, 2);
    }

    private static void behindWrong() {
        of("it and what stands behind it have no LINES.");
        TruthSums x = withProof("a>=1;", "so b;claim b>=1;so c;so d;");
        dueLine(x, 1, 0, 1, 0, 0, 0, 0, 0);
        for (int i = 2; i < 5; i++) {
            due("line(" + i + ", 6)", x.line(i, 6), TruthSums.NO);
            due("holds(" + i + ")", x.holds(i), 0);
            due("broken(" + i + ")", x.broken(i), TruthSums.BAD);
            due("told(" + i + ")", x.told(i), TruthSums.BAD);
        }
        due("count(1)", x.count(1), 1);
        due("count(2)", x.count(2), 4);
        due("forced(2, ..)", x.forced(2, 0, 0, 0), 1);
        due("forced(3, ..)", x.forced(3, 0, 0, 0), TruthSums.BAD);
        // the first STEP and the 24th
        dueWrong("a>=1;", "claim b>=1;" + TWELVE + TWELVE.substring(5), 0, 2);
        dueWrong("a>=1;", TWELVE + TWELVE.substring(5) + "claim b>=1;", 23, 2);
        // it is told all the same: a STEP behind it may name it, and none may name its own
        proofTaken("a>=1;", "claim b>=1;trim 1;", 0);
        proofFault("a>=1;", "claim b>=1;trim 2;", 16);
    }

    private static void forcedFromTold() {
        of("FORCED: from LETTERS told so, LETTERS told not (others are open):");
        dueForced("a+f>=1;", 1, 0, 0, 0, 0, 0);
        dueForced("a+f>=1;", 1, 1, 0, 1, 0, 0);
        dueForced("a+f>=1;", 1, 0, 1, 32, 1, 0);
        dueForced("a+f>=1;", 1, 0, 32, 1, 32, 0);
        dueForced("a+f>=1;", 1, 30, 1, 62, 1, 0);
        // all told: none is open, and nothing more is forced
        dueForced("a+f>=1;", 1, 63, 0, 63, 0, 0);
        dueForced("a+f>=1;", 1, 32, 31, 32, 31, 0);
        dueForced("a+f>=1;", 1, 0, 63, 0, 63, 1);
        // all told but one
        dueForced("a+f>=1;", 1, 0, 62, 1, 62, 0);
        dueForced("!a+!f>=1;", 1, 62, 0, 62, 1, 0);
    }

    private static void forcedOrder() {
        of("again and again, LINES in order, and in each LETTERS in order:");
        // LINE 0 would CLASH as soon as LINE 1 has forced both, but LINE 2 has its turn ahead of that
        dueForced("!a+!b>=1;a+b>=2;", 2, 0, 0, 3, 0, 1);
        dueForced("!a+!b>=1;a+b>=2;!a+c>=1;", 3, 0, 0, 7, 0, 1);
        // LINE 1 CLASHES in the first pass, and LINE 2 has no turn at all
        dueForced("a+b>=2;!a+!b>=1;!a+c>=1;", 3, 0, 0, 3, 0, 1);
        dueForced("a+b>=2;!a+!b>=1;!a+c>=1;", 1, 0, 0, 3, 0, 0);
    }

    private static void forcedClash() {
        of("SLACK is all WEIGHTS that still may weigh (of open LETTERS too), less DEGREE; below 0: it CLASHES;");
        dueForced("a+b>=2;", 1, 0, 0, 3, 0, 0);
        dueForced("a+b>=3;", 1, 0, 0, 0, 0, 1);
        dueForced("a+!b>=1;", 1, 2, 0, 3, 0, 0);
        dueForced("a+!b>=1;", 1, 2, 1, 2, 1, 1);
        dueForced("3a+2!b+c>=3;", 1, 2, 4, 3, 4, 0);
        dueForced("3a+2!b+c>=4;", 1, 2, 4, 2, 4, 1);
        dueForced("a>=0;", 1, 0, 1, 0, 1, 0);
    }

    private static void forcedWeights() {
        of("an open LETTER whose WEIGHT (without sign) is above SLACK is forced to weigh.");
        dueForced("2a+b+c>=2;", 1, 0, 0, 0, 0, 0);
        dueForced("3a+b+c>=3;", 1, 0, 0, 1, 0, 0);
        dueForced("2!a+b+c>=2;", 1, 0, 0, 0, 0, 0);
        dueForced("3!a+b+c>=3;", 1, 0, 0, 0, 1, 0);
        dueForced("2f+d+e>=2;", 1, 0, 0, 0, 0, 0);
        dueForced("3f+d+!e>=4;", 1, 0, 0, 32, 0, 0);
        dueForced("3!f+d+!e>=5;", 1, 0, 0, 8, 48, 0);
        // no open LETTER is forced the other way by a WEIGHT of 0
        dueForced("a>=1;", 1, 0, 0, 1, 0, 0);
        // one that is told is no open one
        dueForced("3a+3b>=3;", 1, 2, 0, 2, 0, 0);
        dueForced("3a+3b>=3;", 1, 0, 2, 1, 2, 0);
    }

    private static void forcedTillNothingIsNew() {
        of("Till nothing is new (or it CLASHES).");
        // against the order each pass forces one LETTER: a pass less, and f stays open
        dueForced("!e+f>=1;!d+e>=1;!c+d>=1;!b+c>=1;!a+b>=1;a>=1;", 6, 0, 0, 63, 0, 0);
        dueForced("!e+f>=1;!d+e>=1;!c+d>=1;!b+c>=1;!a+b>=1;", 5, 0, 0, 0, 0, 0);
        dueForced("!e+f>=1;!d+e>=1;!c+d>=1;!b+c>=1;!a+b>=1;", 5, 1, 0, 63, 0, 0);
        // the CLASH comes in the pass behind the one that forced the last LETTER
        dueForced("!e+!f>=1;!e+f>=1;!d+e>=1;!c+d>=1;!b+c>=1;!a+b>=1;a>=1;", 7, 0, 0, 31, 32, 1);
        dueForced("!f>=0;!a+!f>=1;!e+f>=1;!d+e>=1;!c+d>=1;!b+c>=1;!a+b>=1;a>=1;", 8, 0, 0, 1, 62, 1);
        dueForced("!a+!b+!c+!d+!e+!f>=1;!e+f>=1;!d+e>=1;!c+d>=1;!b+c>=1;!a+b>=1;a>=1;", 7, 0, 0, 31, 32, 1);
    }

    private static void opposites() {
        of("The opposite of a LINE: all its WEIGHTS with the other sign, DEGREE: all of them (without signs) together and"
                + " 1, less its DEGREE.");
        dueRight("a+b+c>=2;", "claim a+b>=1;", 1);
        dueWrong("a+b+c>=2;", "claim a+b>=2;", 0, 2);
        dueRight("!a+!b+!c>=2;", "claim !a+!b>=1;", 1);
        dueWrong("!a+!b+!c>=2;", "claim !a+!b>=2;", 0, 2);
        dueRight("2a+3!b>=5;", "claim 2a+3!b>=5;", 1);
        dueWrong("2a+3!b>=5;", "claim 2a+3!b>=6;", 0, 2);
        // DEGREE 0: the opposite is BROKEN; beyond all WEIGHTS: it holds anyhow
        dueRight("", "claim 99a+99!b>=0;", 1);
        dueWrong("", "claim 99a+99!b>=1;", 0, 2);
        dueWrong("a>=1;", "claim a>=2;", 0, 2);
        dueWrong("a>=1;", "claim a>=3;", 0, 2);
        dueWrong("a>=1;", "claim a>=999;", 0, 2);
    }

    private static void trueWorlds() {
        of("TRUE WORLDS: those in which all GIVEN HOLD.");
        due("no GIVEN", new TruthSums().trues(), -1L);
        due("one GIVEN", withGiven("a>=1;").trues(), 0xaaaaaaaaaaaaaaaaL);
        due("all of eight", withGiven("a>=1;b>=1;c>=1;d>=1;e>=1;a>=0;a>=0;f>=1;").trues(), 1L << 63);
        due("but for the eighth", withGiven("a>=1;b>=1;c>=1;d>=1;e>=1;a>=0;a>=0;").trues(), 1L << 31 | 1L << 63);
        due("but for the first", withGiven("b>=1;c>=1;d>=1;e>=1;a>=0;a>=0;f>=1;").trues(), 1L << 62 | 1L << 63);
        due("none", withGiven("a>=1;!a>=1;").trues(), 0L);
        due("THE PROOF's are no GIVEN", withProof("", "so a;claim a>=0;").trues(), -1L);
        TruthSums x = withGiven("a>=1;b>=1;");
        typeText(x, "a>=1;");
        due("given() anew", x.given(), 1);
        due("those of earlier are no GIVEN", x.trues(), 0xaaaaaaaaaaaaaaaaL);
        due("given() of none", x.given(), 0);
        due("those of earlier are no GIVEN", x.trues(), -1L);
    }

    private static void told() {
        of("A LINE is TOLD, if it HOLDS in all TRUE WORLDS.");
        due("of one TRUE WORLD", withProof("!a+!b+!c+!d+!e+!f>=6;", "claim !a>=1;").told(1), 1);
        due("of no TRUE WORLD", withProof("a>=1;!a>=1;", "claim f>=999;").told(2), 1);
        due("of all WORLDS", withProof("", "so a;").told(0), 1);
    }

    private static void tight() {
        of("TIGHT: the greatest DEGREE by which, with its WEIGHTS, it is TOLD (what weighs least in TRUE WORLDS); NONE"
                + " without TRUE WORLDS.");
        TruthSums x = withGiven("a+b>=1;2a+3b+4!c>=0;");
        due("above its DEGREE", x.tight(1), 2);
        // by that DEGREE it is told, by one more it is not: one TRUE WORLD goes
        due("trues by 2", withGiven("a+b>=1;2a+3b+4!c>=2;").trues(), x.trues());
        due("count by 3", withGiven("a+b>=1;2a+3b+4!c>=3;").count(3), x.count(3) - 8);
        due("0", withProof("", "so a;").tight(0), 0);
        due("all WEIGHTS", withGiven("99a+99!f>=198;").tight(0), 198);
        due("its DEGREE is 1 below", withGiven("2a+2b>=1;").tight(0), 2);
        due("without TRUE WORLDS", withGiven("a>=2;").tight(0), TruthSums.NONE);
        due("with one", withGiven("a+b+c+d+e+f>=6;").tight(0), 6);
        due("WORLD 0 alone", withGiven("!a+!b+!c+!d+!e+!f>=6;9a+!b>=0;").tight(1), 1);
    }

    private static void needed() {
        of("NEEDED: the fewest GIVEN by which it is TOLD (in all WORLDS in which these HOLD), of several the least set"
                + " (bits); NONE: it is not TOLD.");
        TruthSums none = withProof("a>=1;", "so b;");
        due("none is needed, 0", none.needed(1, 0), 0);
        due("none is needed, 1", none.needed(1, 1), 0);
        TruthSums all = withProof("a>=1;b>=1;c>=1;d>=1;e>=1;f>=1;", "claim a+b+c+d+e+f>=6;");
        due("all six, 0", all.needed(6, 0), 6);
        due("all six, 1", all.needed(6, 1), 63);
        TruthSums eight = withProof("a+b+c>=1;a+b+!c>=1;a+!b+c>=1;a+!b+!c>=1;!a+b+c>=1;!a+b+!c>=1;!a+!b+c>=1;"
                + "!a+!b+!c>=1;", "claim a+b>=1;claim a>=1;claim !a+b>=1;claim f>=9;");
        due("all eight, 0", eight.needed(11, 0), 8);
        due("all eight, 1", eight.needed(11, 1), 255);
        due("the eighth alone", withGiven("b>=0;b>=0;b>=0;b>=0;b>=0;b>=0;b>=0;a>=1;").needed(7, 1), 128);
        // sets of one go ahead of a lesser set of two; of two sets of two the lesser one
        TruthSums fewest = withProof("a+b>=1;!a+b>=1;2b>=1;", "cut 2 2;");
        due("fewest, 0", fewest.needed(3, 0), 1);
        due("fewest, 1", fewest.needed(3, 1), 4);
        TruthSums least = withProof("a+b>=1;c+b>=1;!c+b>=1;!a+b>=1;", "add 0 3;cut 4 2;");
        due("least set, 0", least.needed(5, 0), 2);
        due("least set, 1", least.needed(5, 1), 6);
        due("least of two alike", withGiven("a>=0;b>=1;b>=1;").needed(2, 1), 2);
        // it HOLDS in all WORLDS but the first, but the last: then one is needed
        due("but for WORLD 0", withGiven("a+b+c+d+e+f>=1;").needed(0, 0), 1);
        due("but for WORLD 63", withGiven("!a+!b+!c+!d+!e+!f>=1;").needed(0, 0), 1);
        // a set that never HOLDS tells all, too
        due("without TRUE WORLDS", withProof("a>=1;b>=2;", "claim c>=1;").needed(2, 1), 2);
    }

    private static void dueCovers(TruthSums x, int i, int... want) {
        due("covers(" + i + ", -1)", x.covers(i, -1), want.length);
        for (int k = 0; k < want.length; k++) {
            due("covers(" + i + ", " + k + ")", x.covers(i, k), want[k]);
        }
        due("covers(" + i + ", " + want.length + ")", x.covers(i, want.length), TruthSums.BAD);
    }

    private static void covers() {
        of("COVERS of a LINE: sets of LETTERS (bits) with WEIGHTS so that it HOLDS not in any WORLD in which none of them"
                + " weighs, none of its LETTERS to spare; in order of numbers.");
        dueCovers(withGiven("a>=0;"), 0);
        dueCovers(withGiven("a>=1;"), 0, 1);
        dueCovers(withGiven("a>=2;"), 0, 0);
        dueCovers(withGiven("f>=1;"), 0, 32);
        dueCovers(withGiven("!f>=1;"), 0, 32);
        dueCovers(withGiven("a+b+c+d+e+f>=1;"), 0, 63);
        dueCovers(withGiven("a+b+c+d+e+f>=6;"), 0, 1, 2, 4, 8, 16, 32);
        dueCovers(withGiven("a+b+c+d+e+f>=4;"), 0,
                7, 11, 13, 14, 19, 21, 22, 25, 26, 28, 35, 37, 38, 41, 42, 44, 49, 50, 52, 56);
        // just DEGREE weighs without a, so a alone is no cover; 1 below it, it is
        dueCovers(withGiven("2a+!b+c>=2;"), 0, 3, 5);
        dueCovers(withGiven("2a+!b+c>=3;"), 0, 1, 6);
        // c has no WEIGHT
        dueCovers(withProof("a+b+c>=2;", "drop 0 c;"), 1, 3);
    }

    private static void costs() {
        of("COSTS of LETTERS 0 .. 99 (0 at first): what a WORLD costs: of all that are so in it.");
        TruthSums x = withGiven("a+b+c+d+e+f>=6;");
        due("0 at first", x.least(1), 0);
        for (int letter = 0; letter < 6; letter++) {
            due("cost(" + letter + ", 99)", x.cost(letter, 99), 0);
            due("of all that are so", x.least(1), 99 * (letter + 1));
            due("cost(" + letter + ", 100)", x.cost(letter, 100), TruthSums.BAD);
            due("cost(" + letter + ", -1)", x.cost(letter, -1), TruthSums.BAD);
        }
        due("cost(0, 0)", x.cost(0, 0), 99);
        due("without a's", x.least(1), 495);
        TruthSums y = withGiven("!a+!b+!c+!d+!e+!f>=6;");
        y.cost(0, 99);
        due("of none that is not", y.least(1), 0);
    }

    private static void least() {
        of("LEAST: the TRUE WORLD that costs least, of several the first.");
        TruthSums x = withGiven("a+f>=1;");
        due("of several the first", x.least(0), 1);
        x.cost(0, 5);
        x.cost(5, 5);
        due("as much: the first", x.least(0), 1);
        x.cost(5, 4);
        due("1 less: the later", x.least(0), 32);
        x.cost(5, 6);
        due("1 more: the first", x.least(0), 1);
        due("all WORLDS", new TruthSums().least(0), 0);
        due("WORLD 63 alone", withGiven("a+b+c+d+e+f>=6;").least(0), 63);
        due("none", withGiven("a>=2;").least(0), TruthSums.NONE);
    }

    private static void dueFit(int table, int... want) {
        TruthSums x = new TruthSums();
        for (int what = 0; what < 5; what++) {
            due("fit(" + table + ", " + what + ")", x.fit(table, what), want[what]);
        }
    }

    private static void fitTables() {
        of("FIT of a table of three LETTERS (bits of WORLDS 0 .. 7):");
        for (int world = 0; world < 8; world++) {
            int a = (world & 1) == 0 ? -1 : 1;
            int b = (world & 2) == 0 ? -1 : 1;
            int c = (world & 4) == 0 ? -1 : 1;
            dueFit(1 << world, a, b, c, 3, 3);
            dueFit(255 - (1 << world), -a, -b, -c, 1, 3);
        }
        dueFit(-1, NONE_FITS);
        dueFit(256, NONE_FITS);
        dueFit(1 << 8 | 1, NONE_FITS);
    }

    private static void fitLines() {
        of("a LINE of a, b, c with WEIGHTS -4 .. 4 that HOLDS in just these: of such that whose WEIGHTS, without signs,"
                + " are least together; of several the first by WEIGHTS of a, b, c (from -4 up); its DEGREE the greatest"
                + " that does;");
        dueFit(1, -1, -1, -1, 3, 3);
        dueFit(128, 1, 1, 1, 3, 3);
        dueFit(254, 1, 1, 1, 1, 3);
        dueFit(127, -1, -1, -1, 1, 3);
        dueFit(0xaa, 1, 0, 0, 1, 1);
        dueFit(0x0f, 0, 0, -1, 1, 1);
        dueFit(0xa8, 2, 1, 1, 3, 4);
        dueFit(0xea, 2, 1, 1, 2, 4);
        dueFit(0x2a, 2, -1, -1, 3, 4);
        dueFit(0xe8, 1, 1, 1, 2, 3);
        of("NONE: there is no such one.");
        dueFit(0x66, NONE_FITS);
        dueFit(0x96, NONE_FITS);
        dueFit(0x81, NONE_FITS);
    }

    private static void fitOfAllAndNone() {
        of("where it HOLDS in none, WEIGHTS 0, DEGREE 1; in all, WEIGHTS 0, DEGREE 0.");
        dueFit(0, 0, 0, 0, 1, 0);
        dueFit(255, 0, 0, 0, 0, 0);
        // the same behind a table that has WEIGHTS
        TruthSums x = new TruthSums();
        for (int what = 0; what < 5; what++) {
            due("fit(0xa8, 0)", x.fit(0xa8, 0), 2);
            due("fit(0, " + what + ") then", x.fit(0, what), what == 3 ? 1 : 0);
            due("fit(0xa8, 0)", x.fit(0xa8, 0), 2);
            due("fit(255, " + what + ") then", x.fit(255, what), 0);
        }
    }
}

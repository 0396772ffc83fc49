/** Sums of truths: LINES of weights, proofs over them step by step, and what all worlds say of them. */
public final class TruthSums {
    public static final int BAD = -1, FULL = -3, NONE = -9;
    public static final int NO = -1000000;

    private static final int LETTERS = 6;
    private static final int ALL_LETTERS = 63;
    private static final int WORLDS = 64;
    private static final int MOST_GIVEN = 8;
    private static final int MOST_STEPS = 24;
    private static final int MOST_BYTES = 400;
    private static final int MOST_COST = 99;
    private static final int FAULT_BASE = -10;

    private static final int RIGHT = 0, TOO_GREAT = 1, NOT_RIGHT = 2;

    private final Text text;
    private final Reader reader;
    private final Forcing forcing;
    private final Fit fitting;
    /** GIVEN, and THE PROOF's LINES behind them; what stands behind those is room for the next. */
    private final Line[] lines;
    private final long[] givenWorlds;
    private final int[] costs;
    private int givenCount;
    private int proofCount;
    private int stepCount;
    private int wrongStep;
    private int wrongKind;

    public TruthSums() {
        text = new Text();
        reader = new Reader();
        forcing = new Forcing();
        fitting = new Fit();
        lines = new Line[MOST_GIVEN + MOST_STEPS];
        for (int i = 0; i < lines.length; i++) {
            lines[i] = new Line();
        }
        givenWorlds = new long[MOST_GIVEN];
        costs = new int[LETTERS];
        wrongStep = NONE;
        wrongKind = NONE;
    }

    // ---- texts

    public int type(long v, int n) {
        if (n < 1 || n > 8) {
            return BAD;
        }
        if (text.length + n > MOST_BYTES) {
            return FULL;
        }
        for (int k = n - 1; k >= 0; k--) {
            text.put((int) (v >>> (8 * k)) & 255);
        }
        return text.length;
    }

    public int clear() {
        return text.empty();
    }

    public int given() {
        int told = reader.readGiven(text);
        if (told < 0) {
            return told;
        }
        for (int i = 0; i < told && i < MOST_GIVEN; i++) {
            lines[i].becomeSame(reader.told[i]);
        }
        givenCount = told;
        forgetProof();
        text.empty();
        return told;
    }

    public int proof() {
        int told = reader.readProof(text, givenCount);
        if (told < 0) {
            return told;
        }
        forgetProof();
        stepCount = told;
        walkProof();
        text.empty();
        return proofCount;
    }

    public int wrong(int what) {
        if (what == 0) {
            return wrongStep;
        }
        return what == 1 ? wrongKind : BAD;
    }

    private void forgetProof() {
        proofCount = 0;
        stepCount = 0;
        wrongStep = NONE;
        wrongKind = NONE;
    }

    private void walkProof() {
        for (int s = 0; s < stepCount && s < MOST_STEPS && givenCount + s < lines.length; s++) {
            Step step = reader.steps[s];
            int place = givenCount + s;
            int verdict = step.kind == Step.CLAIM ? takeClaim(step, place, lines[place]) : takeStep(step, lines[place]);
            if (verdict != RIGHT) {
                wrongStep = s;
                wrongKind = verdict;
                return;
            }
            proofCount++;
        }
    }

    private int takeStep(Step step, Line made) {
        switch (step.kind) {
            case Step.ADD:
                made.becomeSum(lineOrFirst(step.first), lineOrFirst(step.second));
                break;
            case Step.TIMES:
                made.becomeTimes(lineOrFirst(step.first), step.second);
                break;
            case Step.CUT:
                made.becomeCut(lineOrFirst(step.first), step.second);
                break;
            case Step.TRIM:
                made.becomeTrimmed(lineOrFirst(step.first));
                break;
            case Step.DROP:
                made.becomeDropped(lineOrFirst(step.first), step.second);
                break;
            default:
                made.becomeBare(step.second, step.kind == Step.SO ? 1 : -1);
                break;
        }
        return made.isTooGreat() ? TOO_GREAT : RIGHT;
    }

    /** The reader lets only LINES told ahead through: the test is there so that no index can be beyond. */
    private Line lineOrFirst(int i) {
        return isLine(i) ? lines[i] : lines[0];
    }

    /** The opposite stands at the claim's own place while it is tried, behind all LINES ahead of it. */
    private int takeClaim(Step step, int place, Line made) {
        made.becomeOpposite(step.claimed);
        forcing.force(lines, place + 1, 0, 0);
        if (!forcing.clashes) {
            return NOT_RIGHT;
        }
        made.becomeSame(step.claimed);
        return RIGHT;
    }

    // ---- lines

    public int line(int i, int letter) {
        if (!isLine(i) || letter < 0 || letter > LETTERS) {
            return NO;
        }
        return letter == LETTERS ? lines[i].degree : lines[i].weights[letter];
    }

    public long holds(int i) {
        return isLine(i) ? lines[i].worldsHeld() : 0L;
    }

    public int broken(int i) {
        if (!isLine(i)) {
            return BAD;
        }
        return lines[i].isBroken() ? 1 : 0;
    }

    public int end() {
        for (int i = 0; i < lineCount() && i < lines.length; i++) {
            if (lines[i].isBroken()) {
                return i;
            }
        }
        return NONE;
    }

    public int both(int i, int j, int what) {
        if (!isLine(i) || !isLine(j) || what < 0 || what > 1) {
            return BAD;
        }
        long first = lines[i].worldsHeld();
        long second = lines[j].worldsHeld();
        boolean answer = what == 0 ? first == second : isWithin(first, second);
        return answer ? 1 : 0;
    }

    private int lineCount() {
        return givenCount + proofCount;
    }

    private boolean isLine(int i) {
        return i >= 0 && i < lineCount() && i < lines.length;
    }

    private static boolean isWithin(long worlds, long others) {
        return (worlds & ~others) == 0L;
    }

    // ---- forced

    public int forced(int n, int so, int not, int what) {
        if (n < 0 || n > lineCount() || !isLetterSet(so) || !isLetterSet(not)) {
            return BAD;
        }
        if ((so & not) != 0 || what < 0 || what > 2) {
            return BAD;
        }
        forcing.force(lines, n, so, not);
        if (what == 0) {
            return forcing.so;
        }
        if (what == 1) {
            return forcing.not;
        }
        return forcing.clashes ? 1 : 0;
    }

    private static boolean isLetterSet(int set) {
        return set >= 0 && set <= ALL_LETTERS;
    }

    // ---- worlds

    public long trues() {
        return trueWorlds();
    }

    public int told(int i) {
        if (!isLine(i)) {
            return BAD;
        }
        return isWithin(trueWorlds(), lines[i].worldsHeld()) ? 1 : 0;
    }

    public int tight(int i) {
        if (!isLine(i)) {
            return BAD;
        }
        long worlds = trueWorlds();
        int least = NONE;
        for (int world = 0; world < WORLDS; world++) {
            if (has(worlds, world)) {
                int weighs = lines[i].weighsIn(world);
                if (least == NONE || weighs < least) {
                    least = weighs;
                }
            }
        }
        return least;
    }

    public int needed(int i, int what) {
        if (!isLine(i) || what < 0 || what > 1) {
            return BAD;
        }
        int set = leastTelling(lines[i].worldsHeld());
        if (set == NONE) {
            return NONE;
        }
        return what == 0 ? Integer.bitCount(set) : set;
    }

    public int covers(int i, int k) {
        if (!isLine(i) || k < -1) {
            return BAD;
        }
        int found = 0;
        for (int set = 0; set <= ALL_LETTERS; set++) {
            if (lines[i].isLeastCover(set)) {
                if (found == k) {
                    return set;
                }
                found++;
            }
        }
        return k == -1 ? found : BAD;
    }

    public int cost(int letter, int v) {
        if (letter < 0 || letter >= LETTERS || v < 0 || v > MOST_COST) {
            return BAD;
        }
        int was = costs[letter];
        costs[letter] = v;
        return was;
    }

    public int least(int what) {
        if (what < 0 || what > 1) {
            return BAD;
        }
        int world = cheapestTrueWorld();
        return what == 0 || world == NONE ? world : costOf(world);
    }

    public int fit(int table, int what) {
        if (table < 0 || table > 255 || what < 0 || what > 4) {
            return NO;
        }
        if (!fitting.search(table)) {
            return NO;
        }
        switch (what) {
            case 0:
                return fitting.a;
            case 1:
                return fitting.b;
            case 2:
                return fitting.c;
            case 3:
                return fitting.degree;
            default:
                return Math.abs(fitting.a) + Math.abs(fitting.b) + Math.abs(fitting.c);
        }
    }

    public int count(int what) {
        switch (what) {
            case 0:
                return givenCount;
            case 1:
                return proofCount;
            case 2:
                return stepCount;
            case 3:
                return Long.bitCount(trueWorlds());
            case 4:
                return text.length;
            default:
                return BAD;
        }
    }

    private long trueWorlds() {
        long worlds = -1L;
        for (int i = 0; i < givenCount && i < MOST_GIVEN; i++) {
            worlds &= lines[i].worldsHeld();
        }
        return worlds;
    }

    /** The fewest GIVEN that hold only in these worlds, of several the least set; NONE if all together do not. */
    private int leastTelling(long worlds) {
        for (int i = 0; i < givenCount && i < MOST_GIVEN; i++) {
            givenWorlds[i] = lines[i].worldsHeld();
        }
        int best = NONE;
        int fewest = MOST_GIVEN + 1;
        for (int set = 0; set < 1 << givenCount; set++) {
            int size = Integer.bitCount(set);
            if (size < fewest && isWithin(worldsOfGiven(set), worlds)) {
                best = set;
                fewest = size;
            }
        }
        return best;
    }

    private long worldsOfGiven(int set) {
        long worlds = -1L;
        for (int i = 0; i < MOST_GIVEN; i++) {
            if ((set >> i & 1) == 1) {
                worlds &= givenWorlds[i];
            }
        }
        return worlds;
    }

    private int cheapestTrueWorld() {
        long worlds = trueWorlds();
        int best = NONE;
        for (int world = 0; world < WORLDS; world++) {
            if (has(worlds, world) && (best == NONE || costOf(world) < costOf(best))) {
                best = world;
            }
        }
        return best;
    }

    private int costOf(int world) {
        int sum = 0;
        for (int letter = 0; letter < LETTERS; letter++) {
            if ((world >> letter & 1) == 1) {
                sum += costs[letter];
            }
        }
        return sum;
    }

    private static boolean has(long worlds, int world) {
        return (worlds >>> world & 1L) == 1L;
    }

    /** A WEIGHT for each LETTER, and a DEGREE. A become.. method writes only this LINE, which is none that it reads. */
    private static final class Line {
        private static final int MOST_WEIGHT = 9999;
        private static final int MOST_DEGREE = 99999;

        final int[] weights = new int[LETTERS];
        int degree;

        void becomeEmpty() {
            for (int k = 0; k < LETTERS; k++) {
                weights[k] = 0;
            }
            degree = 0;
        }

        void becomeBare(int letter, int weight) {
            becomeEmpty();
            if (letter >= 0 && letter < LETTERS) {
                weights[letter] = weight;
            }
        }

        void becomeSame(Line other) {
            for (int k = 0; k < LETTERS; k++) {
                weights[k] = other.weights[k];
            }
            degree = other.degree;
        }

        void becomeSum(Line first, Line second) {
            int sum = first.degree + second.degree;
            for (int k = 0; k < LETTERS; k++) {
                int v = first.weights[k];
                int w = second.weights[k];
                if (v < 0 && w > 0 || v > 0 && w < 0) {
                    sum -= Math.min(Math.abs(v), Math.abs(w));
                }
                weights[k] = v + w;
            }
            degree = Math.max(sum, 0);
        }

        void becomeTimes(Line other, int n) {
            for (int k = 0; k < LETTERS; k++) {
                weights[k] = other.weights[k] * n;
            }
            degree = other.degree * n;
        }

        void becomeCut(Line other, int n) {
            int by = Math.max(n, 1);
            for (int k = 0; k < LETTERS; k++) {
                int w = other.weights[k];
                weights[k] = signed(w, (Math.abs(w) + by - 1) / by);
            }
            degree = (other.degree + by - 1) / by;
        }

        void becomeTrimmed(Line other) {
            for (int k = 0; k < LETTERS; k++) {
                int w = other.weights[k];
                weights[k] = signed(w, Math.min(Math.abs(w), other.degree));
            }
            degree = other.degree;
        }

        void becomeDropped(Line other, int letter) {
            becomeSame(other);
            if (letter >= 0 && letter < LETTERS) {
                degree = Math.max(degree - Math.abs(weights[letter]), 0);
                weights[letter] = 0;
            }
        }

        void becomeOpposite(Line other) {
            for (int k = 0; k < LETTERS; k++) {
                weights[k] = -other.weights[k];
            }
            degree = other.mayWeigh(0, 0) + 1 - other.degree;
        }

        private static int signed(int sign, int size) {
            return sign < 0 ? -size : size;
        }

        boolean isTooGreat() {
            for (int k = 0; k < LETTERS; k++) {
                if (Math.abs(weights[k]) > MOST_WEIGHT) {
                    return true;
                }
            }
            return degree > MOST_DEGREE;
        }

        /** All that still may weigh, if these LETTERS are so and those are not. */
        int mayWeigh(int so, int not) {
            int sum = 0;
            for (int k = 0; k < LETTERS; k++) {
                int w = weights[k];
                int against = w > 0 ? not : so;
                if ((against >> k & 1) == 0) {
                    sum += Math.abs(w);
                }
            }
            return sum;
        }

        int weighsIn(int world) {
            return mayWeigh(world, ~world);
        }

        boolean isBroken() {
            return mayWeigh(0, 0) < degree;
        }

        long worldsHeld() {
            long worlds = 0L;
            for (int world = 0; world < WORLDS; world++) {
                if (weighsIn(world) >= degree) {
                    worlds |= 1L << world;
                }
            }
            return worlds;
        }

        /** Taking more LETTERS away never mends a cover, so trying each alone finds any to spare. */
        boolean isLeastCover(int set) {
            if (!isCover(set)) {
                return false;
            }
            for (int k = 0; k < LETTERS; k++) {
                if ((set >> k & 1) == 1 && isCover(set & ~(1 << k))) {
                    return false;
                }
            }
            return true;
        }

        private boolean isCover(int set) {
            int others = 0;
            for (int k = 0; k < LETTERS; k++) {
                if ((set >> k & 1) == 0) {
                    others += Math.abs(weights[k]);
                }
            }
            return others < degree;
        }
    }

    /** What is FORCED from LETTERS told: so, not, and whether it CLASHES. */
    private static final class Forcing {
        int so;
        int not;
        boolean clashes;

        void force(Line[] lines, int n, int toldSo, int toldNot) {
            so = toldSo;
            not = toldNot;
            clashes = false;
            boolean isNew = true;
            // each pass but the last forces one LETTER at least, so there are no more passes than that
            for (int pass = 0; pass <= LETTERS && isNew && !clashes; pass++) {
                isNew = passOver(lines, n);
            }
        }

        private boolean passOver(Line[] lines, int n) {
            int before = so | not;
            for (int i = 0; i < n && i < lines.length && !clashes; i++) {
                visit(lines[i]);
            }
            return (so | not) != before;
        }

        private void visit(Line line) {
            int slack = line.mayWeigh(so, not) - line.degree;
            if (slack < 0) {
                clashes = true;
                return;
            }
            for (int k = 0; k < LETTERS; k++) {
                int w = line.weights[k];
                boolean isOpen = ((so | not) >> k & 1) == 0;
                if (isOpen && w > slack) {
                    so |= 1 << k;
                } else if (isOpen && -w > slack) {
                    not |= 1 << k;
                }
            }
        }
    }

    /** The LINE of least WEIGHTS of a, b, c that HOLDS in just the WORLDS of a table. */
    private static final class Fit {
        private static final int MOST = 4;
        private static final int TABLE_WORLDS = 8;
        private static final int ABOVE_ALL = 3 * MOST + 1;

        int a;
        int b;
        int c;
        int degree;

        boolean search(int table) {
            if (table == 0) {
                a = 0;
                b = 0;
                c = 0;
                degree = 1;
                return true;
            }
            for (int together = 0; together <= 3 * MOST; together++) {
                if (searchTogether(table, together)) {
                    return true;
                }
            }
            return false;
        }

        private boolean searchTogether(int table, int together) {
            for (int first = -MOST; first <= MOST; first++) {
                for (int second = -MOST; second <= MOST; second++) {
                    int third = together - Math.abs(first) - Math.abs(second);
                    if (third >= 0 && third <= MOST) {
                        if (fits(table, first, second, -third) || fits(table, first, second, third)) {
                            return true;
                        }
                    }
                }
            }
            return false;
        }

        private boolean fits(int table, int first, int second, int third) {
            int leastIn = ABOVE_ALL;
            int mostOut = -1;
            for (int world = 0; world < TABLE_WORLDS && mostOut < leastIn; world++) {
                int weighs = part(first, world & 1) + part(second, world >> 1 & 1) + part(third, world >> 2);
                if ((table >> world & 1) == 1) {
                    leastIn = Math.min(leastIn, weighs);
                } else {
                    mostOut = Math.max(mostOut, weighs);
                }
            }
            if (mostOut >= leastIn) {
                return false;
            }
            a = first;
            b = second;
            c = third;
            degree = leastIn;
            return true;
        }

        private static int part(int weight, int isSo) {
            return isSo == 1 ? Math.max(weight, 0) : Math.max(-weight, 0);
        }
    }

    /** THE TEXT, byte by byte. */
    private static final class Text {
        final byte[] bytes = new byte[MOST_BYTES];
        int length;

        void put(int b) {
            if (length < MOST_BYTES) {
                bytes[length] = (byte) b;
                length++;
            }
        }

        int empty() {
            int had = length;
            length = 0;
            return had;
        }

        /** The byte there (0 .. 255); -1 beyond the text. */
        int at(int place) {
            return place >= 0 && place < length && place < MOST_BYTES ? bytes[place] & 255 : -1;
        }

        boolean spells(int from, int to, String word) {
            if (to - from != word.length()) {
                return false;
            }
            for (int k = 0; k < word.length(); k++) {
                if (at(from + k) != word.charAt(k)) {
                    return false;
                }
            }
            return true;
        }
    }

    /** One STEP as it is told: its kind, its LINE or LINES, its NUMBER or LETTER, or what it claims. */
    private static final class Step {
        static final int ADD = 1, TIMES = 2, CUT = 3, TRIM = 4, DROP = 5, SO = 6, NOT = 7, CLAIM = 8;

        int kind;
        int first;
        int second;
        final Line claimed = new Line();
    }

    /** All TOKENS of THE TEXT in rows, and the one that stands now. */
    private static final class Tokens {
        static final int END = 0, LETTER = 1, NUMBER = 2, AT_LEAST = 3, PLUS = 4, BANG = 5, SEMICOLON = 6;
        static final int STEP_WORD = 7, NO_TOKEN = 8;
        private static final int MOST_NUMBER = 999;

        private final int[] kinds = new int[MOST_BYTES + 1];
        private final int[] values = new int[MOST_BYTES + 1];
        private final int[] places = new int[MOST_BYTES + 1];
        private int count;
        private int now;

        int kind() {
            return kinds[now];
        }

        /** Which LETTER, NUMBER or kind of STEP. */
        int value() {
            return values[now];
        }

        int place() {
            return places[now];
        }

        /** Stays at END, behind which there is none. */
        void goOn() {
            if (now < count - 1) {
                now++;
            }
        }

        void split(Text text) {
            now = 0;
            count = 0;
            int at = 0;
            // a turn takes one byte at least
            for (int turn = 0; turn < MOST_BYTES && at < text.length; turn++) {
                int b = text.at(at);
                if (isSmallLetter(b)) {
                    at = putWord(text, at);
                } else if (isDigit(b)) {
                    at = putNumber(text, at);
                } else if (b == ' ') {
                    at++;
                } else {
                    at = putSign(text, at);
                }
            }
            put(END, 0, text.length);
        }

        private void put(int kind, int value, int place) {
            if (count < kinds.length) {
                kinds[count] = kind;
                values[count] = value;
                places[count] = place;
                count++;
            }
        }

        private int putWord(Text text, int at) {
            int behind = at + 1;
            while (behind < text.length && isSmallLetter(text.at(behind))) {
                behind++;
            }
            if (behind == at + 1) {
                int letter = text.at(at) - 'a';
                put(letter < LETTERS ? LETTER : NO_TOKEN, letter, at);
            } else {
                int step = stepKind(text, at, behind);
                put(step == 0 ? NO_TOKEN : STEP_WORD, step, at);
            }
            return behind;
        }

        private static int stepKind(Text text, int from, int to) {
            if (text.spells(from, to, "add")) {
                return Step.ADD;
            }
            if (text.spells(from, to, "times")) {
                return Step.TIMES;
            }
            if (text.spells(from, to, "cut")) {
                return Step.CUT;
            }
            if (text.spells(from, to, "trim")) {
                return Step.TRIM;
            }
            if (text.spells(from, to, "drop")) {
                return Step.DROP;
            }
            if (text.spells(from, to, "so")) {
                return Step.SO;
            }
            if (text.spells(from, to, "not")) {
                return Step.NOT;
            }
            return text.spells(from, to, "claim") ? Step.CLAIM : 0;
        }

        private int putNumber(Text text, int at) {
            int number = 0;
            int behind = at;
            while (behind < text.length && isDigit(text.at(behind))) {
                // beyond the greatest it stays beyond, and never grows past an int
                number = Math.min(number * 10 + text.at(behind) - '0', MOST_NUMBER + 1);
                behind++;
            }
            boolean hasZeroAhead = text.at(at) == '0' && behind > at + 1;
            put(hasZeroAhead || number > MOST_NUMBER ? NO_TOKEN : NUMBER, number, at);
            return behind;
        }

        private int putSign(Text text, int at) {
            int b = text.at(at);
            boolean isAtLeast = b == '>' && text.at(at + 1) == '=';
            put(isAtLeast ? AT_LEAST : signKind(b), 0, at);
            return isAtLeast ? at + 2 : at + 1;
        }

        private static int signKind(int b) {
            switch (b) {
                case '+':
                    return PLUS;
                case '!':
                    return BANG;
                case ';':
                    return SEMICOLON;
                default:
                    return NO_TOKEN;
            }
        }

        private static boolean isSmallLetter(int b) {
            return b >= 'a' && b <= 'z';
        }

        private static boolean isDigit(int b) {
            return b >= '0' && b <= '9';
        }
    }

    /** Reads THE TEXT as GIVEN or as THE PROOF into rows of its own, so that a FAULT changes nothing else. */
    private static final class Reader {
        private static final int MOST_FACTOR = 99;
        private static final int MOST_TOLD_DEGREE = 999;

        final Line[] told = new Line[MOST_GIVEN];
        final Step[] steps = new Step[MOST_STEPS];
        private final Tokens tokens = new Tokens();

        Reader() {
            for (int i = 0; i < MOST_GIVEN; i++) {
                told[i] = new Line();
            }
            for (int s = 0; s < MOST_STEPS; s++) {
                steps[s] = new Step();
            }
        }

        /** How many LINES; -10 less FAULT. */
        int readGiven(Text text) {
            tokens.split(text);
            int n = 0;
            while (n < MOST_GIVEN && tokens.kind() != Tokens.END) {
                if (!takeLine(told[n]) || !take(Tokens.SEMICOLON)) {
                    return FAULT_BASE - tokens.place();
                }
                n++;
            }
            return tokens.kind() == Tokens.END ? n : FAULT_BASE - tokens.place();
        }

        /** How many STEPS; -10 less FAULT. */
        int readProof(Text text, int givenCount) {
            tokens.split(text);
            int n = 0;
            while (n < MOST_STEPS && tokens.kind() != Tokens.END) {
                if (!takeStepText(steps[n], givenCount + n) || !take(Tokens.SEMICOLON)) {
                    return FAULT_BASE - tokens.place();
                }
                n++;
            }
            return tokens.kind() == Tokens.END ? n : FAULT_BASE - tokens.place();
        }

        /** Like all take.. methods: goes behind what it took, or stays at the TOKEN that can't stand there. */
        private boolean take(int kind) {
            if (tokens.kind() != kind) {
                return false;
            }
            tokens.goOn();
            return true;
        }

        private boolean takeLine(Line line) {
            line.becomeEmpty();
            // a seventh TERM has no LETTER left, so it ends the loop
            for (int term = 0; term <= LETTERS; term++) {
                if (!takeTerm(line)) {
                    return false;
                }
                if (!take(Tokens.PLUS)) {
                    break;
                }
            }
            if (!take(Tokens.AT_LEAST)) {
                return false;
            }
            line.degree = tokens.value();
            return takeNumberWithin(0, MOST_TOLD_DEGREE);
        }

        private boolean takeTerm(Line line) {
            int weight = 1;
            if (tokens.kind() == Tokens.NUMBER) {
                weight = tokens.value();
                if (!takeNumberWithin(1, MOST_FACTOR)) {
                    return false;
                }
            }
            if (take(Tokens.BANG)) {
                weight = -weight;
            }
            int letter = tokens.value();
            if (tokens.kind() != Tokens.LETTER || letter < 0 || letter >= LETTERS || line.weights[letter] != 0) {
                return false;
            }
            line.weights[letter] = weight;
            tokens.goOn();
            return true;
        }

        private boolean takeStepText(Step step, int linesAhead) {
            step.kind = tokens.value();
            if (!take(Tokens.STEP_WORD)) {
                return false;
            }
            switch (step.kind) {
                case Step.CLAIM:
                    return takeLine(step.claimed);
                case Step.SO:
                case Step.NOT:
                    return takeLetter(step);
                case Step.TRIM:
                    return takeFirst(step, linesAhead);
                case Step.DROP:
                    return takeFirst(step, linesAhead) && takeLetter(step);
                case Step.ADD:
                    return takeFirst(step, linesAhead) && takeSecond(step, 0, linesAhead - 1);
                case Step.TIMES:
                    return takeFirst(step, linesAhead) && takeSecond(step, 1, MOST_FACTOR);
                default:
                    return takeFirst(step, linesAhead) && takeSecond(step, 2, MOST_FACTOR);
            }
        }

        private boolean takeFirst(Step step, int linesAhead) {
            step.first = tokens.value();
            return takeNumberWithin(0, linesAhead - 1);
        }

        private boolean takeSecond(Step step, int least, int most) {
            step.second = tokens.value();
            return takeNumberWithin(least, most);
        }

        private boolean takeLetter(Step step) {
            step.second = tokens.value();
            return take(Tokens.LETTER);
        }

        private boolean takeNumberWithin(int least, int most) {
            if (tokens.kind() != Tokens.NUMBER || tokens.value() < least || tokens.value() > most) {
                return false;
            }
            tokens.goOn();
            return true;
        }
    }
}

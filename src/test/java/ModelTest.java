import java.util.ArrayList;
import java.util.List;
import java.util.Random;
import java.util.regex.Matcher;
import java.util.regex.Pattern;

/** Runs of made-up calls, each answer set against a slow model that follows the document word by word. */
public final class ModelTest {
    private static final int RUNS = 1500;
    private static final int TURNS = 160;
    private static final int MOST_CALLS = 512;

    private static int failures = 0;
    private static int rightProofs = 0;
    private static int wrongProofs = 0;

    public static void main(String[] args) {
        for (int run = 0; run < RUNS && failures < 10; run++) {
            new Run(run).go();
        }
        fitAll();
        // runs that never come to a proof would show nothing
        if (rightProofs < RUNS || wrongProofs < RUNS / 4) {
            failures++;
            System.out.println("too few proofs: " + rightProofs + " right, " + wrongProofs + " wrong");
        }
        System.out.println(failures == 0 ? "all runs are as the model's" : failures + " answers are not the model's");
        if (failures != 0) {
            System.exit(1);
        }
    }

    private static void same(String call, long got, long want) {
        if (got != want) {
            failures++;
            System.out.println(call + " answered " + got + ", the model " + want);
        }
    }

    private static void fitAll() {
        for (int table = -1; table <= 256; table++) {
            TruthSums x = new TruthSums();
            int[] want = Model.fit(table);
            for (int what = -1; what <= 5; what++) {
                int due = want == null || what < 0 || what > 4 ? -1000000 : want[what];
                same("fit(" + table + ", " + what + ")", x.fit(table, what), due);
            }
        }
    }

    private static final class Run {
        private final int number;
        private final Random random;
        private final TruthSums x = new TruthSums();
        private final Model m = new Model();
        private int calls;

        Run(int number) {
            this.number = number;
            random = new Random(77000 + number);
        }

        void go() {
            for (int k = 0; k < TURNS && calls < MOST_CALLS && failures < 10; k++) {
                int dice = random.nextInt(10);
                if (dice == 0) {
                    send(maybeSpoil(givenText()), true);
                } else if (dice == 1) {
                    send(maybeSpoil(proofText()), false);
                } else {
                    ask();
                }
            }
        }

        /** Each call is checked once, and what an object answers behind its last call is free. */
        private void check(String call, long got, long want) {
            calls++;
            if (got != want && calls <= MOST_CALLS) {
                same("run " + number + ": " + call + " with GIVEN " + m.given + " and PROOF " + m.proof, got, want);
            }
        }

        private void send(String text, boolean asGiven) {
            int at = 0;
            while (at < text.length()) {
                int n = Math.min(1 + random.nextInt(8), text.length() - at);
                long v = random.nextLong();
                for (int k = 0; k < n; k++) {
                    v = v << 8 | text.charAt(at + k);
                }
                check("type", x.type(v, n), m.type(text.substring(at, at + n)));
                at += n;
            }
            if (asGiven) {
                check("given of '" + m.text + "'", x.given(), m.readGiven());
            } else {
                int got = x.proof();
                check("proof of '" + m.text + "'", got, m.readProof());
                if (got > 0 && m.wrongStep < 0) {
                    rightProofs++;
                } else if (got >= 0 && m.wrongStep >= 0) {
                    wrongProofs++;
                }
            }
            check("count(4)", x.count(4), m.text.length());
            if (m.text.length() > 0 && random.nextInt(8) > 0) {
                check("clear", x.clear(), m.text.length());
                m.text = "";
            }
        }

        private String blanks() {
            return random.nextInt(9) == 0 ? "  ".substring(random.nextInt(2)) : "";
        }

        private String lineText() {
            StringBuilder s = new StringBuilder();
            int terms = 1 + random.nextInt(random.nextInt(4) == 0 ? 6 : 3);
            String letters = random.nextInt(3) == 0 ? "abcdef" : "abc";
            int sum = 0;
            for (int k = 0; k < terms && !letters.isEmpty(); k++) {
                int pick = random.nextInt(letters.length());
                int w = random.nextInt(3) > 0 ? 1 : 1 + random.nextInt(random.nextInt(9) == 0 ? 99 : 5);
                sum += w;
                s.append(k > 0 ? "+" : "").append(blanks());
                s.append(w > 1 || random.nextInt(6) == 0 ? String.valueOf(w) : "").append(blanks());
                s.append(random.nextInt(2) == 0 ? "!" : "").append(blanks()).append(letters.charAt(pick));
                letters = letters.substring(0, pick) + letters.substring(pick + 1);
            }
            int degree = random.nextInt(30) == 0 ? random.nextInt(1000) : Math.min(random.nextInt(sum + 1), 999);
            return s.append(blanks()).append(">=").append(blanks()).append(degree).toString();
        }

        private String givenText() {
            StringBuilder s = new StringBuilder();
            int n = random.nextInt(random.nextInt(5) == 0 ? 10 : 6);
            for (int k = 0; k < n; k++) {
                s.append(blanks()).append(lineText()).append(blanks()).append(';');
            }
            return s.toString();
        }

        private String proofText() {
            StringBuilder s = new StringBuilder();
            int n = random.nextInt(random.nextInt(6) == 0 ? 27 : 9);
            for (int k = 0; k < n; k++) {
                s.append(blanks()).append(stepText(m.given.size() + k)).append(blanks()).append(';');
            }
            return s.toString();
        }

        private String stepText(int ahead) {
            int i = random.nextInt(Math.max(ahead, 1));
            int j = random.nextInt(Math.max(ahead, 1));
            char letter = (char) ('a' + random.nextInt(random.nextInt(40) == 0 ? 8 : 6));
            int factor = 1 + random.nextInt(random.nextInt(3) == 0 ? 99 : 5);
            switch (ahead == 0 ? 5 + random.nextInt(3) : random.nextInt(9)) {
                case 0: return "add " + i + " " + j;
                case 1: return "times " + i + " " + factor;
                case 2: return "cut " + i + " " + (factor < 99 ? factor + 1 : factor);
                case 3: return "trim " + i;
                case 4: return "drop " + i + " " + letter;
                case 5: return "so " + letter;
                case 6: return "not " + letter;
                case 7: return "claim " + lineText();
                default: return "add " + j + " " + i;
            }
        }

        private String maybeSpoil(String text) {
            if (random.nextInt(3) > 0 || text.isEmpty()) {
                return text;
            }
            StringBuilder s = new StringBuilder(text);
            int at = random.nextInt(s.length());
            String signs = "abcdefgz0123456789+!;>= @A~";
            char sign = random.nextInt(20) == 0 ? (char) random.nextInt(256) : signs.charAt(random.nextInt(signs.length()));
            switch (random.nextInt(4)) {
                case 0: s.deleteCharAt(at); break;
                case 1: s.setCharAt(at, sign); break;
                case 2: s.insert(at, sign); break;
                default: s.setLength(at); break;
            }
            return s.toString();
        }

        private void ask() {
            int n = m.lineCount();
            int i = random.nextInt(n + 2) - (random.nextInt(9) == 0 ? 1 : 0);
            int j = random.nextInt(n + 2) - (random.nextInt(9) == 0 ? 1 : 0);
            int what = random.nextInt(9) == 0 ? random.nextInt(8) - 2 : random.nextInt(2);
            switch (random.nextInt(16)) {
                case 0: check("wrong " + what, x.wrong(what), m.wrong(what)); break;
                case 1:
                    for (int letter = -1; letter <= 7; letter++) {
                        check("line " + i + " " + letter, x.line(i, letter), m.line(i, letter));
                    }
                    break;
                case 2: check("holds " + i, x.holds(i), m.isLine(i) ? mask(m.at(i)) : 0L); break;
                case 3: check("broken " + i, x.broken(i), m.isLine(i) ? m.broken(m.at(i)) : -1); break;
                case 4: check("end", x.end(), m.end()); break;
                case 5: check("both " + i + " " + j + " " + what, x.both(i, j, what), m.both(i, j, what)); break;
                case 6: case 7:
                    int so = random.nextInt(66) - 1;
                    int not = random.nextInt(66) - 1 & (random.nextInt(9) == 0 ? -1 : ~so);
                    for (int k = 0; k < 3; k++) {
                        check("forced " + i + " " + so + " " + not + " " + k, x.forced(i, so, not, k), m.forced(i, so, not, k));
                    }
                    check("forced " + i + " .. " + what, x.forced(i, 0, 0, what), m.forced(i, 0, 0, what));
                    break;
                case 8: check("trues", x.trues(), m.trues()); break;
                case 9: check("told " + i, x.told(i), m.told(i)); break;
                case 10: check("tight " + i, x.tight(i), m.tight(i)); break;
                case 11: check("needed " + i + " " + what, x.needed(i, what), m.needed(i, what)); break;
                case 12:
                    for (int k = -2; k < 22; k++) {
                        check("covers " + i + " " + k, x.covers(i, k), m.covers(i, k));
                    }
                    break;
                case 13:
                    int letter = random.nextInt(8) - 1;
                    int v = random.nextInt(4) == 0 ? random.nextInt(102) - 1 : random.nextInt(5);
                    check("cost " + letter + " " + v, x.cost(letter, v), m.cost(letter, v));
                    break;
                case 14: check("least " + what, x.least(what), m.least(what)); break;
                default:
                    for (int k = -1; k <= 5; k++) {
                        check("count " + k, x.count(k), m.count(k));
                    }
                    break;
            }
        }
    }

    /** A LINE of the model: WEIGHTS 0 .. 5, then DEGREE. */
    private static boolean holdsIn(int[] line, int world) {
        return weighs(line, world) >= line[6];
    }

    private static int weighs(int[] line, int world) {
        int sum = 0;
        for (int k = 0; k < 6; k++) {
            boolean isSo = (world & 1 << k) != 0;
            if (isSo && line[k] > 0) {
                sum += line[k];
            }
            if (!isSo && line[k] < 0) {
                sum -= line[k];
            }
        }
        return sum;
    }

    private static long mask(int[] line) {
        long mask = 0;
        for (int world = 0; world < 64; world++) {
            if (holdsIn(line, world)) {
                mask |= 1L << world;
            }
        }
        return mask;
    }

    private static final class Fault extends RuntimeException {
        private static final long serialVersionUID = 1L;
        final int place;

        Fault(int place) {
            this.place = place;
        }
    }

    /** Reads a text from the left with patterns; a Fault flies where a TOKEN can't stand. */
    private static final class Scan {
        private static final Pattern TOKEN = Pattern.compile("[a-z]+|[0-9]+|>=|[+!;]");
        private final String text;
        private int at;

        Scan(String text) {
            this.text = text;
            skip();
        }

        private void skip() {
            while (at < text.length() && text.charAt(at) == ' ') {
                at++;
            }
        }

        boolean isOver() {
            return at == text.length();
        }

        String peek() {
            Matcher t = TOKEN.matcher(text).region(at, text.length());
            return t.lookingAt() ? t.group() : "";
        }

        String take(String pattern) {
            String t = peek();
            if (!t.matches(pattern)) {
                throw new Fault(at);
            }
            at += t.length();
            skip();
            return t;
        }

        int number(int least, int most) {
            int place = at;
            int n = Integer.parseInt(take("0|[1-9][0-9]{0,2}"));
            if (n < least || n > most) {
                throw new Fault(place);
            }
            return n;
        }

        int letter() {
            return take("[a-f]").charAt(0) - 'a';
        }

        int[] line() {
            int[] line = new int[7];
            while (true) {
                int w = peek().matches("[0-9]+") ? number(1, 99) : 1;
                if (peek().equals("!")) {
                    take("!");
                    w = -w;
                }
                int place = at;
                int letter = letter();
                if (line[letter] != 0) {
                    throw new Fault(place);
                }
                line[letter] = w;
                if (!peek().equals("+")) {
                    break;
                }
                take("\\+");
            }
            take(">=");
            line[6] = number(0, 999);
            return line;
        }
    }

    private static final class Model {
        String text = "";
        List<int[]> given = new ArrayList<>();
        List<int[]> proof = new ArrayList<>();
        int steps = 0;
        int wrongStep = -9;
        int wrongKind = -9;
        final int[] costs = new int[6];

        int type(String more) {
            if (text.length() + more.length() > 400) {
                return -3;
            }
            text += more;
            return text.length();
        }

        int readGiven() {
            List<int[]> all = new ArrayList<>();
            try {
                Scan scan = new Scan(text);
                while (!scan.isOver()) {
                    if (all.size() == 8) {
                        throw new Fault(scan.at);
                    }
                    all.add(scan.line());
                    scan.take(";");
                }
            } catch (Fault f) {
                return -10 - f.place;
            }
            given = all;
            proof = new ArrayList<>();
            steps = 0;
            wrongStep = -9;
            wrongKind = -9;
            text = "";
            return given.size();
        }

        int readProof() {
            List<int[]> all = new ArrayList<>(given);
            int told = 0;
            int wrongAt = -9;
            int kind = -9;
            try {
                Scan scan = new Scan(text);
                while (!scan.isOver()) {
                    if (told == 24) {
                        throw new Fault(scan.at);
                    }
                    int[] made = step(scan, all, given.size() + told, wrongAt >= 0);
                    scan.take(";");
                    if (wrongAt < 0) {
                        kind = made == null ? 2 : isTooGreat(made) ? 1 : -9;
                        wrongAt = kind < 0 ? -9 : told;
                        if (kind < 0) {
                            all.add(made);
                        }
                    }
                    told++;
                }
            } catch (Fault f) {
                return -10 - f.place;
            }
            proof = new ArrayList<>(all.subList(given.size(), all.size()));
            steps = told;
            wrongStep = wrongAt;
            wrongKind = kind;
            text = "";
            return proof.size();
        }

        private static boolean isTooGreat(int[] line) {
            for (int k = 0; k < 6; k++) {
                if (Math.abs(line[k]) > 9999) {
                    return true;
                }
            }
            return line[6] > 99999;
        }

        /** The LINE that a STEP makes; null for a claim that is not right; nothing behind what is WRONG. */
        private static int[] step(Scan scan, List<int[]> all, int ahead, boolean isBehindWrong) {
            String word = scan.take("add|times|cut|trim|drop|so|not|claim");
            int[] z = new int[7];
            if (word.equals("claim")) {
                int[] line = scan.line();
                return isBehindWrong || !isRight(line, all) ? null : line;
            }
            if (word.equals("so") || word.equals("not")) {
                z[scan.letter()] = word.equals("so") ? 1 : -1;
                return z;
            }
            int i = scan.number(0, ahead - 1);
            int[] x = isBehindWrong ? new int[7] : all.get(i).clone();
            switch (word) {
                case "add":
                    int j = scan.number(0, ahead - 1);
                    int[] y = isBehindWrong ? new int[7] : all.get(j);
                    z[6] = x[6] + y[6];
                    for (int k = 0; k < 6; k++) {
                        z[k] = x[k] + y[k];
                        z[6] -= (Math.abs(x[k]) + Math.abs(y[k]) - Math.abs(z[k])) / 2;
                    }
                    z[6] = Math.max(0, z[6]);
                    return z;
                case "times":
                    int n = scan.number(1, 99);
                    for (int k = 0; k < 7; k++) {
                        z[k] = n * x[k];
                    }
                    return z;
                case "cut":
                    int by = scan.number(2, 99);
                    for (int k = 0; k < 7; k++) {
                        z[k] = (int) (Math.signum((double) x[k]) * Math.ceil(Math.abs(x[k]) / (double) by));
                    }
                    return z;
                case "trim":
                    for (int k = 0; k < 6; k++) {
                        x[k] = Math.max(-x[6], Math.min(x[6], x[k]));
                    }
                    return x;
                default:
                    int letter = scan.letter();
                    x[6] = Math.max(0, x[6] - Math.abs(x[letter]));
                    x[letter] = 0;
                    return x;
            }
        }

        private static boolean isRight(int[] line, List<int[]> all) {
            int[] opposite = new int[7];
            int together = 0;
            for (int k = 0; k < 6; k++) {
                opposite[k] = -line[k];
                together += Math.abs(line[k]);
            }
            opposite[6] = Math.max(0, together + 1 - line[6]);
            List<int[]> with = new ArrayList<>();
            with.add(opposite);
            with.addAll(all);
            return force(with, 0, 0)[2] == 1;
        }

        private static int[] force(List<int[]> lines, int so, int not) {
            while (true) {
                int before = so | not;
                for (int[] line : lines) {
                    for (int k = 0; k < 6; k++) {
                        int slack = -line[6];
                        for (int l = 0; l < 6; l++) {
                            boolean isAgainst = ((line[l] > 0 ? not : so) & 1 << l) != 0;
                            slack += isAgainst ? 0 : Math.abs(line[l]);
                        }
                        if (slack < 0) {
                            return new int[] {so, not, 1};
                        }
                        if (((so | not) & 1 << k) == 0 && Math.abs(line[k]) > slack) {
                            so |= line[k] > 0 ? 1 << k : 0;
                            not |= line[k] < 0 ? 1 << k : 0;
                        }
                    }
                }
                if ((so | not) == before) {
                    return new int[] {so, not, 0};
                }
            }
        }

        int lineCount() {
            return given.size() + proof.size();
        }

        boolean isLine(int i) {
            return i >= 0 && i < lineCount();
        }

        int[] at(int i) {
            return i < given.size() ? given.get(i) : proof.get(i - given.size());
        }

        int wrong(int what) {
            return what == 0 ? wrongStep : what == 1 ? wrongKind : -1;
        }

        int line(int i, int letter) {
            return isLine(i) && letter >= 0 && letter <= 6 ? at(i)[letter] : -1000000;
        }

        int broken(int[] line) {
            int together = 0;
            for (int k = 0; k < 6; k++) {
                together += Math.abs(line[k]);
            }
            return together < line[6] ? 1 : 0;
        }

        int end() {
            for (int i = 0; i < lineCount(); i++) {
                if (broken(at(i)) == 1) {
                    return i;
                }
            }
            return -9;
        }

        int both(int i, int j, int what) {
            if (!isLine(i) || !isLine(j) || what != 0 && what != 1) {
                return -1;
            }
            for (int world = 0; world < 64; world++) {
                boolean first = holdsIn(at(i), world);
                boolean second = holdsIn(at(j), world);
                if (first && !second || what == 0 && first != second) {
                    return 0;
                }
            }
            return 1;
        }

        int forced(int n, int so, int not, int what) {
            if (n < 0 || n > lineCount() || so < 0 || so > 63 || not < 0 || not > 63 || (so & not) != 0) {
                return -1;
            }
            if (what < 0 || what > 2) {
                return -1;
            }
            List<int[]> first = new ArrayList<>();
            for (int i = 0; i < n; i++) {
                first.add(at(i));
            }
            return force(first, so, not)[what];
        }

        private boolean isTrue(int world, int set) {
            for (int i = 0; i < given.size(); i++) {
                if ((set & 1 << i) != 0 && !holdsIn(given.get(i), world)) {
                    return false;
                }
            }
            return true;
        }

        long trues() {
            long mask = 0;
            for (int world = 0; world < 64; world++) {
                mask |= isTrue(world, 255) ? 1L << world : 0;
            }
            return mask;
        }

        private boolean isToldBy(int[] line, int set) {
            for (int world = 0; world < 64; world++) {
                if (isTrue(world, set) && !holdsIn(line, world)) {
                    return false;
                }
            }
            return true;
        }

        int told(int i) {
            return isLine(i) ? isToldBy(at(i), 255) ? 1 : 0 : -1;
        }

        int tight(int i) {
            if (!isLine(i)) {
                return -1;
            }
            if (trues() == 0) {
                return -9;
            }
            int[] line = at(i).clone();
            line[6] = 0;
            while (isToldBy(line, 255)) {
                line[6]++;
            }
            return line[6] - 1;
        }

        int needed(int i, int what) {
            if (!isLine(i) || what != 0 && what != 1) {
                return -1;
            }
            for (int size = 0; size <= given.size(); size++) {
                for (int set = 0; set < 1 << given.size(); set++) {
                    if (Integer.bitCount(set) == size && isToldBy(at(i), set)) {
                        return what == 0 ? size : set;
                    }
                }
            }
            return -9;
        }

        private boolean isCover(int[] line, int set) {
            for (int k = 0; k < 6; k++) {
                if ((set & 1 << k) != 0 && line[k] == 0) {
                    return false;
                }
            }
            for (int world = 0; world < 64; world++) {
                boolean noneWeighs = true;
                for (int k = 0; k < 6; k++) {
                    boolean isSo = (world & 1 << k) != 0;
                    noneWeighs &= (set & 1 << k) == 0 || isSo != line[k] > 0;
                }
                if (noneWeighs && holdsIn(line, world)) {
                    return false;
                }
            }
            return true;
        }

        int covers(int i, int k) {
            if (!isLine(i) || k < -1) {
                return -1;
            }
            List<Integer> all = new ArrayList<>();
            for (int set = 0; set < 64; set++) {
                boolean isLeast = isCover(at(i), set);
                for (int part = 0; part < set && isLeast; part++) {
                    isLeast = (part & ~set) != 0 || !isCover(at(i), part);
                }
                if (isLeast) {
                    all.add(set);
                }
            }
            return k == -1 ? all.size() : k < all.size() ? all.get(k) : -1;
        }

        int cost(int letter, int v) {
            if (letter < 0 || letter > 5 || v < 0 || v > 99) {
                return -1;
            }
            int was = costs[letter];
            costs[letter] = v;
            return was;
        }

        int least(int what) {
            if (what != 0 && what != 1) {
                return -1;
            }
            int best = -9;
            int least = Integer.MAX_VALUE;
            for (int world = 63; world >= 0; world--) {
                int sum = 0;
                for (int k = 0; k < 6; k++) {
                    sum += (world & 1 << k) != 0 ? costs[k] : 0;
                }
                if (isTrue(world, 255) && sum <= least) {
                    best = world;
                    least = sum;
                }
            }
            return best == -9 ? -9 : what == 0 ? best : least;
        }

        int count(int what) {
            switch (what) {
                case 0: return given.size();
                case 1: return proof.size();
                case 2: return steps;
                case 3: return Long.bitCount(trues());
                case 4: return text.length();
                default: return -1;
            }
        }

        static int[] fit(int table) {
            if (table < 0 || table > 255) {
                return null;
            }
            if (table == 0) {
                return new int[] {0, 0, 0, 1, 0};
            }
            int[] best = null;
            for (int code = 0; code < 729; code++) {
                int[] line = {code / 81 - 4, code / 9 % 9 - 4, code % 9 - 4, 0, 0, 0, 0};
                int together = Math.abs(line[0]) + Math.abs(line[1]) + Math.abs(line[2]);
                for (int degree = 13; degree >= 0; degree--) {
                    line[6] = degree;
                    if ((mask(line) & 255) == table && (best == null || together < best[4])) {
                        best = new int[] {line[0], line[1], line[2], degree, together};
                    }
                }
            }
            return best;
        }
    }
}

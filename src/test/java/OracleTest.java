import java.util.ArrayList;
import java.util.Arrays;
import java.util.HashMap;
import java.util.List;
import java.util.Map;
import java.util.Random;

/**
 * Drives SnowMules and a second, slow program side by side with the same calls, drawn from fixed seeds.
 * The second program lists all WAYS, all rows and all ways to wait. It reads the document as SnowMules does (the same
 * hand wrote both), so it finds slips, not places that both read wrongly.
 */
public final class OracleTest {
    static final int RUNS = 250;

    public static void main(String[] args) {
        int runs = args.length > 0 ? Integer.parseInt(args[0]) : RUNS;
        int first = args.length > 1 ? Integer.parseInt(args[1]) : 0;
        Driver total = new Driver(0);
        for (int run = first; run < first + runs; run++) {
            Driver driver = new Driver(run);
            String wrong = driver.drive();
            if (wrong != null) {
                System.out.println("run " + run + ": " + wrong);
                System.exit(1);
            }
            total.take(driver);
        }
        total.report();
        System.out.println(runs + " runs beside the oracle, all answers alike");
    }

    /** Draws calls and compares answers. */
    static final class Driver {
        final Random random;
        final SnowMules mules = new SnowMules();
        final Oracle oracle = new Oracle();
        final Map<String, int[]> tallies = new HashMap<>();
        String wrong;
        int calls;
        final int seed;

        Driver(int seed) {
            this.seed = seed;
            random = new Random(seed * 7919L + 13);
        }

        void take(Driver other) {
            for (Map.Entry<String, int[]> e : other.tallies.entrySet()) {
                int[] mine = tallies.computeIfAbsent(e.getKey(), k -> new int[2]);
                mine[0] += e.getValue()[0];
                mine[1] += e.getValue()[1];
            }
        }

        void report() {
            for (Map.Entry<String, int[]> e : new java.util.TreeMap<>(tallies).entrySet()) {
                System.out.println("  " + e.getKey() + ": " + e.getValue()[0] + " calls, " + e.getValue()[1] + " with an answer of at least 0");
            }
        }

        void same(String call, int got, int due) {
            calls++;
            int[] tally = tallies.computeIfAbsent(call.substring(0, call.indexOf('(')), k -> new int[2]);
            tally[0]++;
            if (due >= 0) {
                tally[1]++;
            }
            if (got != due && wrong == null) {
                wrong = call + " as call " + calls + " answered " + got + ", the oracle " + due;
            }
        }

        int between(int low, int high) {
            int kind = random.nextInt(160);
            if (kind == 0) {
                return low - 1;
            }
            if (kind == 1) {
                return high + 1;
            }
            if (kind == 2) {
                return random.nextBoolean() ? Integer.MIN_VALUE : Integer.MAX_VALUE;
            }
            if (kind < 16) {
                return random.nextBoolean() ? low : high;
            }
            return low + (int) (random.nextDouble() * ((double) high - low + 1));
        }

        int number(int size) {
            return between(0, Math.max(0, size - 1));
        }

        String drive() {
            int nodes = 2 + random.nextInt(11);
            for (int i = 0; i < nodes; i++) {
                node();
            }
            int passes = random.nextInt(22);
            for (int i = 0; i < passes; i++) {
                pass();
            }
            for (int i = random.nextInt(18); i > 0; i--) {
                jar();
            }
            for (int i = 1 + random.nextInt(3); i > 0; i--) {
                law();
            }
            for (int i = random.nextInt(16); i > 0; i--) {
                fill();
            }
            if (random.nextInt(3) > 0) {
                layWay();
            }
            if (random.nextInt(3) == 0) {
                market();
            }
            while (calls < 512 && wrong == null) {
                one();
            }
            return wrong;
        }

        /** JARS that are full, ORDERS that can be met, and every question about them. */
        void market() {
            for (int j = 0; j < oracle.jars.size(); j++) {
                int n = 90000 + random.nextInt(9999);
                same("fill(" + j + ", " + n + ")", mules.fill(j, n), oracle.fill(j, n));
            }
            for (int i = 2 + random.nextInt(5); i > 0; i--) {
                int n = number(oracle.nodes.size());
                int until = random.nextInt(80);
                int drops = 1 + random.nextInt(random.nextBoolean() ? 90000 : 100);
                int price = random.nextInt(random.nextBoolean() ? 4 : 9999);
                same("order(" + n + ", " + until + ", " + drops + ", " + price + ")",
                    mules.order(n, until, drops, price), oracle.order(n, until, drops, price));
            }
            int l = random.nextInt(Math.max(1, oracle.laws.size()));
            for (int w = 0; w <= 6; w++) {
                same("all(" + l + ", " + w + ")", mules.all(l, w), oracle.all(l, w));
            }
            for (int o = 0; o < oracle.orders.size(); o++) {
                for (int j = 0; j < oracle.jars.size(); j++) {
                    same("serves(" + l + ", " + j + ", " + o + ")", mules.serves(l, j, o), oracle.serves(l, j, o));
                }
            }
        }

        void one() {
            switch (random.nextInt(60)) {
                case 0: node(); break;
                case 1: pass(); break;
                case 2: jar(); break;
                case 3: { int n = between(0, 11); same("month(" + n + ")", mules.month(n), oracle.month(n)); break; }
                case 4: { int n = between(0, Integer.MAX_VALUE - 1); same("seed(" + n + ")", mules.seed(n), oracle.seed(n)); break; }
                case 5: case 6: law(); break;
                case 7: case 8: case 9: fill(); break;
                case 10: { int j = number(oracle.jars.size()); same("pour(" + j + ")", mules.pour(j), oracle.pour(j)); break; }
                case 11: case 12: {
                    int i = number(oracle.nodes.size());
                    int n = random.nextInt(3) == 0 ? between(0, 999999) : between(0, 20000);
                    same("store(" + i + ", " + n + ")", mules.store(i, n), oracle.store(i, n));
                    break;
                }
                case 13: case 14: case 15: case 16: case 17: leave(); break;
                case 18: case 19: case 20: tick(); break;
                case 21: case 22: case 23: looks(); break;
                case 24: case 25: { int l = law0(); int j = number(oracle.jars.size()); same("melt(" + l + ", " + j + ")", mules.melt(l, j), oracle.melt(l, j)); break; }
                case 26: layWay(); break;
                case 27: case 28: tried(); break;
                case 29: case 30: best(); break;
                case 31: case 32: {
                    int a = number(oracle.nodes.size());
                    int b = number(oracle.nodes.size());
                    same("soonest(" + a + ", " + b + ")", mules.soonest(a, b), oracle.soonest(a, b));
                    break;
                }
                case 33: case 34: {
                    int a = number(oracle.nodes.size());
                    int m = between(0, 11);
                    same("nearest(" + a + ", " + m + ")", mules.nearest(a, m), oracle.nearest(a, m));
                    break;
                }
                case 35: case 36: warmer(); break;
                case 37: case 38: case 39: guess(); break;
                case 40: order(); break;
                case 41: case 42: {
                    int l = law0();
                    int j = number(oracle.jars.size());
                    int o = number(oracle.orders.size());
                    same("serves(" + l + ", " + j + ", " + o + ")", mules.serves(l, j, o), oracle.serves(l, j, o));
                    break;
                }
                case 43: case 44: {
                    int l = law0();
                    int w = between(0, 6);
                    same("all(" + l + ", " + w + ")", mules.all(l, w), oracle.all(l, w));
                    break;
                }
                case 45: feast(); break;
                case 46: case 47: {
                    int l = law0();
                    int i = number(oracle.nodes.size());
                    int s = between(0, random.nextBoolean() ? 20000 : 999999);
                    same("enough(" + l + ", " + i + ", " + s + ")", mules.enough(l, i, s), oracle.enough(l, i, s));
                    break;
                }
                case 48: {
                    int l = law0();
                    int i = number(oracle.nodes.size());
                    same("least(" + l + ", " + i + ")", mules.least(l, i), oracle.least(l, i));
                    break;
                }
                case 49: case 50: case 51: {
                    int l = law0();
                    int j = number(oracle.jars.size());
                    int d = between(0, 99999);
                    int n = between(1, 20);
                    int w = between(0, 2);
                    same("nights(" + l + ", " + j + ", " + d + ", " + n + ", " + w + ")", mules.nights(l, j, d, n, w), oracle.nights(l, j, d, n, w));
                    break;
                }
                case 52: {
                    int l = law0();
                    int a = number(oracle.nodes.size());
                    int b = number(oracle.nodes.size());
                    int h = hour();
                    int d = between(0, 99999);
                    int p = number(oracle.passes.size());
                    same("price(" + l + ", " + a + ", " + b + ", " + h + ", " + d + ", " + p + ")",
                        mules.price(l, a, b, h, d, p), oracle.price(l, a, b, h, d, p));
                    break;
                }
                case 53: case 54: {
                    int l = law0();
                    int n = between(0, 240);
                    int w = between(0, 1);
                    same("ahead(" + l + ", " + n + ", " + w + ")", mules.ahead(l, n, w), oracle.ahead(l, n, w));
                    break;
                }
                case 55: case 56: { int w = between(0, 10); same("count(" + w + ")", mules.count(w), oracle.count(w)); break; }
                case 57: { int k = between(0, 3); same("image(" + k + ")", mules.image(k), oracle.image(k)); break; }
                case 58: { int k = between(0, 3); same("back(" + k + ")", mules.back(k), oracle.back(k)); break; }
                default: tapes(); break;
            }
        }

        int law0() {
            return number(oracle.laws.size());
        }

        int hour() {
            return random.nextInt(4) == 0 ? between(0, 99999) : between(0, 2000);
        }

        void node() {
            int h = between(0, 400);
            int s = between(0, 4095);
            int c = between(0, 9);
            same("node(" + h + ", " + s + ", " + c + ")", mules.node(h, s, c), oracle.node(h, s, c));
        }

        void pass() {
            int a = number(oracle.nodes.size());
            int b = number(oracle.nodes.size());
            int h = random.nextBoolean() ? between(1, 24) : between(1, 4);
            int s = between(0, 9);
            int r = random.nextBoolean() ? between(0, 1000) : between(0, 60);
            same("pass(" + a + ", " + b + ", " + h + ", " + s + ", " + r + ")", mules.pass(a, b, h, s, r), oracle.pass(a, b, h, s, r));
        }

        void jar() {
            int n = number(oracle.nodes.size());
            int f = between(0, 9);
            int s = between(0, 9);
            int m = random.nextBoolean() ? between(0, 7) : between(0, 1);
            int p = between(0, 15);
            same("jar(" + n + ", " + f + ", " + s + ", " + m + ", " + p + ")", mules.jar(n, f, s, m, p), oracle.jar(n, f, s, m, p));
        }

        void fill() {
            int j = number(oracle.jars.size());
            int n = between(0, 99999);
            same("fill(" + j + ", " + n + ")", mules.fill(j, n), oracle.fill(j, n));
        }

        void leave() {
            int j = number(oracle.jars.size());
            int p = number(oracle.passes.size());
            if (j >= 0 && j < oracle.jars.size() && random.nextInt(4) > 0) {
                List<Integer> fit = oracle.passesAt(oracle.jars.get(j).where);
                if (!fit.isEmpty()) {
                    p = fit.get(random.nextInt(fit.size()));
                }
            }
            same("leave(" + j + ", " + p + ")", mules.leave(j, p) ? 1 : 0, oracle.leave(j, p) ? 1 : 0);
        }

        void tick() {
            int l = law0();
            int n = random.nextInt(4) == 0 ? between(1, 240) : between(1, 10);
            same("tick(" + l + ", " + n + ")", mules.tick(l, n), oracle.tick(l, n));
            for (int j = 0; j < oracle.jars.size(); j++) {
                for (int w = 0; w < 5; w++) {
                    int due = oracle.of(j, w);
                    if (wrong == null && mules.of(j, w) != due) {
                        wrong = "of(" + j + ", " + w + ") behind tick, call " + calls + ", is not " + due;
                    }
                }
            }
        }

        void looks() {
            if (random.nextBoolean()) {
                int n = number(oracle.nodes.size());
                int w = between(0, 5);
                same("at(" + n + ", " + w + ")", mules.at(n, w), oracle.at(n, w));
            } else {
                int j = number(oracle.jars.size());
                int w = between(0, 8);
                same("of(" + j + ", " + w + ")", mules.of(j, w), oracle.of(j, w));
            }
        }

        void layWay() {
            int n = number(oracle.nodes.size());
            same("from(" + n + ")", mules.from(n) ? 1 : 0, oracle.from(n) ? 1 : 0);
            int steps = random.nextInt(8);
            for (int i = 0; i < steps; i++) {
                int p = number(oracle.passes.size());
                if (oracle.wayNodes != null && random.nextInt(6) > 0) {
                    List<Integer> fit = oracle.passesAt(oracle.wayNodes.get(oracle.wayNodes.size() - 1));
                    if (!fit.isEmpty()) {
                        p = fit.get(random.nextInt(fit.size()));
                    }
                }
                same("lay(" + p + ")", mules.lay(p), oracle.lay(p));
            }
        }

        void tried() {
            int l = law0();
            int h = hour();
            int d = between(0, 99999);
            int f = between(0, 9);
            int s = between(0, 9);
            int w = between(0, 1);
            same("tried(" + l + ", " + h + ", " + d + ", " + f + ", " + s + ", " + w + ")",
                mules.tried(l, h, d, f, s, w), oracle.tried(l, h, d, f, s, w));
        }

        void best() {
            int l = law0();
            int a = number(oracle.nodes.size());
            int b = number(oracle.nodes.size());
            int h = hour();
            int d = between(0, random.nextBoolean() ? 99999 : 3000);
            int f = between(0, 9);
            int s = between(0, 9);
            for (int w = -1; w <= 9; w++) {
                if (w < 3 || random.nextInt(3) == 0) {
                    same("best(" + l + ", " + a + ", " + b + ", " + h + ", " + d + ", " + f + ", " + s + ", " + w + ")",
                        mules.best(l, a, b, h, d, f, s, w), oracle.best(l, a, b, h, d, f, s, w));
                }
            }
        }

        void warmer() {
            int l = law0();
            int h = hour();
            int d = between(0, random.nextBoolean() ? 99999 : 3000);
            int f = between(0, 9);
            int s = between(0, 9);
            int e = between(0, random.nextBoolean() ? 99999 : 2000);
            same("warmer(" + l + ", " + h + ", " + d + ", " + f + ", " + s + ", " + e + ")",
                mules.warmer(l, h, d, f, s, e), oracle.warmer(l, h, d, f, s, e));
        }

        void guess() {
            int l = law0();
            int h = hour();
            int d = between(0, random.nextBoolean() ? 99999 : 500);
            int f = between(0, 9);
            int s = between(0, 9);
            int late = random.nextInt(3) == 0 ? between(0, 12) : between(0, 4);
            int left = between(0, 99999);
            if (random.nextInt(5) > 0) {
                left = oracle.oneGuess(l, h, d, f, s, late, random);
            }
            int k = between(0, 5);
            int w = between(0, 2);
            same("guess(" + l + ", " + h + ", " + d + ", " + f + ", " + s + ", " + late + ", " + left + ", " + k + ", " + w + ")",
                mules.guess(l, h, d, f, s, late, left, k, w), oracle.guess(l, h, d, f, s, late, left, k, w));
        }

        void order() {
            for (int j = 0; j < oracle.jars.size() && random.nextInt(3) > 0; j++) {
                int n = between(0, 99999);
                same("fill(" + j + ", " + n + ")", mules.fill(j, n), oracle.fill(j, n));
            }
            int n = number(oracle.nodes.size());
            int u = random.nextBoolean() ? between(0, 99999) : oracle.now + between(0, 60);
            int d = random.nextBoolean() ? between(1, 99999) : between(1, 2000);
            int p = random.nextInt(3) == 0 ? between(0, 9999) : between(0, 3);
            same("order(" + n + ", " + u + ", " + d + ", " + p + ")", mules.order(n, u, d, p), oracle.order(n, u, d, p));
        }

        void feast() {
            int n = number(oracle.nodes.size());
            int day = random.nextInt(4) == 0 ? between(0, 4166) : oracle.now / 24 + between(0, 61);
            int d = random.nextBoolean() ? between(1, 99999) : between(1, 3000);
            same("feast(" + n + ", " + day + ", " + d + ")", mules.feast(n, day, d), oracle.feast(n, day, d));
        }

        void tapes() {
            int kind = random.nextInt(4);
            if (kind == 0) {
                int n = between(0, oracle.tape.length());
                same("end(" + n + ")", mules.end(n), oracle.end(n));
            } else if (kind == 1) {
                same("law()", mules.law(), oracle.law());
            } else {
                int a = random.nextInt();
                int b = random.nextInt();
                same("feed(" + a + ", " + b + ", 0, 1, -1)", mules.feed(a, b, 0, 1, -1), oracle.feed(a, b, 0, 1, -1));
            }
        }

        void law() {
            String text = new LawText(random).text();
            same("end(0)", mules.end(0), oracle.end(0));
            for (int i = 0; i < text.length(); i += 20) {
                int[] n = new int[5];
                for (int j = 0; j < 20; j++) {
                    int c = i + j < text.length() ? text.charAt(i + j) : 0;
                    n[j / 4] = n[j / 4] << 8 | c;
                }
                same("feed(" + Arrays.toString(n) + ")", mules.feed(n[0], n[1], n[2], n[3], n[4]), oracle.feed(n[0], n[1], n[2], n[3], n[4]));
            }
            int length = Math.min(400, text.length());
            same("end(" + length + ")", mules.end(length), oracle.end(length));
            same("law() [" + text + "]", mules.law(), oracle.law());
        }
    }

    /** Texts that are LAWS, or nearly so. */
    static final class LawText {
        final Random random;
        final StringBuilder text = new StringBuilder();
        static final String[] WORDS = {"month", "hour", "day", "height", "sun", "cold", "node", "drops", "felt", "salt", "gone"};
        static final String[] SIGNS = {"<", "<=", "=", ">=", ">"};

        LawText(Random random) {
            this.random = random;
        }

        String text() {
            int kind = random.nextInt(8);
            int clauses = kind == 0 ? 11 + random.nextInt(3) : 1 + random.nextInt(5);
            for (int i = 0; i < clauses; i++) {
                if (i > 0) {
                    put(";");
                }
                if (kind == 0) {
                    put(random.nextInt(10) == 0 ? "chain 3" : "rest 1");
                } else {
                    clause();
                }
            }
            if (kind == 1) {
                return many();
            }
            if (kind == 2) {
                return deep();
            }
            if (kind == 3 && text.length() > 0) {
                for (int i = 1 + random.nextInt(2); i > 0; i--) {
                    spoil();
                }
            }
            return text.length() > 400 ? text.substring(0, 400) : text.toString();
        }

        void spoil() {
            int at = random.nextInt(text.length());
            switch (random.nextInt(4)) {
                case 0: text.deleteCharAt(at); break;
                case 1: text.insert(at, "x;<=[]+-*/ 09AZ(!\u00e9\u0000".charAt(random.nextInt(20) % 19)); break;
                case 2: text.setCharAt(at, "ab <=>;][123456".charAt(random.nextInt(15))); break;
                default: text.setLength(at); break;
            }
            if (text.length() == 0) {
                text.append(' ');
            }
        }

        String many() {
            StringBuilder s = new StringBuilder("melt 1");
            int parts = 52 + random.nextInt(10);
            for (int i = 1; i < parts; i++) {
                s.append("+-*/".charAt(random.nextInt(4))).append(random.nextInt(5) == 0 ? "sun" : "" + random.nextInt(4));
            }
            int facts = random.nextInt(4);
            for (int i = 0; i < facts; i++) {
                s.append(i == 0 ? " if " : " or ").append("1").append(SIGNS[random.nextInt(5)]).append("hour");
            }
            return s.length() > 400 ? s.substring(0, 400) : s.toString();
        }

        String deep() {
            StringBuilder s = new StringBuilder("melt 7 if ");
            int depth = 8 + random.nextInt(4);
            int open = 0;
            for (int i = 0; i < depth; i++) {
                if (random.nextBoolean()) {
                    s.append("not ");
                } else {
                    s.append("[");
                    if (random.nextInt(4) == 0) {
                        s.append("hour<3 and ");
                    }
                    open++;
                }
            }
            s.append("hour > 5");
            for (int i = 0; i < open; i++) {
                s.append("]");
                if (random.nextInt(4) == 0) {
                    s.append(" or sun=3");
                }
            }
            return s.toString();
        }

        void put(String s) {
            text.append(s);
            if (random.nextInt(3) == 0) {
                text.append(' ');
            }
        }

        void word(String s) {
            if (text.length() > 0 && Character.isLetterOrDigit(text.charAt(text.length() - 1))) {
                text.append(' ');
            }
            put(s);
        }

        void clause() {
            int sort = random.nextInt(10);
            if (sort == 9) {
                word("chain");
                word("" + random.nextInt(11));
                return;
            }
            word(new String[] {"melt", "melt", "melt", "melt", "rest", "rest", "share", "share", "burst"}[sort]);
            text.append(' ');
            if (random.nextInt(3) == 0) {
                // A gentle LAW, so that something is left for the later questions.
                put(new String[] {"sun*2+hour/6", "height/50", "drops/100+1", "1+gone", "9-felt", "drops/9-salt*20"}[random.nextInt(6)]);
            } else {
                sum(sort > 3 && sort < 6 ? 30 : 200);
            }
            if (random.nextInt(3) == 0) {
                word("if");
                test(0);
            }
        }

        void test(int depth) {
            part(depth);
            for (int i = random.nextInt(3); i > 1; i--) {
                word("or");
                part(depth);
            }
        }

        void part(int depth) {
            fact(depth);
            for (int i = random.nextInt(3); i > 1; i--) {
                word("and");
                fact(depth);
            }
        }

        void fact(int depth) {
            int kind = depth > 4 ? 9 : random.nextInt(8);
            if (kind == 0) {
                word("not");
                fact(depth + 1);
            } else if (kind == 1) {
                put("[");
                test(depth + 1);
                put("]");
            } else {
                sum(24);
                put(SIGNS[random.nextInt(5)]);
                sum(24);
            }
        }

        void sum(int size) {
            value(size);
            for (int i = random.nextInt(4); i > 0; i--) {
                put("" + "++--*/".charAt(random.nextInt(6)));
                value(size);
            }
        }

        void value(int size) {
            if (random.nextBoolean()) {
                word(WORDS[random.nextInt(WORDS.length)]);
            } else {
                word("" + random.nextInt(random.nextInt(20) == 0 ? 100000 : size));
            }
        }
    }

    static final class Fault extends RuntimeException {
        private static final long serialVersionUID = 1L;
        final int number;

        Fault(int place, int kind) {
            number = 1 + 8 * place + kind;
        }
    }

    interface Sum {
        long of(Map<String, Long> words);
    }

    interface Fact {
        boolean of(Map<String, Long> words);
    }

    record Token(char kind, String text, int place) { }

    record Clause(String sort, Sum sum, Fact test) { }

    /** A LAW as a tree of functions. */
    static final class Rule {
        final List<Clause> clauses = new ArrayList<>();
        int chain = -1;
        private final List<Token> tokens = new ArrayList<>();
        private int next;
        private int parts;
        private int deep;

        Rule(String text) {
            cut(text);
            int n = 0;
            do {
                Token first = peek();
                if (!List.of("melt", "rest", "share", "burst", "chain").contains(first.text) || first.kind != 'w') {
                    throw new Fault(first.place, 0);
                }
                n++;
                boolean chained = first.text.equals("chain") && chain >= 0;
                if (n > 12 || chained) {
                    throw new Fault(first.place, 4);
                }
                next++;
                if (first.text.equals("chain")) {
                    Token number = take('n');
                    if (number.text.length() > 5 || Integer.parseInt(number.text) > 10) {
                        throw new Fault(number.place, 1);
                    }
                    chain = Integer.parseInt(number.text);
                } else {
                    Sum sum = sum();
                    Fact test = w -> true;
                    if (isNext('w', "if")) {
                        next++;
                        test = test();
                    }
                    clauses.add(new Clause(first.text, sum, test));
                }
                if (peek().kind == 'e') {
                    return;
                }
                if (!isNext('s', ";")) {
                    throw new Fault(peek().place, 0);
                }
                next++;
            } while (true);
        }

        void cut(String text) {
            int i = 0;
            while (i < text.length()) {
                char c = text.charAt(i);
                int j = i + 1;
                if (c == ' ') {
                    i++;
                    continue;
                }
                if (c >= 'a' && c <= 'z') {
                    while (j < text.length() && text.charAt(j) >= 'a' && text.charAt(j) <= 'z') {
                        j++;
                    }
                    tokens.add(new Token('w', text.substring(i, j), i));
                } else if (c >= '0' && c <= '9') {
                    while (j < text.length() && text.charAt(j) >= '0' && text.charAt(j) <= '9') {
                        j++;
                    }
                    tokens.add(new Token('n', text.substring(i, j), i));
                } else {
                    if ((c == '<' || c == '>') && j < text.length() && text.charAt(j) == '=') {
                        j++;
                    }
                    tokens.add(new Token('s', text.substring(i, j), i));
                }
                i = j;
            }
            tokens.add(new Token('e', "", text.length()));
        }

        Token peek() {
            return tokens.get(next);
        }

        boolean isNext(char kind, String text) {
            return peek().kind == kind && peek().text.equals(text);
        }

        Token take(char kind) {
            Token t = peek();
            if (t.kind != kind) {
                throw new Fault(t.place, 0);
            }
            next++;
            return t;
        }

        Sum sum() {
            Sum all = term();
            while (isNext('s', "+") || isNext('s', "-")) {
                boolean plus = isNext('s', "+");
                next++;
                Sum left = all;
                Sum right = term();
                all = plus ? w -> left.of(w) + right.of(w) : w -> left.of(w) - right.of(w);
            }
            return all;
        }

        Sum term() {
            Sum all = value();
            while (isNext('s', "*") || isNext('s', "/")) {
                boolean times = isNext('s', "*");
                next++;
                Sum left = all;
                Sum right = value();
                all = times ? w -> left.of(w) * right.of(w) : w -> right.of(w) == 0 ? 0 : left.of(w) / right.of(w);
            }
            return all;
        }

        Sum value() {
            Token t = peek();
            if (t.kind == 'w' && !Arrays.asList(LawText.WORDS).contains(t.text) || t.kind == 's' || t.kind == 'e') {
                throw new Fault(t.place, 0);
            }
            if (t.kind == 'n' && t.text.length() > 5) {
                throw new Fault(t.place, 1);
            }
            part(t);
            next++;
            if (t.kind == 'n') {
                long n = Long.parseLong(t.text);
                return w -> n;
            }
            return w -> w.get(t.text);
        }

        void part(Token t) {
            parts++;
            if (parts > 60) {
                throw new Fault(t.place, 3);
            }
        }

        Fact test() {
            Fact all = and();
            while (isNext('w', "or")) {
                next++;
                Fact left = all;
                Fact right = and();
                all = w -> left.of(w) || right.of(w);
            }
            return all;
        }

        Fact and() {
            Fact all = fact();
            while (isNext('w', "and")) {
                next++;
                Fact left = all;
                Fact right = fact();
                all = w -> left.of(w) && right.of(w);
            }
            return all;
        }

        Fact fact() {
            boolean not = isNext('w', "not");
            if (not || isNext('s', "[")) {
                if (deep == 10) {
                    throw new Fault(peek().place, 2);
                }
                deep++;
                next++;
                Fact inner = not ? fact() : test();
                deep--;
                if (not) {
                    return w -> !inner.of(w);
                }
                if (!isNext('s', "]")) {
                    throw new Fault(peek().place, 0);
                }
                next++;
                return inner;
            }
            Sum left = sum();
            Token sign = peek();
            if (sign.kind != 's' || !Arrays.asList(LawText.SIGNS).contains(sign.text)) {
                throw new Fault(sign.place, 0);
            }
            part(sign);
            next++;
            Sum right = sum();
            switch (sign.text) {
                case "<": return w -> left.of(w) < right.of(w);
                case "<=": return w -> left.of(w) <= right.of(w);
                case "=": return w -> left.of(w) == right.of(w);
                case ">=": return w -> left.of(w) >= right.of(w);
                default: return w -> left.of(w) > right.of(w);
            }
        }

        long get(String sort, Map<String, Long> words) {
            for (Clause c : clauses) {
                if (c.sort.equals(sort) && c.test.of(words)) {
                    return c.sum.of(words);
                }
            }
            return 0;
        }
    }

    static final class Jar implements Cloneable {
        int felt;
        int salt;
        int mule;
        int place;
        int drops;
        int where;
        int pass = -1;
        int gone;
        int to = -1;

        Jar copy() {
            try {
                return (Jar) clone();
            } catch (CloneNotSupportedException e) {
                throw new IllegalStateException(e);
            }
        }
    }

    record Kept(List<int[]> nodes, List<int[]> passes, List<Jar> jars, List<int[]> orders, List<int[]> feasts,
                List<Integer> wayNodes, List<Integer> wayPasses, int now, int month, int x) { }

    /** The document once more, without haste. */
    static final class Oracle {
        List<int[]> nodes = new ArrayList<>();
        List<int[]> passes = new ArrayList<>();
        List<Jar> jars = new ArrayList<>();
        List<int[]> orders = new ArrayList<>();
        List<int[]> feasts = new ArrayList<>();
        List<Integer> wayNodes;
        List<Integer> wayPasses = new ArrayList<>();
        final List<Rule> laws = new ArrayList<>();
        final Kept[] images = new Kept[4];
        StringBuilder tape = new StringBuilder();
        int now;
        int month;
        int x;

        static boolean in(long n, long low, long high) {
            return n >= low && n <= high;
        }

        boolean isNode(int n) {
            return in(n, 0, nodes.size() - 1);
        }

        boolean isJar(int n) {
            return in(n, 0, jars.size() - 1);
        }

        boolean isPass(int n) {
            return in(n, 0, passes.size() - 1);
        }

        boolean isLaw(int n) {
            return in(n, 0, laws.size() - 1);
        }

        List<Integer> passesAt(int node) {
            List<Integer> fit = new ArrayList<>();
            for (int p = 0; p < passes.size(); p++) {
                if (passes.get(p)[0] == node || passes.get(p)[1] == node) {
                    fit.add(p);
                }
            }
            return fit;
        }

        int over(int pass, int node) {
            int[] p = passes.get(pass);
            return p[0] == node ? p[1] : p[1] == node ? p[0] : -1;
        }

        Map<String, Long> words(int hour) {
            Map<String, Long> w = new HashMap<>();
            for (String s : LawText.WORDS) {
                w.put(s, 0L);
            }
            long day = hour / 24;
            w.put("hour", (long) hour % 24);
            w.put("day", day);
            w.put("month", (month + day / 30) % 12);
            return w;
        }

        Map<String, Long> nodeWords(int hour, int node, int drops, int felt, int salt) {
            Map<String, Long> w = words(hour);
            w.put("height", (long) nodes.get(node)[0]);
            w.put("cold", (long) nodes.get(node)[2]);
            w.put("node", (long) node);
            load(w, drops, felt, salt);
            return w;
        }

        Map<String, Long> passWords(int hour, int pass, int a, int gone, int[] load) {
            Map<String, Long> w = words(hour);
            int n = passes.get(pass)[2];
            int b = over(pass, a);
            w.put("height", (long) Math.floorDiv(nodes.get(a)[0] * (n - gone) + nodes.get(b)[0] * gone, n));
            w.put("sun", (long) passes.get(pass)[3]);
            w.put("node", 12L);
            w.put("gone", (long) gone);
            load(w, load[0], load[1], load[2]);
            return w;
        }

        static void load(Map<String, Long> w, int drops, int felt, int salt) {
            w.put("drops", (long) drops);
            w.put("felt", (long) felt);
            w.put("salt", (long) salt);
        }

        static int clamp(long n, int high) {
            return (int) Math.max(0, Math.min(high, n));
        }

        int node(int height, int snow, int cold) {
            if (nodes.size() == 12 || !in(height, 0, 400) || !in(snow, 0, 4095) || !in(cold, 0, 9)) {
                return -1;
            }
            nodes.add(new int[] {height, snow, cold, 0});
            return nodes.size() - 1;
        }

        int pass(int one, int other, int hours, int sun, int risk) {
            if (passes.size() == 20 || !isNode(one) || !isNode(other) || one == other || !in(hours, 1, 24) || !in(sun, 0, 9) || !in(risk, 0, 1000)) {
                return -1;
            }
            passes.add(new int[] {one, other, hours, sun, risk});
            return passes.size() - 1;
        }

        int jar(int node, int felt, int salt, int mule, int place) {
            if (jars.size() == 16 || !isNode(node) || !in(felt, 0, 9) || !in(salt, 0, 9) || !in(mule, 0, 7) || !in(place, 0, 15)) {
                return -1;
            }
            Jar j = new Jar();
            j.where = node;
            j.felt = felt;
            j.salt = salt;
            j.mule = mule;
            j.place = place;
            jars.add(j);
            return jars.size() - 1;
        }

        int month(int n) {
            int was = month;
            if (!in(n, 0, 11)) {
                return -1;
            }
            month = n;
            return was;
        }

        int seed(int n) {
            int was = x;
            if (n < 0) {
                return -1;
            }
            x = n;
            return was;
        }

        int feed(int... five) {
            if (tape.length() > 380) {
                return -1;
            }
            for (int n : five) {
                tape.append((char) (n >>> 24)).append((char) (n >> 16 & 255)).append((char) (n >> 8 & 255)).append((char) (n & 255));
            }
            return tape.length();
        }

        int end(int n) {
            if (!in(n, 0, tape.length())) {
                return -1;
            }
            tape.setLength(n);
            return n;
        }

        int law() {
            if (laws.size() == 6) {
                return -1;
            }
            String text = tape.toString();
            tape.setLength(0);
            try {
                laws.add(new Rule(text));
                return laws.size() - 1;
            } catch (Fault f) {
                return -2 - f.number;
            }
        }

        int monthNow() {
            return (month + now / 24 / 30) % 12;
        }

        boolean stands(int jar) {
            return isJar(jar) && jars.get(jar).where < 12;
        }

        int fill(int jar, int n) {
            if (!stands(jar) || !in(n, 0, 99999) || (nodes.get(jars.get(jar).where)[1] & 1 << monthNow()) == 0) {
                return -1;
            }
            int was = jars.get(jar).drops;
            jars.get(jar).drops = n;
            return was;
        }

        int pour(int jar) {
            if (!stands(jar)) {
                return -1;
            }
            Jar j = jars.get(jar);
            int[] node = nodes.get(j.where);
            int was = node[3];
            node[3] = Math.min(999999, was + j.drops);
            j.drops = 0;
            return node[3] - was;
        }

        int store(int node, int n) {
            if (!isNode(node) || !in(n, 0, 999999)) {
                return -1;
            }
            int was = nodes.get(node)[3];
            nodes.get(node)[3] = n;
            return was;
        }

        boolean leave(int jar, int pass) {
            if (!stands(jar) || !isPass(pass) || over(pass, jars.get(jar).where) < 0) {
                return false;
            }
            Jar j = jars.get(jar);
            j.to = over(pass, j.where);
            j.where = 12;
            j.pass = pass;
            j.gone = 0;
            return true;
        }

        int draw() {
            x = (int) ((x * 1103515245L + 12345L) % 2147483648L);
            return x / 65536 % 1000;
        }

        int tick(int law, int n) {
            if (!isLaw(law) || !in(n, 1, 240) || now + n > 99999) {
                return -1;
            }
            for (int i = 0; i < n; i++) {
                hour(laws.get(law));
            }
            return now;
        }

        int meltOf(Rule law, Jar j) {
            Map<String, Long> w = j.where == 12
                ? passWords(now, j.pass, over(j.pass, j.to), j.gone, new int[] {j.drops, j.felt, j.salt})
                : nodeWords(now, j.where, j.drops, j.felt, j.salt);
            return clamp(law.get("melt", w), j.drops);
        }

        void hour(Rule law) {
            for (Jar j : jars) {
                if (j.where == 13) {
                    continue;
                }
                j.drops -= meltOf(law, j);
                if (j.where == 12) {
                    j.gone++;
                    if (j.gone == passes.get(j.pass)[2]) {
                        come(law, j);
                    }
                }
            }
            for (int n = 0; n < nodes.size(); n++) {
                int[] node = nodes.get(n);
                node[3] -= clamp(law.get("rest", nodeWords(now, n, node[3], 0, 0)), node[3]);
            }
            now++;
        }

        void come(Rule law, Jar j) {
            int pass = j.pass;
            int node = j.to;
            j.where = node;
            j.pass = -1;
            j.to = -1;
            j.gone = 0;
            int share = clamp(law.get("share", nodeWords(now + 1, node, j.drops, j.felt, j.salt)), 100);
            int taken = (int) Math.floor(j.drops * (double) share / 100 + 1e-7);
            j.drops -= taken;
            nodes.get(node)[3] = Math.min(999999, nodes.get(node)[3] + taken);
            if (draw() < passes.get(pass)[4]) {
                go(j);
                return;
            }
            if (draw() < clamp(law.get("burst", nodeWords(now + 1, node, j.drops, j.felt, j.salt)), 1000)) {
                go(j);
                int place = j.place;
                while (true) {
                    Jar behind = null;
                    for (int at = place + 1; at <= 15 && behind == null; at++) {
                        for (Jar other : jars) {
                            boolean near = other.where == node || other.where == 12 && other.pass == pass;
                            if (behind == null && other.where != 13 && other.mule == j.mule && near && other.place == at) {
                                behind = other;
                            }
                        }
                    }
                    if (behind == null || behind.felt >= Math.max(0, law.chain)) {
                        return;
                    }
                    go(behind);
                    place = behind.place;
                }
            }
        }

        static void go(Jar j) {
            j.where = 13;
            j.pass = -1;
            j.to = -1;
            j.gone = 0;
            j.drops = 0;
        }

        int at(int node, int what) {
            if (!isNode(node) || !in(what, 0, 5)) {
                return -1;
            }
            if (what < 4) {
                return nodes.get(node)[what];
            }
            if (what == 4) {
                return nodes.get(node)[1] >> monthNow() & 1;
            }
            return (int) jars.stream().filter(j -> j.where == node).count();
        }

        int of(int jar, int what) {
            if (!isJar(jar) || !in(what, 0, 8)) {
                return -2;
            }
            Jar j = jars.get(jar);
            return new int[] {j.drops, j.where, j.pass, j.gone, j.to, j.felt, j.salt, j.mule, j.place}[what];
        }

        int melt(int law, int jar) {
            if (!isLaw(law) || !isJar(jar) || jars.get(jar).where == 13) {
                return -1;
            }
            return meltOf(laws.get(law), jars.get(jar));
        }

        int lay(int pass) {
            if (wayNodes == null || !isPass(pass) || wayPasses.size() == 6) {
                return -1;
            }
            int to = over(pass, wayNodes.get(wayNodes.size() - 1));
            if (to < 0 || wayNodes.contains(to)) {
                return -1;
            }
            wayNodes.add(to);
            wayPasses.add(pass);
            return wayPasses.size();
        }

        boolean from(int node) {
            if (!isNode(node)) {
                return false;
            }
            wayNodes = new ArrayList<>(List.of(node));
            wayPasses = new ArrayList<>();
            return true;
        }

        /** LEFT of a load that waits so long ahead of each PASS. */
        int left(Rule law, int start, List<Integer> row, int[] waits, int hour, int[] load, int warmer) {
            int node = start;
            int drops = load[0];
            int time = hour;
            for (int i = 0; i < row.size(); i++) {
                for (int w = 0; w < waits[i]; w++) {
                    drops -= clamp(law.get("melt", nodeWords(time, node, drops, load[1], load[2])) + warmer, drops);
                    time++;
                }
                int pass = row.get(i);
                for (int gone = 0; gone < passes.get(pass)[2]; gone++) {
                    int[] load2 = {drops, load[1], load[2]};
                    drops -= clamp(law.get("melt", passWords(time, pass, node, gone, load2)) + warmer, drops);
                    time++;
                }
                node = over(pass, node);
                drops -= drops * clamp(law.get("share", nodeWords(time, node, drops, load[1], load[2])), 100) / 100;
            }
            return drops;
        }

        int hoursOf(List<Integer> row) {
            int sum = 0;
            for (int p : row) {
                sum += passes.get(p)[2];
            }
            return sum;
        }

        static boolean isLoad(int hour, int drops, int felt, int salt) {
            return in(hour, 0, 99999) && in(drops, 0, 99999) && in(felt, 0, 9) && in(salt, 0, 9);
        }

        int tried(int law, int hour, int drops, int felt, int salt, int what) {
            if (!isLaw(law) || !isLoad(hour, drops, felt, salt) || !in(what, 0, 1) || wayNodes == null) {
                return -1;
            }
            if (what == 1) {
                return hoursOf(wayPasses);
            }
            return left(laws.get(law), wayNodes.get(0), wayPasses, new int[6], hour, new int[] {drops, felt, salt}, 0);
        }

        void ways(int node, int to, List<Integer> seen, List<Integer> row, int barred, List<List<Integer>> found) {
            if (node == to) {
                found.add(new ArrayList<>(row));
                return;
            }
            if (row.size() == 6) {
                return;
            }
            for (int p = 0; p < passes.size(); p++) {
                int next = over(p, node);
                if (next < 0 || p == barred || seen.contains(next)) {
                    continue;
                }
                row.add(p);
                seen.add(next);
                ways(next, to, seen, row, barred, found);
                row.remove(row.size() - 1);
                seen.remove(seen.size() - 1);
            }
        }

        List<List<Integer>> waysOf(int from, int to, int barred) {
            List<List<Integer>> found = new ArrayList<>();
            ways(from, to, new ArrayList<>(List.of(from)), new ArrayList<>(), barred, found);
            return found;
        }

        /** LEFT, the hour, the row; null: there is no WAY. */
        List<Integer> bestOf(Rule law, int from, int to, int hour, int[] load, int barred) {
            List<Integer> best = null;
            for (int h = 0; h < 24; h++) {
                for (List<Integer> row : waysOf(from, to, barred)) {
                    int left = left(law, from, row, new int[6], hour + h, load, 0);
                    if (best == null || left > best.get(0)) {
                        best = new ArrayList<>(List.of(left, h));
                        best.addAll(row);
                    }
                }
            }
            return best;
        }

        List<Integer> lastBest;
        String lastAsked = "";

        int best(int law, int from, int to, int hour, int drops, int felt, int salt, int what) {
            if (!isLaw(law) || !isNode(from) || !isNode(to) || from == to || !isLoad(hour, drops, felt, salt) || !in(what, 0, 8)) {
                return -1;
            }
            String asked = Arrays.toString(new int[] {law, from, to, hour, drops, felt, salt, now, month, nodes.size(), passes.size()});
            if (!asked.equals(lastAsked) || what == 0) {
                lastBest = bestOf(laws.get(law), from, to, hour, new int[] {drops, felt, salt}, -1);
                lastAsked = asked;
            }
            if (lastBest == null) {
                return -3;
            }
            if (what < 2) {
                return lastBest.get(what);
            }
            if (what == 2) {
                return lastBest.size() - 2;
            }
            return what - 1 < lastBest.size() ? lastBest.get(what - 1) : -2;
        }

        int[] hoursFrom(int node) {
            int[] far = new int[nodes.size()];
            Arrays.fill(far, 99999);
            far[node] = 0;
            for (int round = 0; round < 20; round++) {
                for (int[] p : passes) {
                    far[p[0]] = Math.min(far[p[0]], far[p[1]] + p[2]);
                    far[p[1]] = Math.min(far[p[1]], far[p[0]] + p[2]);
                }
            }
            return far;
        }

        int soonest(int from, int to) {
            if (!isNode(from) || !isNode(to)) {
                return -1;
            }
            int far = hoursFrom(from)[to];
            return far >= 99999 ? -2 : far;
        }

        int nearest(int node, int m) {
            if (!isNode(node) || !in(m, 0, 11)) {
                return -1;
            }
            int[] far = hoursFrom(node);
            int best = -2;
            for (int n = nodes.size() - 1; n >= 0; n--) {
                if ((nodes.get(n)[1] & 1 << m) != 0 && far[n] < 99999 && (best < 0 || far[n] <= far[best])) {
                    best = n;
                }
            }
            return best;
        }

        int warmer(int law, int hour, int drops, int felt, int salt, int least) {
            if (!isLaw(law) || !isLoad(hour, drops, felt, salt) || !in(least, 0, 99999) || wayNodes == null) {
                return -1;
            }
            if (drops < least) {
                return -2;
            }
            for (int w = 9999; w >= 0; w--) {
                if (left(laws.get(law), wayNodes.get(0), wayPasses, new int[6], hour, new int[] {drops, felt, salt}, w) >= least) {
                    return w;
                }
            }
            return -2;
        }

        static void spread(int n, int hours, int[] waits, int i, List<int[]> found) {
            if (i == n) {
                if (hours == 0) {
                    found.add(waits.clone());
                }
                return;
            }
            for (int w = 0; w <= hours; w++) {
                waits[i] = w;
                spread(n, hours - w, waits, i + 1, found);
            }
        }

        int oneGuess(int law, int hour, int drops, int felt, int salt, int late, Random random) {
            if (!isLaw(law) || !isLoad(hour, drops, felt, salt) || !in(late, 0, 12) || wayNodes == null) {
                return 0;
            }
            List<int[]> all = new ArrayList<>();
            spread(wayPasses.size(), late, new int[6], 0, all);
            int[] waits = all.isEmpty() ? new int[6] : all.get(random.nextInt(all.size()));
            return left(laws.get(law), wayNodes.get(0), wayPasses, waits, hour, new int[] {drops, felt, salt}, 0);
        }

        int guess(int law, int hour, int drops, int felt, int salt, int late, int left, int k, int what) {
            if (!isLaw(law) || !isLoad(hour, drops, felt, salt) || !in(late, 0, 12) || !in(left, 0, 99999) || !in(what, 0, 2)) {
                return -1;
            }
            if (wayNodes == null || what > 0 && !in(k, 0, wayPasses.size() - 1)) {
                return -1;
            }
            List<int[]> all = new ArrayList<>();
            spread(wayPasses.size(), late, new int[6], 0, all);
            int found = 0;
            int least = 99;
            int most = -1;
            for (int[] waits : all) {
                if (left(laws.get(law), wayNodes.get(0), wayPasses, waits, hour, new int[] {drops, felt, salt}, 0) == left) {
                    found++;
                    if (what > 0) {
                        least = Math.min(least, waits[k]);
                        most = Math.max(most, waits[k]);
                    }
                }
            }
            return what == 0 ? found : found == 0 ? -2 : what == 1 ? least : most;
        }

        int order(int node, int until, int drops, int price) {
            if (orders.size() == 6 || !isNode(node) || !in(until, 0, 99999) || !in(drops, 1, 99999) || !in(price, 0, 9999)) {
                return -1;
            }
            orders.add(new int[] {node, until, drops, price});
            return orders.size();
        }

        int serves(int law, int jar, int order) {
            if (!isLaw(law) || !isJar(jar) || !in(order, 0, orders.size() - 1)) {
                return -1;
            }
            Jar j = jars.get(jar);
            if (j.where > 11) {
                return -2;
            }
            int[] o = orders.get(order);
            int most = -1;
            for (List<Integer> row : waysOf(j.where, o[0], -1)) {
                if (now + hoursOf(row) <= o[1]) {
                    most = Math.max(most, left(laws.get(law), j.where, row, new int[6], now, new int[] {j.drops, j.felt, j.salt}, 0));
                }
            }
            return most >= o[2] ? most : -2;
        }

        int most(boolean[][] fits, int order, int used, Map<Integer, Integer> known) {
            if (order == orders.size()) {
                return 0;
            }
            int key = order << 16 | used;
            Integer had = known.get(key);
            if (had != null) {
                return had;
            }
            int most = most(fits, order + 1, used, known);
            for (int j = 0; j < jars.size(); j++) {
                if (fits[order][j] && (used >> j & 1) == 0) {
                    most = Math.max(most, orders.get(order)[3] + most(fits, order + 1, used | 1 << j, known));
                }
            }
            known.put(key, most);
            return most;
        }

        int all(int law, int what) {
            if (!isLaw(law) || !in(what, 0, 6)) {
                return -1;
            }
            boolean[][] fits = new boolean[6][16];
            for (int o = 0; o < orders.size(); o++) {
                for (int j = 0; j < jars.size(); j++) {
                    fits[o][j] = serves(law, j, o) >= 0;
                }
            }
            Map<Integer, Integer> known = new HashMap<>();
            int most = most(fits, 0, 0, known);
            if (what == 0) {
                return most;
            }
            int used = 0;
            int paid = 0;
            int[] row = {-2, -2, -2, -2, -2, -2};
            for (int o = 0; o < orders.size(); o++) {
                row[o] = 16;
                for (int j = 0; j < jars.size() && row[o] == 16; j++) {
                    boolean free = fits[o][j] && (used >> j & 1) == 0;
                    if (free && paid + orders.get(o)[3] + most(fits, o + 1, used | 1 << j, known) == most) {
                        row[o] = j;
                        used |= 1 << j;
                        paid += orders.get(o)[3];
                    }
                }
            }
            return row[what - 1];
        }

        int feast(int node, int day, int drops) {
            if (feasts.size() == 8 || !isNode(node) || !in(day, 0, 4166) || !in(drops, 1, 99999)) {
                return -1;
            }
            feasts.add(new int[] {node, day, drops});
            return feasts.size();
        }

        int enough(int law, int node, int store) {
            if (!isLaw(law) || !isNode(node) || !in(store, 0, 999999)) {
                return -1;
            }
            int has = store;
            int last = -1;
            for (int[] f : feasts) {
                if (f[0] == node) {
                    last = Math.max(last, f[1] * 24 + 12);
                }
            }
            for (int h = now; h < now + 1440 && h <= last; h++) {
                for (int[] f : feasts) {
                    if (f[0] == node && f[1] * 24 + 12 == h) {
                        if (has < f[2]) {
                            return 0;
                        }
                        has -= f[2];
                    }
                }
                has -= clamp(laws.get(law).get("rest", nodeWords(h, node, has, 0, 0)), has);
            }
            return 1;
        }

        int least(int law, int node) {
            if (!isLaw(law) || !isNode(node)) {
                return -1;
            }
            for (int s = 0; s <= 99900; s += 100) {
                if (enough(law, node, s) == 1) {
                    return s;
                }
            }
            return -2;
        }

        int nights(int law, int jar, int drops, int n, int what) {
            if (!isLaw(law) || !isJar(jar) || !in(drops, 0, 99999) || !in(n, 1, 20) || !in(what, 0, 2) || wayNodes == null) {
                return -1;
            }
            int was = x;
            int[] sums = new int[3];
            Jar j = jars.get(jar);
            Rule rule = laws.get(law);
            for (int i = 0; i < n; i++) {
                int has = drops;
                int time = now;
                boolean lost = false;
                for (int k = 0; k < wayPasses.size() && !lost; k++) {
                    int p = wayPasses.get(k);
                    has = left(rule, wayNodes.get(k), List.of(p), new int[1], time, new int[] {has, j.felt, j.salt}, 0);
                    time += passes.get(p)[2];
                    if (draw() < passes.get(p)[4]) {
                        sums[2]++;
                        lost = true;
                    } else if (draw() < clamp(rule.get("burst", nodeWords(time, wayNodes.get(k + 1), has, j.felt, j.salt)), 1000)) {
                        lost = true;
                    }
                }
                if (!lost) {
                    sums[0]++;
                    sums[1] += has;
                }
            }
            x = was;
            return sums[what];
        }

        int price(int law, int from, int to, int hour, int drops, int pass) {
            if (!isLaw(law) || !isNode(from) || !isNode(to) || from == to || !isLoad(hour, drops, 0, 0) || !isPass(pass)) {
                return -1;
            }
            List<Integer> with = bestOf(laws.get(law), from, to, hour, new int[] {drops, 0, 0}, -1);
            if (with == null) {
                return -3;
            }
            List<Integer> without = bestOf(laws.get(law), from, to, hour, new int[] {drops, 0, 0}, pass);
            return without == null ? with.get(0) : with.get(0) - without.get(0);
        }

        int ahead(int law, int n, int what) {
            if (!isLaw(law) || !in(n, 0, 240) || !in(what, 0, 1)) {
                return -1;
            }
            Kept kept = keep();
            for (int i = 0; i < n; i++) {
                hour(laws.get(law));
            }
            int drops = 0;
            int here = 0;
            for (Jar j : jars) {
                drops += j.drops;
                here += j.where == 13 ? 0 : 1;
            }
            for (int[] node : nodes) {
                drops += node[3];
            }
            bring(kept);
            return what == 0 ? drops : here;
        }

        int count(int what) {
            if (!in(what, 0, 10)) {
                return -1;
            }
            return new int[] {nodes.size(), passes.size(), jars.size(), laws.size(), now, monthNow(), orders.size(), feasts.size(),
                wayNodes == null ? -1 : wayPasses.size(), x, tape.length()}[what];
        }

        static List<int[]> copy(List<int[]> rows) {
            List<int[]> made = new ArrayList<>();
            for (int[] row : rows) {
                made.add(row.clone());
            }
            return made;
        }

        static List<Jar> copyJars(List<Jar> rows) {
            List<Jar> made = new ArrayList<>();
            for (Jar row : rows) {
                made.add(row.copy());
            }
            return made;
        }

        Kept keep() {
            return new Kept(copy(nodes), copy(passes), copyJars(jars), copy(orders), copy(feasts),
                wayNodes == null ? null : new ArrayList<>(wayNodes), new ArrayList<>(wayPasses), now, month, x);
        }

        void bring(Kept k) {
            nodes = copy(k.nodes);
            passes = copy(k.passes);
            jars = copyJars(k.jars);
            orders = copy(k.orders);
            feasts = copy(k.feasts);
            wayNodes = k.wayNodes == null ? null : new ArrayList<>(k.wayNodes);
            wayPasses = new ArrayList<>(k.wayPasses);
            now = k.now;
            month = k.month;
            x = k.x;
            lastAsked = "";
        }

        int image(int k) {
            if (!in(k, 0, 3)) {
                return -1;
            }
            images[k] = keep();
            return now;
        }

        int back(int k) {
            if (!in(k, 0, 3) || images[k] == null) {
                return -1;
            }
            bring(images[k]);
            return now;
        }
    }
}

import java.util.ArrayList;
import java.util.List;

/**
 * What the tests of the boundaries share: a sentence of the document that is being tested, the answers that are due,
 * a world with some of everything, and a look at all of an object that can be seen from outside.
 */
final class Edges {
    static final int MIN = Integer.MIN_VALUE;
    static final int MAX = Integer.MAX_VALUE;

    interface Make {
        SnowMules make();
    }

    interface Call {
        long on(SnowMules m);
    }

    interface CallWith {
        long on(SnowMules m, int n);
    }

    private static String sentence = "";
    private static int sentences;
    private static int asked;
    private static int wrong;

    private Edges() {
    }

    /** The sentence that the answers from here on are due by. */
    static void says(String quote) {
        sentence = quote;
        sentences++;
    }

    static void due(String what, long got, long want) {
        asked++;
        if (got != want) {
            wrong++;
            System.out.println("\"" + sentence + "\": " + what + " answered " + got + ", due is " + want);
        }
    }

    static void due(String what, boolean got, boolean want) {
        due(what, bit(got), bit(want));
    }

    static int bit(boolean b) {
        return b ? 1 : 0;
    }

    static void report() {
        System.out.println(sentences + " sentences, " + asked + " answers asked, " + wrong + " not as due");
        if (wrong != 0) {
            System.exit(1);
        }
    }

    /** A call that is refused has its answer, and all that can be seen behind it is as without the call. */
    static void refused(String what, Make maker, Call call, long answer) {
        SnowMules m = maker.make();
        due(what, call.on(m), answer);
        same(what, m, maker.make());
    }

    /** A call that only asks answers so, and changes nothing. */
    static void asks(String what, Make maker, Call call, long answer) {
        refused(what, maker, call, answer);
    }

    /** From least to most a number is taken; beyond them on both sides the call is refused, and nothing happens. */
    static void range(String what, int least, int most, long refusal, CallWith call) {
        for (int n : new int[] {least, most}) {
            due(what + " takes " + n, call.on(some(), n) != refusal, true);
        }
        for (int n : new int[] {least - 1, most == MAX ? MIN : most + 1, MIN, most == MAX ? MIN : MAX}) {
            refused(what + " with " + n, Edges::some, m -> call.on(m, n), refusal);
        }
    }

    static void same(String what, SnowMules one, SnowMules other) {
        List<String> a = look(one);
        List<String> b = look(other);
        String difference = "";
        for (int i = 0; i < Math.max(a.size(), b.size()) && difference.isEmpty(); i++) {
            String left = i < a.size() ? a.get(i) : "nothing";
            String right = i < b.size() ? b.get(i) : "nothing";
            if (!left.equals(right)) {
                difference = left + " instead of " + right;
            }
        }
        asked++;
        if (!difference.isEmpty()) {
            wrong++;
            System.out.println("\"" + sentence + "\": behind " + what + " something has changed: " + difference);
        }
    }

    static void feed(SnowMules m, String text) {
        for (int i = 0; i < text.length(); i += 20) {
            int[] n = new int[5];
            for (int j = 0; j < 20; j++) {
                n[j / 4] = n[j / 4] << 8 | (i + j < text.length() ? text.charAt(i + j) & 255 : 0);
            }
            m.feed(n[0], n[1], n[2], n[3], n[4]);
        }
    }

    static int law(SnowMules m, String text) {
        m.end(0);
        feed(m, text);
        m.end(text.length());
        return m.law();
    }

    /** Hours go by in which nothing happens, by a LAW that is empty of melt. */
    static void hours(SnowMules m, int law, int n) {
        for (int left = n; left > 0; left -= 240) {
            m.tick(law, Math.min(240, left));
        }
    }

    /**
     * NODES 0 to 4 (4 lies apart), PASSES 0 to 4, JARS 0 (stands at 0), 1 (on PASS 0), 2 (GONE), 3 (stands at 2, where
     * there is no snow), LAWS 0 to 2, ORDERS 0 to 2, FEASTS 0 to 2, a WAY of two PASSES, IMAGES 0 and 2, a text on the TAPE.
     */
    static SnowMules some() {
        SnowMules m = new SnowMules();
        law(m, "melt 9-cold+sun; rest 2; share 10 if node=2; burst 30; chain 3");
        law(m, "melt drops/50+hour; rest drops/100");
        law(m, "chain 0");
        m.node(300, 4095, 2);
        m.node(200, 1, 4);
        m.node(100, 0, 6);
        m.node(50, 4, 8);
        m.month(2);
        m.pass(0, 1, 3, 1, 0);
        m.pass(1, 2, 2, 2, 10);
        m.pass(2, 3, 1, 3, 1000);
        m.jar(0, 3, 1, 0, 0);
        m.jar(0, 2, 0, 0, 1);
        m.jar(2, 1, 1, 1, 2);
        m.jar(2, 5, 5, 2, 3);
        m.fill(0, 5000);
        m.fill(1, 4000);
        m.image(0);
        m.leave(2, 2);
        m.tick(2, 1);
        m.leave(1, 0);
        m.tick(0, 1);
        m.store(2, 777);
        m.node(0, 0, 0);
        m.pass(0, 2, 7, 0, 500);
        m.order(1, 40, 3000, 5);
        m.image(2);
        m.order(2, 99, 100, 9);
        m.order(0, 50, 1, 0);
        m.pass(1, 0, 4, 9, 0);
        m.feast(2, 1, 300);
        m.feast(2, 0, 100);
        m.feast(0, 3, 50);
        m.from(0);
        m.lay(0);
        m.lay(1);
        m.seed(4711);
        feed(m, "melt 7+hour*2");
        m.end(13);
        return m;
    }

    /** All that an object tells of itself; what changes it stands at the end. */
    static List<String> look(SnowMules m) {
        List<String> seen = new ArrayList<>();
        lookAtThings(m, seen);
        int laws = m.count(3);
        for (int law = 0; law < laws; law++) {
            see(seen, "ahead " + law, m.ahead(law, 30, 0));
            see(seen, "tried " + law, m.tried(law, 3, 9000, 1, 1, 0));
            see(seen, "tried hours " + law, m.tried(law, 3, 9000, 1, 1, 1));
            for (int what = 0; what <= 6; what++) {
                see(seen, "all " + law + " " + what, m.all(law, what));
            }
        }
        int nodes = m.count(0);
        for (int node = 0; node < nodes; node++) {
            see(seen, "least " + node, m.least(0, node));
        }
        int jars = m.count(2);
        for (int jar = 0; jar < jars; jar++) {
            see(seen, "melt " + jar, m.melt(0, jar));
            see(seen, "serves " + jar, m.serves(0, jar, 0));
            see(seen, "serves " + jar, m.serves(0, jar, 1));
        }
        see(seen, "nights", m.nights(0, 0, 9000, 20, 1));
        see(seen, "nights", m.nights(0, 0, 9000, 20, 2));
        lookAtPasses(m, seen);
        see(seen, "the law of the tape", m.law());
        see(seen, "its melt", m.melt(laws, 0));
        lookAtImages(m, seen);
        return seen;
    }

    private static void lookAtThings(SnowMules m, List<String> seen) {
        for (int what = 0; what <= 10; what++) {
            see(seen, "count " + what, m.count(what));
        }
        int nodes = m.count(0);
        for (int node = 0; node < nodes; node++) {
            for (int what = 0; what <= 5; what++) {
                see(seen, "at " + node + " " + what, m.at(node, what));
            }
        }
        int jars = m.count(2);
        for (int jar = 0; jar < jars; jar++) {
            for (int what = 0; what <= 8; what++) {
                see(seen, "of " + jar + " " + what, m.of(jar, what));
            }
        }
    }

    private static void lookAtPasses(SnowMules m, List<String> seen) {
        int passes = Math.min(8, m.count(1));
        for (int node = 0; node < 3; node++) {
            for (int pass = 0; pass < passes; pass++) {
                m.from(node);
                if (m.lay(pass) == 1) {
                    see(seen, "hours of " + pass + " from " + node, m.tried(0, 0, 9000, 0, 0, 1));
                    see(seen, "left by " + pass + " from " + node, m.tried(0, 0, 9000, 0, 0, 0));
                    see(seen, "stolen by " + pass + " from " + node, m.nights(0, 0, 9000, 20, 2));
                }
            }
        }
    }

    private static void lookAtImages(SnowMules m, List<String> seen) {
        for (int k = 0; k < 4; k++) {
            if (m.back(k) != SnowMules.NONE) {
                see(seen, "image " + k, m.count(4));
                for (int what = 0; what <= 9; what++) {
                    see(seen, "count " + what + " in image " + k, m.count(what));
                }
                see(seen, "drops in image " + k, m.of(0, 0));
                see(seen, "drops ahead in image " + k, m.ahead(1, 5, 0));
            }
        }
    }

    private static void see(List<String> seen, String what, long answer) {
        seen.add(what + ": " + answer);
    }
}

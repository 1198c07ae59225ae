/** Each promise of the document by hand: ordinary calls, the edges that it names, and wrong inputs. */
public final class PromiseTest {
    private static final int MIN = Integer.MIN_VALUE;
    private static final int MAX = Integer.MAX_VALUE;
    private static int wrong = 0;
    private static int asked = 0;

    public static void main(String[] args) {
        newObject();
        nodes();
        passes();
        jars();
        monthAndSeed();
        tape();
        lawNumbers();
        lawFaults();
        lawLimits();
        lawMeaning();
        fillAndPour();
        stores();
        leaving();
        ticking();
        arriving();
        chains();
        looking();
        melting();
        laying();
        trying();
        bestWays();
        soonestAndNearest();
        warmers();
        guesses();
        ordersAndServing();
        allOrders();
        feasts();
        nightsOut();
        prices();
        aheads();
        counts();
        images();
        callsBehindCalls();
        hoursOfShares();
        System.out.println(asked + " answers asked, " + wrong + " not as due");
        if (wrong != 0) {
            System.exit(1);
        }
    }

    private static void due(String call, long got, long want) {
        asked++;
        if (got != want) {
            wrong++;
            System.out.println(call + " answered " + got + ", due is " + want);
        }
    }

    private static void due(String call, boolean got, boolean want) {
        due(call, got ? 1 : 0, want ? 1 : 0);
    }

    private static void write(SnowMules m, String text) {
        m.end(0);
        for (int i = 0; i < text.length(); i += 20) {
            int[] n = new int[5];
            for (int j = 0; j < 20; j++) {
                n[j / 4] = n[j / 4] << 8 | (i + j < text.length() ? text.charAt(i + j) : 0);
            }
            m.feed(n[0], n[1], n[2], n[3], n[4]);
        }
        m.end(text.length());
    }

    private static int law(SnowMules m, String text) {
        write(m, text);
        return m.law();
    }

    private static void fault(String text, int place, int kind) {
        due("fault of '" + text + "'", law(new SnowMules(), text), -2 - (1 + 8 * place + kind));
    }

    private static void good(String text) {
        due("law '" + text + "'", law(new SnowMules(), text), 0);
    }

    private static String times(String part, int n) {
        return part.repeat(n);
    }

    // Promise 1
    private static void newObject() {
        SnowMules m = new SnowMules();
        due("NONE", SnowMules.NONE, -1);
        for (int what = 0; what <= 10; what++) {
            due("new count " + what, m.count(what), what == 8 ? -1 : 0);
        }
        due("new at", m.at(0, 0), -1);
        due("new of", m.of(0, 0), -2);
        due("new tick", m.tick(0, 1), -1);
        due("new back", m.back(0), -1);
    }

    // Promise 2
    private static void nodes() {
        SnowMules m = new SnowMules();
        int[][] bad = {{-1, 0, 0}, {401, 0, 0}, {0, -1, 0}, {0, 4096, 0}, {0, 0, -1}, {0, 0, 10}, {MIN, 0, 0}, {0, MAX, 0}, {0, 0, MAX}};
        for (int[] b : bad) {
            due("bad node", m.node(b[0], b[1], b[2]), -1);
        }
        due("no node yet", m.count(0), 0);
        due("node", m.node(400, 4095, 9), 0);
        due("node", m.node(0, 0, 0), 1);
        for (int i = 2; i < 12; i++) {
            due("node " + i, m.node(i, i, 1), i);
        }
        due("13th node", m.node(1, 1, 1), -1);
        due("nodes", m.count(0), 12);
        due("height", m.at(0, 0), 400);
        due("snow", m.at(0, 1), 4095);
        due("cold", m.at(0, 2), 9);
        due("store", m.at(0, 3), 0);
    }

    private static SnowMules twoNodes() {
        SnowMules m = new SnowMules();
        m.node(100, 4095, 3);
        m.node(200, 1, 5);
        return m;
    }

    // Promise 3
    private static void passes() {
        SnowMules m = twoNodes();
        int[][] bad = {{-1, 0, 1, 0, 0}, {0, -1, 1, 0, 0}, {0, 2, 1, 0, 0}, {2, 0, 1, 0, 0}, {0, 0, 1, 0, 0}, {0, 1, 0, 0, 0}, {0, 1, 25, 0, 0},
            {0, 1, 1, -1, 0}, {0, 1, 1, 10, 0}, {0, 1, 1, 0, -1}, {0, 1, 1, 0, 1001}, {MIN, MAX, MIN, MAX, MIN}};
        for (int[] b : bad) {
            due("bad pass", m.pass(b[0], b[1], b[2], b[3], b[4]), -1);
        }
        due("no pass yet", m.count(1), 0);
        due("pass", m.pass(0, 1, 24, 9, 1000), 0);
        due("pass", m.pass(1, 0, 1, 0, 0), 1);
        for (int i = 2; i < 20; i++) {
            due("pass " + i, m.pass(0, 1, 1, 0, 0), i);
        }
        due("21st pass", m.pass(0, 1, 1, 0, 0), -1);
        due("passes", m.count(1), 20);
    }

    // Promise 4
    private static void jars() {
        SnowMules m = twoNodes();
        int[][] bad = {{-1, 0, 0, 0, 0}, {2, 0, 0, 0, 0}, {0, -1, 0, 0, 0}, {0, 10, 0, 0, 0}, {0, 0, -1, 0, 0}, {0, 0, 10, 0, 0},
            {0, 0, 0, -1, 0}, {0, 0, 0, 8, 0}, {0, 0, 0, 0, -1}, {0, 0, 0, 0, 16}, {MAX, MIN, MAX, MIN, MAX}};
        for (int[] b : bad) {
            due("bad jar", m.jar(b[0], b[1], b[2], b[3], b[4]), -1);
        }
        due("no jar yet", m.count(2), 0);
        due("jar", m.jar(1, 9, 8, 7, 15), 0);
        int[] want = {0, 1, -1, 0, -1, 9, 8, 7, 15};
        for (int what = 0; what <= 8; what++) {
            due("of a new jar " + what, m.of(0, what), want[what]);
        }
        for (int i = 1; i < 16; i++) {
            due("jar " + i, m.jar(0, 0, 0, 0, 0), i);
        }
        due("17th jar", m.jar(0, 0, 0, 0, 0), -1);
        due("jars", m.count(2), 16);
    }

    // Promises 5 and 6
    private static void monthAndSeed() {
        SnowMules m = twoNodes();
        due("month", m.month(11), 0);
        due("month", m.month(12), -1);
        due("month", m.month(-1), -1);
        due("month", m.month(3), 11);
        due("month now", m.count(5), 3);
        due("seed", m.seed(MAX), 0);
        due("seed", m.seed(-1), -1);
        due("seed", m.seed(MIN), -1);
        due("x", m.count(9), MAX);
        due("seed", m.seed(0), MAX);
        law(m, "melt 0");
        for (int i = 0; i < 9; i++) {
            m.tick(0, 240);
        }
        due("month behind 90 days", m.count(5), 6);
        m.month(11);
        due("month goes round", m.count(5), 2);
    }

    // Promises 7 and 8
    private static void tape() {
        SnowMules m = new SnowMules();
        due("end", m.end(1), -1);
        due("end", m.end(-1), -1);
        due("end", m.end(0), 0);
        for (int i = 1; i <= 20; i++) {
            due("feed", m.feed(i, 0, 0, 0, 0), 20 * i);
        }
        due("feed beyond", m.feed(0, 0, 0, 0, 0), -1);
        due("bytes", m.count(10), 400);
        due("end", m.end(401), -1);
        due("end", m.end(381), 381);
        due("feed of one too many", m.feed(0, 0, 0, 0, 0), -1);
        due("bytes", m.count(10), 381);
        due("end", m.end(380), 380);
        due("feed of just so many", m.feed(0, 0, 0, 0, 0), 400);
        due("end", m.end(MAX), -1);
        due("end", m.end(MIN), -1);
        due("end", m.end(0), 0);
        // "melt hour + 7 + 7 + " and "9": the highest byte of each number first.
        due("feed", m.feed(0x6d656c74, 0x20686f75, 0x72202b20, 0x37202b20, 0x37202b20), 20);
        due("feed", m.feed(0x39000000, 0, 0, 0, -1), 40);
        due("end", m.end(21), 21);
        due("law", m.law(), 0);
        m.node(0, 1, 0);
        m.jar(0, 0, 0, 0, 0);
        m.fill(0, 100);
        due("melt of that law", m.melt(0, 0), 23);
    }

    // Promise 9
    private static void lawNumbers() {
        SnowMules m = new SnowMules();
        due("empty tape", m.law(), -3);
        due("fault", law(m, "melt"), -2 - 33);
        due("bytes behind a fault", m.count(10), 0);
        due("laws behind a fault", m.count(3), 0);
        for (int i = 0; i < 6; i++) {
            due("law", law(m, "melt 1"), i);
            due("bytes behind a law", m.count(10), 0);
        }
        write(m, "melt 1");
        due("7th law", m.law(), -1);
        due("its tape stays", m.count(10), 6);
        due("laws", m.count(3), 6);
    }

    private static void lawFaults() {
        fault("", 0, 0);
        fault("   ", 3, 0);
        fault("melt x", 5, 0);
        fault("melts 1", 0, 0);
        fault("melt (1)", 5, 0);
        fault("melt melt", 5, 0);
        fault("melt 1+if", 7, 0);
        fault("melt not 1", 5, 0);
        fault("melt z", 5, 0);
        fault("melz 1", 0, 0);
        fault("Melt 1", 0, 0);
        fault("5", 0, 0);
        fault("; melt 1", 0, 0);
        fault("burst 1;", 8, 0);
        fault("burst 1; ", 9, 0);
        fault("rest 1 if", 9, 0);
        fault("rest 1 if ", 10, 0);
        fault("rest 1 when 1=1", 7, 0);
        fault("rest 1 1", 7, 0);
        fault("rest 1 123456", 7, 0);
        fault("rest -1", 5, 0);
        fault("rest 1+", 7, 0);
        fault("rest 1+*2", 7, 0);
        fault("rest hours", 5, 0);
        fault("rest 1 if 2", 11, 0);
        fault("rest 1 if 2 and", 12, 0);
        fault("rest 1 if 1 < = 2", 14, 0);
        fault("rest 1 if 1 =< 2", 13, 0);
        fault("rest 1 if 1 == 2", 13, 0);
        fault("rest 1 if 1 <> 2", 13, 0);
        fault("rest 1 if 1 < 2 < 3", 16, 0);
        fault("rest 1 if [1 < 2", 16, 0);
        fault("rest 1 if [1 < 2;", 16, 0);
        fault("rest 1 if 1 < 2]", 15, 0);
        fault("rest 1 if [1] < 2", 12, 0);
        fault("rest 1 if [1 < 2] < 2", 18, 0);
        fault("rest 1 if not", 13, 0);
        fault("rest 1 if notnot 1<2", 10, 0);
        fault("rest 1 if 1<2 or", 16, 0);
        fault("rest 1 if 1<2 if 1<2", 14, 0);
        fault("chain", 5, 0);
        fault("chain x", 6, 0);
        fault("chain -1", 6, 0);
        fault("chain 1 if 1<2", 8, 0);
        fault("chain 1+1", 7, 0);
        fault("chain hour", 6, 0);
        fault("chain 11", 6, 1);
        fault("chain 000010", 6, 1);
        fault("share 123456", 6, 1);
        fault("share 1+000000", 8, 1);
        fault("chain 1;chain 1", 8, 4);
        fault("chain 1; chain", 9, 4);
        fault("melt 1\n", 6, 0);
        fault("melt " + (char) 233, 5, 0);
        fault("melt 1" + (char) 0, 6, 0);
        fault("melt 1,rest 1", 6, 0);
        good("melt 1");
        good("  melt  1  ");
        good("melt1");
        good("melt1if1<2");
        good("melt 99999");
        good("chain 0");
        good("chain 10");
        good("chain 00010");
        good("chain5;melt 1;rest 1;share 1;burst 1");
        good("melt 1 if not not [not 1<2 or 2>=3 and [4=5]]");
        good("melt month+hour-day*height/sun+cold*node-drops+felt+salt/gone");
        good("melt 1;melt 2;melt 3 if 1<2;melt 4");
    }

    private static void lawLimits() {
        String twelve = times("rest 1;", 11) + "rest 1";
        good(twelve);
        fault(twelve + ";rest 1", 84, 4);
        fault(twelve + "; rest", 85, 4);
        fault(twelve + ";chain 1", 84, 4);
        fault(twelve + ";rests 1", 84, 0);
        fault(twelve + ";", 84, 0);
        String sixty = "melt 1" + times("+1", 59);
        good(sixty);
        fault(sixty + "+1", 125, 3);
        fault(sixty + "+ sun", 126, 3);
        fault(sixty + "+111111", 125, 1);
        fault(sixty + "+suns", 125, 0);
        fault(sixty + ";rest 1", 130, 3);
        good(sixty + ";chain 1");
        // 58 VALUES and a FACT of three parts: the 60th is its SIGN, the 61st its second SUM.
        String many = "melt 1" + times("+1", 57) + " if 1";
        fault(many + "<2", many.length() + 1, 3);
        String more = "melt 1" + times("+1", 58) + " if 1";
        fault(more + " <= 2", more.length() + 1, 3);
        fault(more + " ! 2", more.length() + 1, 0);
        good("melt 1" + times("+1", 56) + " if 1<2");
        good("melt 1 if " + times("[", 10) + "1<2" + times("]", 10));
        fault("melt 1 if " + times("[", 11) + "1<2" + times("]", 11), 20, 2);
        good("melt 1 if " + times("not ", 10) + "1<2");
        fault("melt 1 if " + times("not ", 11) + "1<2", 50, 2);
        fault("melt 1 if " + times("not [", 5) + "not 1<2", 35, 2);
        good("melt 1 if " + times("not [", 5) + "1<2" + times("]", 5));
        good("melt 1 if " + times("not ", 10) + "1<2 and " + times("[", 10) + "1<2" + times("]", 10));
    }

    private static int meltOf(String text) {
        SnowMules m = new SnowMules();
        m.node(123, 4095, 4);
        m.node(200, 4095, 5);
        m.jar(0, 3, 2, 0, 0);
        m.fill(0, 90000);
        int n = law(m, text);
        return n < 0 ? n : m.melt(n, 0);
    }

    /** What SUMS and TESTS mean. */
    private static void lawMeaning() {
        due("sum", meltOf("melt 10 - 3 - 2"), 5);
        due("precedence", meltOf("melt 2 + 3 * 4"), 14);
        due("left to right", meltOf("melt 100 / 7 * 7"), 98);
        due("left to right", meltOf("melt 7 * 100 / 8 / 2"), 43);
        due("by 0", meltOf("melt 8 + 5 / 0"), 8);
        due("by 0", meltOf("melt 8 / hour + 3"), 3);
        due("towards 0", meltOf("melt 10 - 7 / 2"), 7);
        due("below 0 is held", meltOf("melt 1 - 2"), 0);
        due("held to the drops", meltOf("melt 99999"), 90000);
        due("words", meltOf("melt height * 100 + cold * 10 + felt"), 12343);
        due("words", meltOf("melt salt + sun + node + gone + month + day + hour"), 2);
        due("drops", meltOf("melt drops / 2"), 45000);
        due("goes round", meltOf("melt 99999*99999*99999*99999 - 99999*99999*99999*99999 + 7"), 7);
        // 65536 to the fourth is 0 in 64 bits; half of it is the least number, which is its own opposite.
        due("goes round", meltOf("melt 65536*65536*65536*65536 + 9"), 9);
        due("goes round", meltOf("melt 5 if 65536*65536*65536*32768 < 0"), 5);
        due("goes round", meltOf("melt 5 if 0 - 65536*65536*65536*32768 / 2 > 0"), 5);
        due("first that holds", meltOf("melt 1 if 1 > 2; melt 2 if 2 > 1; melt 3"), 2);
        due("first without a test", meltOf("rest 9; melt 3; melt 4"), 3);
        due("none holds", meltOf("melt 1 if 1 > 2"), 0);
        due("no clause", meltOf("rest 4"), 0);
        due("and before or", meltOf("melt 6 if 1=1 or 1=1 and 1=2"), 6);
        due("and before or", meltOf("melt 6 if 1=2 and 1=1 or 1=1"), 6);
        due("brackets", meltOf("melt 6 if [1=1 or 1=1] and 1=2"), 0);
        due("not binds one fact", meltOf("melt 6 if not 1=2 and 1=1"), 6);
        due("not binds one fact", meltOf("melt 6 if not 1=2 and 1=2"), 0);
        due("not of brackets", meltOf("melt 6 if not [1=2 and 1=2]"), 6);
        due("not not", meltOf("melt 6 if not not 1=1"), 6);
        due("<", meltOf("melt 6 if 1<1"), 0);
        due("<=", meltOf("melt 6 if 1<=1"), 6);
        due("<=", meltOf("melt 6 if 2<=1"), 0);
        due(">=", meltOf("melt 6 if 1>=1"), 6);
        due(">=", meltOf("melt 6 if 1>=2"), 0);
        due(">", meltOf("melt 6 if 1>1"), 0);
        due("=", meltOf("melt 6 if 1=2"), 0);
        due("sums in facts", meltOf("melt 6 if height-100 = 20+3 and 2*felt > 5"), 6);
        due("many", meltOf("melt 1 if 1=1 and 2=2 and 3=3 and 4=4 or 1=2 or 1=3"), 1);
        due("many", meltOf("melt 1 if 1=2 or 1=3 or 1=4 and 1=1 or [1=5 or 1=1 and not [1=1]]"), 0);
    }

    // Promises 10 and 11
    private static void fillAndPour() {
        SnowMules m = twoNodes();
        law(m, "rest 0");
        m.jar(0, 0, 0, 0, 0);
        m.jar(1, 0, 0, 0, 0);
        due("fill", m.fill(0, 500), 0);
        due("fill", m.fill(0, 99999), 500);
        due("fill", m.fill(0, 100000), -1);
        due("fill", m.fill(0, -1), -1);
        due("fill", m.fill(2, 5), -1);
        due("fill", m.fill(-1, 5), -1);
        due("drops", m.of(0, 0), 99999);
        due("snow in month 0", m.fill(1, 5), 0);
        m.month(1);
        due("no snow in month 1", m.fill(1, 6), -1);
        due("drops stay", m.of(1, 0), 5);
        due("pour", m.pour(0), 99999);
        due("store", m.at(0, 3), 99999);
        due("drops", m.of(0, 0), 0);
        due("pour of none", m.pour(0), 0);
        m.store(0, 999990);
        m.fill(0, 25);
        due("pour up to the brim", m.pour(0), 9);
        due("store is full", m.at(0, 3), 999999);
        due("the rest is lost", m.of(0, 0), 0);
        due("pour", m.pour(2), -1);
        due("pour", m.pour(-1), -1);
        due("pour needs no snow", m.pour(1), 5);
        m.pass(0, 1, 3, 0, 0);
        m.fill(0, 77);
        m.leave(0, 0);
        due("fill on a pass", m.fill(0, 1), -1);
        due("pour on a pass", m.pour(0), -1);
        due("drops on a pass", m.of(0, 0), 77);
    }

    // Promise 12
    private static void stores() {
        SnowMules m = twoNodes();
        due("store", m.store(1, 999999), 0);
        due("store", m.store(1, 1000000), -1);
        due("store", m.store(1, -1), -1);
        due("store", m.store(2, 1), -1);
        due("store", m.store(-1, 1), -1);
        due("store", m.store(1, 0), 999999);
        due("store", m.at(1, 3), 0);
    }

    // Promise 13
    private static void leaving() {
        SnowMules m = twoNodes();
        m.node(0, 0, 0);
        m.pass(0, 1, 3, 0, 0);
        m.pass(1, 2, 3, 0, 0);
        m.jar(1, 0, 0, 0, 0);
        m.jar(0, 0, 0, 0, 0);
        due("leave without a jar", m.leave(2, 0), false);
        due("leave without a jar", m.leave(-1, 0), false);
        due("leave without a pass", m.leave(0, 2), false);
        due("leave without a pass", m.leave(0, -1), false);
        due("leave from elsewhere", m.leave(1, 1), false);
        due("still there", m.of(1, 1), 0);
        due("leave", m.leave(0, 0), true);
        int[] want = {0, 12, 0, 0, 0};
        for (int what = 0; what < 5; what++) {
            due("of a jar that left " + what, m.of(0, what), want[what]);
        }
        due("leave again", m.leave(0, 1), false);
        due("leave the other way", m.leave(1, 0), true);
        due("goes to", m.of(1, 4), 1);
    }

    /** A mountain at 0, a plain at 1: four hours of sun between them. */
    private static SnowMules mountain(int risk) {
        SnowMules m = new SnowMules();
        m.node(200, 4095, 3);
        m.node(100, 0, 5);
        m.pass(0, 1, 4, 2, risk);
        return m;
    }

    // Promise 14
    private static void ticking() {
        SnowMules m = mountain(0);
        law(m, "melt 10 - height / 100 + sun; rest 5 - cold + drops / 1000; share 10 if node = 1");
        m.jar(0, 0, 0, 0, 0);
        m.jar(0, 0, 0, 0, 1);
        m.fill(0, 1000);
        m.fill(1, 1000);
        m.store(0, 3000);
        due("tick", m.tick(1, 1), -1);
        due("tick", m.tick(-1, 1), -1);
        due("tick", m.tick(0, 0), -1);
        due("tick", m.tick(0, 241), -1);
        due("tick", m.tick(0, MIN), -1);
        due("tick", m.tick(0, MAX), -1);
        due("nothing happened", m.count(4), 0);
        m.leave(0, 0);
        due("tick", m.tick(0, 3), 3);
        // Heights 200, 175, 150: 10 - 2 + 2, then 10 - 1 + 2 twice.
        due("on the pass", m.of(0, 0), 1000 - 10 - 11 - 11);
        due("hours gone", m.of(0, 3), 3);
        due("at the node", m.of(1, 0), 1000 - 3 * 8);
        // REST of 3000: 5, of 2995: 4, of 2991: 4.
        due("store", m.at(0, 3), 2987);
        due("tick", m.tick(0, 1), 4);
        due("come, less melt and a share", m.of(0, 0), 957 - 95);
        due("its node", m.of(0, 1), 1);
        due("its pass", m.of(0, 2), -1);
        due("its hours", m.of(0, 3), 0);
        due("where to", m.of(0, 4), -1);
        due("the share, less its rest of none", m.at(1, 3), 95);
        due("two draws", m.count(9), 1406932606);
        due("tick", m.tick(0, 240), 244);
        SnowMules far = new SnowMules();
        law(far, "chain 1");
        for (int i = 0; i < 416; i++) {
            far.tick(0, 240);
        }
        due("near the end", far.count(4), 99840);
        due("too far", far.tick(0, 160), -1);
        due("stays", far.count(4), 99840);
        due("to the end", far.tick(0, 159), 99999);
        due("no further", far.tick(0, 1), -1);
    }

    /** SHARE and burst ask for the hour that begins when a JAR comes; REST for the one that began. */
    private static void arriving() {
        SnowMules m = mountain(0);
        law(m, "share 50 if hour = 4 and node = 1 and gone = 0 and height = 100 and cold = 5 and drops = 1001; rest 7 if hour = 3; burst 1000 if drops = 501");
        m.jar(0, 0, 0, 0, 0);
        m.fill(0, 1001);
        m.leave(0, 0);
        m.store(1, 999900);
        m.tick(0, 4);
        due("the store takes what it can, then rests", m.at(1, 3), 999992);
        due("it burst with the drops behind the share", m.of(0, 1), 13);
        due("a jar that is gone has no drops", m.of(0, 0), 0);
        SnowMules t = mountain(1);
        law(t, "melt 1");
        t.jar(0, 0, 0, 0, 0);
        t.fill(0, 50);
        t.leave(0, 0);
        t.tick(0, 5);
        int[] want = {0, 13, -1, 0, -1};
        for (int what = 0; what < 5; what++) {
            due("of a jar that was stolen " + what, t.of(0, what), want[what]);
        }
        due("one draw for a thief", t.count(9), 12345);
        due("leave of one gone", t.leave(0, 0), false);
        due("pour of one gone", t.pour(0), -1);
        due("fill of one gone", t.fill(0, 1), -1);
        SnowMules b = mountain(0);
        law(b, "burst 468");
        law(b, "burst 469");
        for (int i = 0; i < 2; i++) {
            b.jar(0, 0, 0, 0, 0);
            b.seed(0);
            b.leave(i, 0);
            b.tick(i, 4);
        }
        due("468 is not below 468", b.of(0, 1), 1);
        due("468 is below 469", b.of(1, 1), 13);
        SnowMules s = mountain(1000);
        law(s, "share 30");
        s.jar(0, 0, 0, 0, 0);
        s.fill(0, 100);
        s.leave(0, 0);
        s.tick(0, 4);
        due("the share is taken ahead of the thieves", s.at(1, 3), 30);
    }

    private static void chains() {
        SnowMules m = mountain(0);
        m.pass(0, 1, 9, 0, 0);
        law(m, "burst 1000 if felt = 9; chain 5");
        m.jar(0, 9, 0, 1, 4);   // 0 comes and bursts
        m.jar(1, 4, 0, 1, 6);   // 1 stands where it comes to: bursts behind 2
        m.jar(0, 4, 0, 1, 5);   // 2 on the same pass: the first behind it
        m.jar(0, 0, 0, 1, 7);   // 3 not there
        m.jar(1, 0, 0, 2, 5);   // 4 another mule
        m.jar(1, 0, 0, 1, 4);   // 5 the same place: not above
        m.jar(1, 5, 0, 1, 9);   // 6 too much felt: the chain ends here
        m.jar(1, 0, 0, 1, 12);  // 7 behind that one
        m.jar(0, 0, 0, 1, 5);   // 8 on another pass
        m.jar(1, 0, 0, 1, 6);   // 9 the same place as 1, a greater number
        m.leave(0, 0);
        m.tick(0, 1);
        m.leave(2, 0);
        m.leave(8, 1);
        m.tick(0, 3);
        int[] want = {13, 13, 13, 0, 1, 1, 1, 1, 12, 1};
        for (int j = 0; j < want.length; j++) {
            due("chain, jar " + j, m.of(j, 1), want[j]);
        }
        SnowMules n = mountain(0);
        law(n, "burst 1000");
        n.jar(0, 9, 0, 0, 0);
        n.jar(1, 0, 0, 0, 1);
        n.leave(0, 0);
        n.tick(0, 4);
        due("no chain: it bursts", n.of(0, 1), 13);
        due("no chain: alone", n.of(1, 1), 1);
    }

    // Promises 15 and 16
    private static void looking() {
        SnowMules m = twoNodes();
        m.jar(1, 1, 2, 3, 4);
        m.jar(1, 1, 2, 3, 4);
        due("jars there", m.at(1, 5), 2);
        due("jars there", m.at(0, 5), 0);
        due("snow now", m.at(1, 4), 1);
        m.month(1);
        due("no snow now", m.at(1, 4), 0);
        due("snow always", m.at(0, 4), 1);
        due("at", m.at(1, 6), -1);
        due("at", m.at(1, -1), -1);
        due("at", m.at(2, 0), -1);
        due("at", m.at(-1, 0), -1);
        due("of", m.of(0, 9), -2);
        due("of", m.of(0, -1), -2);
        due("of", m.of(2, 0), -2);
        due("of", m.of(-1, 0), -2);
        m.pass(0, 1, 2, 0, 0);
        m.leave(1, 0);
        due("one has left", m.at(1, 5), 1);
    }

    // Promise 17
    private static void melting() {
        SnowMules m = mountain(1000);
        law(m, "melt hour * 1000 + day * 100 + gone + sun * 10 + node * 10000");
        m.jar(0, 0, 0, 0, 0);
        m.fill(0, 99999);
        due("melt", m.melt(0, 0), 0);
        due("melt", m.melt(1, 0), -1);
        due("melt", m.melt(-1, 0), -1);
        due("melt", m.melt(0, 1), -1);
        due("melt", m.melt(0, -1), -1);
        law(m, "melt 0");
        m.tick(1, 25);
        due("melt of hour 1 of day 1", m.melt(0, 0), 1100);
        m.leave(0, 0);
        due("melt on a pass", m.melt(0, 0), 99999);
        law(m, "melt gone * 100 + sun * 10 + cold + node / 12 + height * 1000 / 10");
        m.tick(1, 1);
        due("melt on a pass", m.melt(2, 0), 100 + 20 + 1 + 17500);
        due("drops stay", m.of(0, 0), 99999);
        m.tick(1, 3);
        due("it was stolen", m.of(0, 1), 13);
        due("melt of one gone", m.melt(0, 0), -1);
    }

    // Promises 18 and 19
    private static void laying() {
        SnowMules m = new SnowMules();
        for (int i = 0; i < 9; i++) {
            m.node(i, 0, 0);
        }
        for (int i = 0; i < 8; i++) {
            m.pass(i, i + 1, 1, 0, 0);
        }
        m.pass(2, 0, 1, 0, 0);
        due("lay without a way", m.lay(0), -1);
        due("from", m.from(9), false);
        due("from", m.from(-1), false);
        due("none laid", m.count(8), -1);
        due("from", m.from(0), true);
        due("laid", m.count(8), 0);
        due("lay elsewhere", m.lay(1), -1);
        due("lay", m.lay(0), 1);
        due("lay back", m.lay(0), -1);
        due("lay", m.lay(1), 2);
        due("lay to the node it is from", m.lay(8), -1);
        m.pass(3, 1, 1, 0, 0);
        due("lay", m.lay(2), 3);
        due("lay to a node it has", m.lay(9), -1);
        m.from(0);
        m.lay(0);
        m.lay(1);
        due("lay no pass", m.lay(10), -1);
        due("lay no pass", m.lay(-1), -1);
        for (int i = 2; i < 6; i++) {
            due("lay", m.lay(i), i + 1);
        }
        due("lay a seventh", m.lay(6), -1);
        due("laid", m.count(8), 6);
        due("from", m.from(9), false);
        due("still laid", m.count(8), 6);
        due("from", m.from(2), true);
        due("laid", m.count(8), 0);
        due("lay against the grain", m.lay(1), 1);
    }

    // Promise 20
    private static void trying() {
        SnowMules m = mountain(1000);
        law(m, "melt 10 - height / 100 + sun; share 10 if node = 1; burst 1000");
        due("tried without a way", m.tried(0, 0, 1000, 0, 0, 0), -1);
        m.from(0);
        due("tried without passes", m.tried(0, 0, 1000, 0, 0, 0), 1000);
        due("tried without passes", m.tried(0, 0, 1000, 0, 0, 1), 0);
        m.lay(0);
        due("tried", m.tried(0, 0, 1000, 0, 0, 0), 957 - 95);
        due("tried", m.tried(0, 0, 1000, 0, 0, 1), 4);
        int[][] bad = {{1, 0, 0, 0, 0, 0}, {-1, 0, 0, 0, 0, 0}, {0, -1, 0, 0, 0, 0}, {0, 100000, 0, 0, 0, 0}, {0, 0, -1, 0, 0, 0}, {0, 0, 100000, 0, 0, 0},
            {0, 0, 0, -1, 0, 0}, {0, 0, 0, 10, 0, 0}, {0, 0, 0, 0, -1, 0}, {0, 0, 0, 0, 10, 0}, {0, 0, 0, 0, 0, -1}, {0, 0, 0, 0, 0, 2}};
        for (int[] b : bad) {
            due("bad tried", m.tried(b[0], b[1], b[2], b[3], b[4], b[5]), -1);
        }
        due("tried at the last hour", m.tried(0, 99999, 99999, 9, 9, 1), 4);
        due("nothing has changed", m.at(1, 3), 0);
        due("nothing has changed", m.count(9), 0);
        m.month(5);
        law(m, "melt month * 100 + hour * 10 + day + felt - salt");
        // Hours 718 to 721 are 22 and 23 of day 29, 0 and 1 of day 30, a month later.
        due("over the end of a month", m.tried(1, 718, 9999, 5, 3, 0), 9999 - 751 - 761 - 632 - 642);
    }

    /** 0 to 3 by way of 1 or 2, or straight. */
    private static SnowMules diamond() {
        SnowMules m = new SnowMules();
        for (int i = 0; i < 5; i++) {
            m.node(100, 1 << i, i);
        }
        m.pass(0, 1, 2, 1, 0);  // 0
        m.pass(0, 2, 2, 1, 0);  // 1
        m.pass(1, 3, 2, 1, 0);  // 2
        m.pass(2, 3, 2, 1, 0);  // 3
        m.pass(3, 0, 9, 0, 0);  // 4
        return m;
    }

    // Promise 21
    private static void bestWays() {
        SnowMules m = diamond();
        law(m, "melt 10");
        int[] want = {960, 0, 2, 0, 2, -2, -2, -2, -2};
        for (int what = 0; what <= 8; what++) {
            due("best " + what, m.best(0, 0, 3, 5, 1000, 0, 0, what), want[what]);
        }
        due("best by what", m.best(0, 0, 3, 5, 1000, 0, 0, 9), -1);
        due("best by what", m.best(0, 0, 3, 5, 1000, 0, 0, -1), -1);
        due("best to the same", m.best(0, 3, 3, 5, 1000, 0, 0, 0), -1);
        due("no way", m.best(0, 0, 4, 5, 1000, 0, 0, 0), -3);
        due("no way", m.best(0, 0, 4, 5, 1000, 0, 0, 8), -3);
        due("no way, no what", m.best(0, 0, 4, 5, 1000, 0, 0, 9), -1);
        int[][] bad = {{1, 0, 3, 0, 0, 0, 0}, {-1, 0, 3, 0, 0, 0, 0}, {0, -1, 3, 0, 0, 0, 0}, {0, 5, 3, 0, 0, 0, 0}, {0, 0, -1, 0, 0, 0, 0}, {0, 0, 5, 0, 0, 0, 0},
            {0, 0, 3, -1, 0, 0, 0}, {0, 0, 3, 100000, 0, 0, 0}, {0, 0, 3, 0, -1, 0, 0}, {0, 0, 3, 0, 100000, 0, 0},
            {0, 0, 3, 0, 0, -1, 0}, {0, 0, 3, 0, 0, 10, 0}, {0, 0, 3, 0, 0, 0, -1}, {0, 0, 3, 0, 0, 0, 10}};
        for (int[] b : bad) {
            due("bad best", m.best(b[0], b[1], b[2], b[3], b[4], b[5], b[6], 0), -1);
        }
        law(m, "melt 10 + sun; share 1 if node = 1");
        due("the way without a share", m.best(1, 0, 3, 0, 1000, 0, 0, 3), 1);
        law(m, "melt 10 + sun * 50");
        due("the way without sun", m.best(2, 0, 3, 0, 1000, 0, 0, 2), 1);
        due("the way without sun", m.best(2, 0, 3, 0, 1000, 0, 0, 3), 4);
        due("the way without sun", m.best(2, 0, 3, 0, 1000, 0, 0, 0), 910);
        law(m, "melt 10 if hour >= 6 and hour < 20");
        due("the first hour of the night", m.best(3, 0, 3, 8, 1000, 0, 0, 1), 12);
        due("all is left then", m.best(3, 0, 3, 8, 1000, 0, 0, 0), 1000);
        due("at once", m.best(3, 0, 3, 20, 1000, 0, 0, 1), 0);
        law(m, "melt 10 if day < 2 or hour > 0 and hour < 20");
        // Leaving at hour 45 one comes into day 2, where its first hour melts nothing: 24 behind 21, 23 behind 22.
        due("24 hours and no more", m.best(4, 0, 3, 21, 1000, 0, 0, 0), 960);
        due("the last of them", m.best(4, 0, 3, 22, 1000, 0, 0, 0), 970);
        due("the last of them", m.best(4, 0, 3, 22, 1000, 0, 0, 1), 23);
        law(m, "melt 1000");
        due("nothing left is a way, too", m.best(5, 0, 3, 20, 1000, 0, 0, 0), 0);
        due("nothing left: the first way", m.best(5, 0, 3, 20, 1000, 0, 0, 2), 2);
        SnowMules row = new SnowMules();
        for (int i = 0; i < 9; i++) {
            row.node(0, 0, 0);
        }
        for (int i = 0; i < 8; i++) {
            row.pass(i, i + 1, 1, 0, 0);
        }
        law(row, "melt 1");
        due("six passes", row.best(0, 0, 6, 0, 100, 0, 0, 0), 94);
        due("six passes", row.best(0, 0, 6, 0, 100, 0, 0, 8), 5);
        due("seven passes", row.best(0, 0, 7, 0, 100, 0, 0, 0), -3);
    }

    // Promises 22 and 23
    private static void soonestAndNearest() {
        SnowMules m = diamond();
        due("soonest", m.soonest(0, 3), 4);
        due("soonest", m.soonest(3, 0), 4);
        due("soonest", m.soonest(1, 2), 4);
        due("soonest to itself", m.soonest(2, 2), 0);
        due("soonest to nowhere", m.soonest(0, 4), -2);
        due("soonest", m.soonest(0, 5), -1);
        due("soonest", m.soonest(-1, 0), -1);
        due("nearest", m.nearest(0, 0), 0);
        due("nearest", m.nearest(0, 3), 3);
        due("nearest out of reach", m.nearest(0, 4), -2);
        due("nearest of none", m.nearest(0, 7), -2);
        due("nearest", m.nearest(0, 12), -1);
        due("nearest", m.nearest(0, -1), -1);
        due("nearest", m.nearest(5, 0), -1);
        due("nearest", m.nearest(-1, 0), -1);
        SnowMules row = new SnowMules();
        for (int i = 0; i < 12; i++) {
            row.node(0, i == 2 || i == 6 ? 1 : i == 5 ? 2 : 0, 0);
        }
        for (int i = 0; i < 11; i++) {
            row.pass(i, i + 1, 24, 0, 0);
        }
        due("by eleven passes", row.soonest(0, 11), 264);
        due("of several the least", row.nearest(4, 0), 2);
        due("of one", row.nearest(0, 1), 5);
    }

    // Promise 24
    private static void warmers() {
        SnowMules m = mountain(0);
        law(m, "melt 10 - height / 100 + sun; share 10 if node = 1");
        due("warmer without a way", m.warmer(0, 0, 1000, 0, 0, 10), -1);
        m.from(0);
        due("warmer without passes", m.warmer(0, 0, 1000, 0, 0, 1000), 9999);
        due("warmer without passes", m.warmer(0, 0, 1000, 0, 0, 1001), -2);
        m.lay(0);
        // 957 less 4 w, less a tenth downwards: 857 less 85 are left with w 25, 853 less 85 with 26.
        due("warmer", m.warmer(0, 0, 1000, 0, 0, 772), 25);
        due("warmer", m.warmer(0, 0, 1000, 0, 0, 862), 0);
        due("warmer", m.warmer(0, 0, 1000, 0, 0, 863), -2);
        due("warmer", m.warmer(0, 0, 1000, 0, 0, 0), 9999);
        due("warmer", m.warmer(0, 0, 1000, 0, 0, 100000), -1);
        due("warmer", m.warmer(0, 0, 1000, 0, 0, -1), -1);
        due("warmer", m.warmer(1, 0, 1000, 0, 0, 1), -1);
        due("warmer", m.warmer(0, 100000, 1000, 0, 0, 1), -1);
        due("warmer", m.warmer(0, 0, 100000, 0, 0, 1), -1);
        due("warmer", m.warmer(0, 0, 1, 10, 0, 1), -1);
        due("warmer", m.warmer(0, 0, 1, 0, 10, 1), -1);
        law(m, "melt 0 - 20");
        due("more than less than nothing, then held", m.warmer(1, 0, 1000, 0, 0, 1000), 20);
        // From 100 on the first hour leaves less than 901, and nothing more than w melts then.
        law(m, "melt 500 if drops > 900 and gone > 0");
        due("not with 0, but with more", m.warmer(2, 0, 1000, 0, 0, 600), 100);
    }

    // Promise 25
    private static void guesses() {
        SnowMules m = diamond();
        law(m, "melt cold * 10 + 1");
        due("guess without a way", m.guess(0, 0, 1000, 0, 0, 0, 1000, 0, 0), -1);
        m.from(1);
        due("without passes", m.guess(0, 0, 1000, 0, 0, 0, 1000, 7, 0), 1);
        due("without passes", m.guess(0, 0, 1000, 0, 0, 0, 999, 7, 0), 0);
        due("without passes no k", m.guess(0, 0, 1000, 0, 0, 0, 1000, 0, 1), -1);
        m.lay(2);
        m.lay(3);
        // Waiting costs 11 an hour at 1 and 31 an hour at 3; four hours on passes cost 4.
        due("guess", m.guess(0, 0, 1000, 0, 0, 0, 996, 0, 0), 1);
        due("guess", m.guess(0, 0, 1000, 0, 0, 3, 996 - 11 - 31 - 31, 0, 0), 1);
        due("least", m.guess(0, 0, 1000, 0, 0, 3, 923, 0, 1), 1);
        due("most", m.guess(0, 0, 1000, 0, 0, 3, 923, 1, 2), 2);
        due("none", m.guess(0, 0, 1000, 0, 0, 3, 924, 1, 0), 0);
        due("none", m.guess(0, 0, 1000, 0, 0, 3, 924, 1, 1), -2);
        due("none", m.guess(0, 0, 1000, 0, 0, 3, 924, 2, 1), -1);
        law(m, "melt 5");
        due("all ways", m.guess(1, 0, 1000, 0, 0, 12, 1000 - 80, 0, 0), 13);
        due("least of all", m.guess(1, 0, 1000, 0, 0, 12, 920, 0, 1), 0);
        due("most of all", m.guess(1, 0, 1000, 0, 0, 12, 920, 1, 2), 12);
        due("nothing left", m.guess(1, 0, 10, 0, 0, 12, 0, 0, 0), 13);
        due("k is not asked", m.guess(1, 0, 1000, 0, 0, 12, 920, MAX, 0), 13);
        int[][] bad = {{2, 0, 9, 0, 0, 0, 0, 0, 0}, {-1, 0, 9, 0, 0, 0, 0, 0, 0}, {0, -1, 9, 0, 0, 0, 0, 0, 0}, {0, 100000, 9, 0, 0, 0, 0, 0, 0},
            {0, 0, -1, 0, 0, 0, 0, 0, 0}, {0, 0, 100000, 0, 0, 0, 0, 0, 0}, {0, 0, 9, -1, 0, 0, 0, 0, 0}, {0, 0, 9, 0, 10, 0, 0, 0, 0},
            {0, 0, 9, 0, 0, -1, 0, 0, 0}, {0, 0, 9, 0, 0, 13, 0, 0, 0}, {0, 0, 9, 0, 0, 0, -1, 0, 0}, {0, 0, 9, 0, 0, 0, 100000, 0, 0},
            {0, 0, 9, 0, 0, 0, 5, -1, 1}, {0, 0, 9, 0, 0, 0, 5, 2, 2}, {0, 0, 9, 0, 0, 0, 5, 0, 3}, {0, 0, 9, 0, 0, 0, 5, 0, -1}};
        for (int[] b : bad) {
            due("bad guess", m.guess(b[0], b[1], b[2], b[3], b[4], b[5], b[6], b[7], b[8]), -1);
        }
    }

    // Promises 26 and 27
    private static void ordersAndServing() {
        SnowMules m = diamond();
        int[][] bad = {{-1, 0, 1, 0}, {5, 0, 1, 0}, {0, -1, 1, 0}, {0, 100000, 1, 0}, {0, 0, 0, 0}, {0, 0, 100000, 0}, {0, 0, 1, -1}, {0, 0, 1, 10000}};
        for (int[] b : bad) {
            due("bad order", m.order(b[0], b[1], b[2], b[3]), -1);
        }
        due("no order yet", m.count(6), 0);
        law(m, "melt 10 + sun * 50");
        m.jar(0, 0, 0, 0, 0);
        m.fill(0, 1000);
        due("order", m.order(3, 99999, 99999, 9999), 1);
        due("order", m.order(3, 9, 910, 0), 2);
        due("order", m.order(3, 8, 760, 1), 3);
        due("order", m.order(3, 3, 1, 1), 4);
        due("order", m.order(0, 0, 1000, 1), 5);
        due("order", m.order(4, 99, 1, 1), 6);
        due("7th order", m.order(0, 0, 1, 1), -1);
        due("too little", m.serves(0, 0, 0), -2);
        due("by the way without sun", m.serves(0, 0, 1), 910);
        due("by the way that is in time", m.serves(0, 0, 2), 760);
        due("none is in time", m.serves(0, 0, 3), -2);
        due("it is there", m.serves(0, 0, 4), 1000);
        due("no way", m.serves(0, 0, 5), -2);
        due("serves", m.serves(1, 0, 0), -1);
        due("serves", m.serves(0, 1, 0), -1);
        due("serves", m.serves(0, -1, 0), -1);
        due("serves", m.serves(0, 0, 6), -1);
        due("serves", m.serves(0, 0, -1), -1);
        law(m, "chain 0");
        m.tick(1, 1);
        due("until has passed", m.serves(1, 0, 4), -2);
        due("in an hour less", m.serves(0, 0, 1), -2);
        m.leave(0, 0);
        due("on a pass", m.serves(1, 0, 1), -2);
    }

    // Promise 28
    private static void allOrders() {
        SnowMules m = diamond();
        m.month(0);
        law(m, "melt 1");
        due("no orders", m.all(0, 0), 0);
        due("no orders", m.all(0, 1), -2);
        for (int i = 0; i < 3; i++) {
            m.jar(0, 0, 0, 0, 0);
        }
        m.fill(0, 500);
        m.fill(1, 1000);
        m.fill(2, 2000);
        m.order(3, 99, 400, 0);
        m.order(3, 99, 900, 7);
        m.order(3, 99, 1900, 9);
        m.order(3, 99, 1950, 10);
        int[] want = {17, 0, 1, 16, 2, -2, -2};
        for (int what = 0; what <= 6; what++) {
            due("all " + what, m.all(0, what), want[what]);
        }
        due("all", m.all(0, 7), -1);
        due("all", m.all(0, -1), -1);
        due("all", m.all(1, 0), -1);
        m.fill(1, 2000);
        // Now 1 and 2 can serve all; 9 and 10 are the most, and the first row takes 1 ahead of 2.
        int[] next = {19, 0, 16, 1, 2, -2, -2};
        for (int what = 0; what <= 6; what++) {
            due("all " + what, m.all(0, what), next[what]);
        }
        SnowMules n = diamond();
        law(n, "melt 0");
        n.jar(0, 0, 0, 0, 0);
        n.jar(0, 0, 0, 0, 0);
        n.fill(0, 100);
        n.fill(1, 50);
        n.order(0, 5, 10, 5);
        n.order(0, 5, 60, 5);
        due("an exchange", n.all(0, 0), 10);
        due("an exchange", n.all(0, 1), 1);
        due("an exchange", n.all(0, 2), 0);
    }

    // Promises 29, 30 and 31
    private static void feasts() {
        SnowMules m = twoNodes();
        int[][] bad = {{-1, 0, 1}, {2, 0, 1}, {0, -1, 1}, {0, 4167, 1}, {0, 0, 0}, {0, 0, 100000}};
        for (int[] b : bad) {
            due("bad feast", m.feast(b[0], b[1], b[2]), -1);
        }
        law(m, "rest 10");
        law(m, "melt 10");
        due("no feasts", m.enough(0, 0, 0), 1);
        due("no feasts", m.least(0, 0), 0);
        due("feast", m.feast(0, 1, 500), 1);
        due("feast", m.feast(1, 0, 99999), 2);
        due("feast", m.feast(0, 4166, 99999), 3);
        // 36 hours of REST ahead of noon.
        due("enough", m.enough(0, 0, 860), 1);
        due("not enough", m.enough(0, 0, 859), 0);
        due("without rest", m.enough(1, 0, 500), 1);
        due("least", m.least(0, 0), 900);
        due("least", m.least(1, 0), 500);
        due("least of too much", m.least(0, 1), -2);
        due("enough of much", m.enough(0, 1, 100119), 1);
        due("not enough of much", m.enough(0, 1, 100118), 0);
        due("enough", m.enough(0, 0, 1000000), -1);
        due("enough", m.enough(0, 0, -1), -1);
        due("enough", m.enough(0, 2, 0), -1);
        due("enough", m.enough(2, 0, 0), -1);
        due("least", m.least(2, 0), -1);
        due("least", m.least(0, 2), -1);
        due("feast", m.feast(0, 1, 100), 4);
        due("two of one day", m.enough(0, 0, 960), 1);
        due("two of one day", m.enough(0, 0, 959), 0);
        m.tick(1, 36);
        due("noon is now", m.enough(0, 0, 600), 1);
        due("noon is now", m.enough(0, 0, 599), 0);
        due("the store does not count", m.store(0, 5), 0);
        due("the store does not count", m.enough(0, 0, 599), 0);
        m.tick(1, 1);
        due("noon has passed", m.enough(0, 0, 0), 1);
        // NOW is 37: the last of 1440 hours is 1476, noon of day 61.
        m.feast(1, 61, 1000);
        due("the last hour counts", m.enough(1, 1, 999), 0);
        due("the last hour counts", m.enough(1, 1, 1000), 1);
        m.feast(1, 62, 70);
        due("one behind does not", m.least(1, 1), 1000);
        m.feast(1, 2000, 70);
        due("feast", m.feast(1, 0, 1), 8);
        due("9th feast", m.feast(1, 0, 1), -1);
        due("feasts", m.count(7), 8);
        SnowMules edge = twoNodes();
        law(edge, "melt 0");
        edge.tick(0, 36);
        edge.feast(0, 61, 5);
        due("1440 hours from now on is behind them", edge.enough(0, 0, 0), 1);
        edge.feast(1, 2, 99900);
        due("the last of the hundreds", edge.least(0, 1), 99900);
        edge.feast(1, 3, 1);
        due("one more is too much", edge.least(0, 1), -2);
        SnowMules days = twoNodes();
        law(days, "rest drops / 100");
        days.feast(0, 1, 50);
        days.feast(0, 0, 1000);
        // Hundredths, downwards, 12 times: of 1177 are 1049 there at the first noon, of 1178 1050; of fewer than 100 none go.
        due("feasts one behind the other", days.enough(0, 0, 1178), 1);
        due("feasts one behind the other", days.enough(0, 0, 1177), 0);
        SnowMules odd = twoNodes();
        law(odd, "rest 500 if drops >= 300 and drops < 450 and hour = 3");
        odd.feast(0, 0, 250);
        due("300 is enough", odd.enough(0, 0, 299), 1);
        due("more may be too little", odd.enough(0, 0, 300), 0);
        due("and more enough again", odd.enough(0, 0, 450), 1);
        due("the least of the hundreds", odd.least(0, 0), 500);
    }

    // Promise 32
    private static void nightsOut() {
        SnowMules m = mountain(100);
        law(m, "melt 10 - felt; share salt * 10; burst 500");
        m.jar(0, 4, 1, 0, 0);
        due("nights without a way", m.nights(0, 0, 1000, 5, 0), -1);
        m.from(0);
        due("nights without passes", m.nights(0, 0, 1000, 5, 0), 5);
        due("nights without passes", m.nights(0, 0, 1000, 5, 1), 5000);
        due("nights without passes", m.nights(0, 0, 1000, 5, 2), 0);
        m.lay(0);
        // DRAWS 0 (stolen); 468, 988 (comes); 117, 498 (bursts); 927, 45 (bursts); 741, 122 (bursts); 410, 261 (bursts); 52 (stolen).
        due("nights", m.nights(0, 0, 1000, 7, 0), 1);
        due("nights", m.nights(0, 0, 1000, 7, 1), 976 - 97);
        due("nights", m.nights(0, 0, 1000, 7, 2), 2);
        due("x is as it was", m.count(9), 0);
        m.seed(12345);
        due("another x", m.nights(0, 0, 1000, 1, 0), 1);
        due("x is as it was", m.count(9), 12345);
        due("nothing changes", m.at(1, 3), 0);
        int[][] bad = {{1, 0, 0, 1, 0}, {-1, 0, 0, 1, 0}, {0, 1, 0, 1, 0}, {0, -1, 0, 1, 0}, {0, 0, -1, 1, 0}, {0, 0, 100000, 1, 0},
            {0, 0, 0, 0, 0}, {0, 0, 0, 21, 0}, {0, 0, 0, 1, 3}, {0, 0, 0, 1, -1}};
        for (int[] b : bad) {
            due("bad nights", m.nights(b[0], b[1], b[2], b[3], b[4]), -1);
        }
        m.leave(0, 0);
        due("a jar on a pass", m.nights(0, 0, 1000, 1, 0), 1);
        m.seed(0);
        m.tick(0, 4);
        due("stolen", m.of(0, 1), 13);
        due("a jar that is gone", m.nights(0, 0, 1000, 20, 1) >= 0, true);
    }

    // Promise 33
    private static void prices() {
        SnowMules m = diamond();
        law(m, "melt 10 + sun * 5 + felt + salt; share 1 if node = 2");
        // By 0 and 2: 60 melt; by 1 and 3: 30, 9 shared, 30; by 4: 90.
        due("price", m.price(0, 0, 3, 0, 1000, 0), 9);
        due("price of one not used", m.price(0, 0, 3, 0, 1000, 1), 0);
        due("price of all of it", m.price(0, 1, 0, 0, 1000, 0) > 0, true);
        due("no way even so", m.price(0, 0, 4, 0, 1000, 0), -3);
        SnowMules one = mountain(0);
        law(one, "melt 5");
        due("all of it", one.price(0, 0, 1, 0, 1000, 0), 980);
        int[][] bad = {{1, 0, 3, 0, 0, 0}, {-1, 0, 3, 0, 0, 0}, {0, -1, 3, 0, 0, 0}, {0, 0, 5, 0, 0, 0}, {0, 3, 3, 0, 0, 0}, {0, 0, 3, -1, 0, 0},
            {0, 0, 3, 100000, 0, 0}, {0, 0, 3, 0, -1, 0}, {0, 0, 3, 0, 100000, 0}, {0, 0, 3, 0, 0, -1}, {0, 0, 3, 0, 0, 5}};
        for (int[] b : bad) {
            due("bad price", m.price(b[0], b[1], b[2], b[3], b[4], b[5]), -1);
        }
    }

    // Promise 34
    private static void aheads() {
        SnowMules m = mountain(1);
        law(m, "melt 10; rest 3; share 10");
        m.jar(0, 0, 0, 0, 0);
        m.jar(0, 0, 0, 0, 0);
        m.fill(0, 1000);
        m.fill(1, 500);
        m.store(0, 100);
        m.leave(0, 0);
        due("ahead of none", m.ahead(0, 0, 0), 1600);
        due("ahead of none", m.ahead(0, 0, 1), 2);
        due("ahead", m.ahead(0, 3, 0), 1600 - 69);
        // 96 come to the store of 1, less a rest of 3; the jar is stolen.
        due("ahead", m.ahead(0, 4, 0), 460 + 88 + 93);
        due("ahead", m.ahead(0, 4, 1), 1);
        due("far ahead", m.ahead(0, 240, 0), 0);
        due("nothing changes", m.count(4), 0);
        due("nothing changes", m.count(9), 0);
        due("nothing changes", m.of(0, 0), 1000);
        due("nothing changes", m.of(0, 3), 0);
        due("ahead", m.ahead(0, 241, 0), -1);
        due("ahead", m.ahead(0, -1, 0), -1);
        due("ahead", m.ahead(0, 1, 2), -1);
        due("ahead", m.ahead(0, 1, -1), -1);
        due("ahead", m.ahead(1, 1, 0), -1);
        due("ahead", m.ahead(-1, 1, 0), -1);
    }

    // Promise 35
    private static void counts() {
        SnowMules m = mountain(0);
        law(m, "melt 1");
        m.jar(0, 0, 0, 0, 0);
        m.order(0, 1, 1, 1);
        m.order(0, 1, 1, 1);
        m.feast(0, 1, 1);
        m.from(0);
        m.lay(0);
        m.seed(77);
        m.month(4);
        m.tick(0, 240);
        m.feed(0, 0, 0, 0, 0);
        int[] want = {2, 1, 1, 1, 240, 4, 2, 1, 1, 77, 20};
        for (int what = 0; what <= 10; what++) {
            due("count " + what, m.count(what), want[what]);
        }
        due("count", m.count(11), -1);
        due("count", m.count(-1), -1);
        due("count", m.count(MIN), -1);
    }

    /** What one call looks at must not be what another one left behind. */
    private static void callsBehindCalls() {
        SnowMules m = diamond();
        law(m, "melt 1; chain 7; burst 1000 if 1=1 and 2=2; rest");
        due("a fault is no law", m.tick(0, 1), -1);
        due("a fault is no law", m.best(0, 0, 3, 0, 9, 0, 0, 0), -1);
        due("a law behind a fault", law(m, "chain 0; melt 2 if 1=1"), 0);
        m.jar(0, 0, 0, 0, 0);
        m.jar(3, 0, 0, 0, 1);
        m.fill(0, 900);
        due("its melt", m.melt(0, 0), 2);
        m.from(0);
        m.lay(0);
        due("warmer", m.warmer(0, 0, 900, 0, 0, 100), 398);
        due("tried behind warmer", m.tried(0, 0, 900, 0, 0, 0), 896);
        due("soonest", m.soonest(4, 0), -2);
        due("nearest behind soonest", m.nearest(0, 1), 1);
        m.order(3, 99, 800, 5);
        due("all", m.all(0, 0), 5);
        m.fill(0, 5);
        due("all behind all", m.all(0, 0), 0);
        due("all behind all", m.all(0, 1), 16);
        m.image(2);
        m.lay(2);
        m.back(2);
        due("the way of the image", m.count(8), 1);
        due("the way of the image", m.tried(0, 0, 900, 0, 0, 1), 2);
        m.from(1);
        m.lay(2);
        m.image(3);
        m.from(0);
        m.lay(4);
        m.back(3);
        due("the passes of the image", m.tried(0, 0, 900, 0, 0, 1), 2);
        m.leave(0, 4);
        m.tick(0, 9);
        due("no burst, no chain is left of the fault", m.of(0, 1), 3);
    }

    /** SHARE, burst and GUESSES ask for the hour and the drops as they are then. */
    private static void hoursOfShares() {
        SnowMules m = mountain(468);
        law(m, "melt 10; share 50 if hour = 5 and day = 1; burst 989 if drops = 480; burst 988");
        m.jar(0, 0, 0, 0, 0);
        m.from(0);
        m.lay(0);
        due("share of the hour it comes", m.tried(0, 25, 1000, 0, 0, 0), 480);
        due("no share in another hour", m.tried(0, 24, 1000, 0, 0, 0), 960);
        law(m, "melt 10");
        m.tick(1, 25);
        m.seed(12345);
        due("468 is not below 468, 988 is below 989", m.nights(0, 0, 1000, 1, 2), 0);
        due("it burst with the drops behind the share", m.nights(0, 0, 1000, 1, 0), 0);
        due("988 is not below 988", m.nights(0, 0, 997, 1, 0), 1);
        SnowMules d = diamond();
        law(d, "melt hour * 10 + node / 12 * 5");
        d.from(0);
        d.lay(0);
        d.lay(2);
        // However one waits, the hours 3 to 8 melt 10 each of their number; four of them are on passes.
        due("all ways in the same hours", d.guess(0, 3, 1000, 0, 0, 2, 1000 - 330 - 20, 0, 0), 3);
        due("the most ahead of the first", d.guess(0, 3, 1000, 0, 0, 2, 650, 0, 2), 2);
        due("the most ahead of the second", d.guess(0, 3, 1000, 0, 0, 2, 650, 1, 2), 2);
        due("the least ahead of the second", d.guess(0, 3, 1000, 0, 0, 2, 650, 1, 1), 0);
        law(d, "melt 7 if node = 1 and hour = 6; melt 1");
        due("just there at that hour", d.guess(1, 3, 1000, 0, 0, 2, 1000 - 5 - 7, 0, 0), 2);
        due("and waited at 0 so long at most", d.guess(1, 3, 1000, 0, 0, 2, 988, 0, 2), 1);
    }

    // Promises 36 and 37
    private static void images() {
        SnowMules m = mountain(0);
        law(m, "melt 10; rest 2");
        m.jar(0, 1, 2, 3, 4);
        m.fill(0, 1000);
        due("image", m.image(-1), -1);
        due("image", m.image(4), -1);
        due("back to none", m.back(3), -1);
        due("image", m.image(0), 0);
        m.node(1, 1, 1);
        m.pass(1, 2, 1, 1, 1);
        m.store(1, 100);
        m.leave(0, 0);
        m.order(0, 1, 1, 1);
        m.feast(0, 1, 1);
        m.from(0);
        m.lay(0);
        m.seed(5);
        m.month(3);
        m.tick(0, 2);
        due("image", m.image(3), 2);
        law(m, "melt 0");
        m.feed(1, 1, 1, 1, 1);
        due("back", m.back(0), 0);
        int[] want = {2, 1, 1, 2, 0, 0, 0, 0, -1, 0, 20};
        for (int what = 0; what <= 10; what++) {
            due("count in the first image " + what, m.count(what), want[what]);
        }
        due("drops", m.of(0, 0), 1000);
        due("node", m.of(0, 1), 0);
        due("store", m.at(1, 3), 0);
        due("no third node", m.at(2, 0), -1);
        due("back", m.back(3), 2);
        int[] then = {3, 2, 1, 2, 2, 3, 1, 1, 1, 5, 20};
        for (int what = 0; what <= 10; what++) {
            due("count in the other image " + what, m.count(what), then[what]);
        }
        due("drops", m.of(0, 0), 980);
        due("hours", m.of(0, 3), 2);
        due("store", m.at(1, 3), 96);
        due("order is there", m.serves(0, 0, 0), -2);
        due("way is there", m.tried(1, 0, 50, 0, 0, 1), 4);
        due("back", m.back(-1), -1);
        due("back", m.back(4), -1);
        due("back", m.back(1), -1);
        due("an image stays", m.back(0), 0);
        m.store(0, 9);
        due("an image is made anew", m.image(0), 0);
        m.store(0, 8);
        m.back(0);
        due("an image made anew", m.at(0, 3), 9);
    }
}

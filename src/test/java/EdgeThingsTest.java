/**
 * The boundaries that part I of the document and the promises 1 to 8, 10 to 13, 15, 16 and 35 to 37 name, sentence by sentence:
 * the last value that is allowed and the first one that is not, the empty and the full, and refused calls.
 */
public final class EdgeThingsTest {
    private static final int NONE = SnowMules.NONE;

    public static void main(String[] args) {
        newObject();
        lastCall();
        nodes();
        passes();
        jars();
        clock();
        monthAndSeed();
        tape();
        filling();
        pouring();
        storing();
        leaving();
        looking();
        counting();
        images();
        Edges.report();
    }

    // Promise 1
    private static void newObject() {
        Edges.says("A new object: No NODES, no LAWS.");
        for (int what = 0; what <= 10; what++) {
            Edges.due("count " + what, new SnowMules().count(what), what == 8 ? NONE : 0);
        }
        Edges.due("pass", new SnowMules().pass(0, 1, 1, 0, 0), NONE);
        Edges.due("jar", new SnowMules().jar(0, 0, 0, 0, 0), NONE);
        Edges.due("law of no text", new SnowMules().law(), -3);
        Edges.due("fill", new SnowMules().fill(0, 0), NONE);
        Edges.due("pour", new SnowMules().pour(0), NONE);
        Edges.due("store", new SnowMules().store(0, 0), NONE);
        Edges.due("leave", new SnowMules().leave(0, 0), false);
        Edges.due("tick", new SnowMules().tick(0, 1), NONE);
        Edges.due("at", new SnowMules().at(0, 0), NONE);
        Edges.due("of", new SnowMules().of(0, 0), -2);
        Edges.due("melt", new SnowMules().melt(0, 0), NONE);
        Edges.due("lay", new SnowMules().lay(0), NONE);
        Edges.due("from", new SnowMules().from(0), false);
        Edges.due("tried", new SnowMules().tried(0, 0, 0, 0, 0, 0), NONE);
        Edges.due("best", new SnowMules().best(0, 0, 1, 0, 0, 0, 0, 0), NONE);
        Edges.due("soonest", new SnowMules().soonest(0, 0), NONE);
        Edges.due("nearest", new SnowMules().nearest(0, 0), NONE);
        Edges.due("warmer", new SnowMules().warmer(0, 0, 0, 0, 0, 0), NONE);
        Edges.due("guess", new SnowMules().guess(0, 0, 0, 0, 0, 0, 0, 0, 0), NONE);
        Edges.due("order", new SnowMules().order(0, 0, 1, 0), NONE);
        Edges.due("serves", new SnowMules().serves(0, 0, 0), NONE);
        Edges.due("all", new SnowMules().all(0, 0), NONE);
        Edges.due("feast", new SnowMules().feast(0, 0, 1), NONE);
        Edges.due("enough", new SnowMules().enough(0, 0, 0), NONE);
        Edges.due("least", new SnowMules().least(0, 0), NONE);
        Edges.due("nights", new SnowMules().nights(0, 0, 0, 1, 0), NONE);
        Edges.due("price", new SnowMules().price(0, 0, 1, 0, 0, 0), NONE);
        Edges.due("ahead", new SnowMules().ahead(0, 0, 0), NONE);
        Edges.due("back", new SnowMules().back(0), NONE);
        SnowMules one = new SnowMules();
        one.node(1, 1, 1);
        Edges.law(one, "melt 1");
        Edges.due("another object has nothing of it", new SnowMules().count(0) + new SnowMules().count(3), 0);
        SnowMules bare = new SnowMules();
        Edges.law(bare, "melt 1; rest 1; share 1; burst 1; chain 1");
        Edges.due("an hour without anything", bare.tick(0, 1), 1);
        Edges.due("hours ahead without anything", bare.ahead(0, 240, 0), 0);
        Edges.due("jars ahead without anything", bare.ahead(0, 240, 1), 0);
        Edges.due("all without orders", bare.all(0, 0), 0);
        Edges.due("all without orders", bare.all(0, 1), -2);
        Edges.due("all without orders", bare.all(0, 6), -2);
        Edges.due("an image of nothing", bare.image(3), 1);
        Edges.due("back to nothing", bare.back(3), 1);
    }

    private static void lastCall() {
        Edges.says("An object is used for at most 512 calls after it has been made");
        SnowMules m = new SnowMules();
        for (int i = 1; i < 511; i++) {
            m.seed(i);
        }
        Edges.due("the 511th call", m.seed(4), 510);
        Edges.due("the 512th call", m.count(9), 4);
        SnowMules images = new SnowMules();
        images.node(0, 0, 0);
        Edges.law(images, "melt 1");
        for (int i = 0; i < 250; i++) {
            images.image(i % 4);
            images.back(i % 4);
        }
        Edges.due("behind 500 images", images.count(0), 1);
    }

    /** As many things as there can be, one behind the other. */
    private static SnowMules full(int nodes, int passes, int jars) {
        SnowMules m = new SnowMules();
        Edges.law(m, "melt 1+cold+sun; rest 1");
        Edges.law(m, "rest 2");
        for (int i = 0; i < nodes; i++) {
            m.node(10 * i, i + 1, i % 10);
        }
        for (int i = 0; i < passes; i++) {
            m.pass(i % 2, 1 - i % 2, i + 1, i % 10, 10 * i);
        }
        for (int i = 0; i < jars; i++) {
            m.jar(i % 2, i % 10, 9 - i % 10, i % 8, i);
        }
        return m;
    }

    // Promise 2
    private static void nodes() {
        Edges.says("NODES 0 to 11");
        Edges.due("the 12th node", full(11, 0, 0).node(1, 1, 1), 11);
        Edges.refused("a 13th node", () -> full(12, 0, 0), m -> m.node(1, 1, 1), NONE);
        Edges.due("nodes", full(12, 0, 0).count(0), 12);
        SnowMules m = full(12, 0, 0);
        Edges.due("the first keeps its height", m.at(0, 0), 0);
        Edges.due("the last keeps its height", m.at(11, 0), 110);
        Edges.due("behind the last", m.at(12, 0), NONE);
        Edges.says("height (0 to 400)");
        Edges.range("height", 0, 400, NONE, (n, v) -> n.node(v, 1, 1));
        kept(0, 0);
        kept(0, 400);
        Edges.says("snow (months 0 to 11 in which there is, as bits)");
        Edges.range("snow", 0, 4095, NONE, (n, v) -> n.node(1, v, 1));
        kept(1, 0);
        kept(1, 4095);
        for (int month = 0; month < 12; month++) {
            SnowMules s = new SnowMules();
            s.node(0, 1 << month, 0);
            s.node(0, 4095 - (1 << month), 0);
            s.month(month);
            Edges.due("snow in month " + month, s.at(0, 4), 1);
            Edges.due("none but in month " + month, s.at(1, 4), 0);
        }
        Edges.says("cold (0 to 9)");
        Edges.range("cold", 0, 9, NONE, (n, v) -> n.node(1, 1, v));
        kept(2, 0);
        kept(2, 9);
        Edges.says("STORE (0 to 999999 DROPS; 0 at first)");
        SnowMules back = full(2, 0, 0);
        back.image(0);
        back.node(1, 1, 1);
        back.store(2, 500);
        back.back(0);
        back.node(2, 2, 2);
        Edges.due("the store of a node made again", back.at(2, 3), 0);
    }

    private static void kept(int what, int value) {
        SnowMules m = new SnowMules();
        int made = m.node(what == 0 ? value : 5, what == 1 ? value : 5, what == 2 ? value : 5);
        Edges.due("node with " + value, made, 0);
        Edges.due("it keeps " + value, m.at(0, what), value);
        Edges.due("its store", m.at(0, 3), 0);
    }

    // Promise 3
    private static void passes() {
        Edges.says("PASSES 0 to 19");
        Edges.due("the 20th pass", full(2, 19, 0).pass(0, 1, 1, 0, 0), 19);
        Edges.refused("a 21st pass", () -> full(2, 20, 1), m -> m.pass(0, 1, 1, 0, 0), NONE);
        Edges.due("passes", full(2, 20, 0).count(1), 20);
        SnowMules last = full(2, 20, 1);
        Edges.due("the last is there", last.leave(0, 19), true);
        Edges.due("no 21st is there", full(2, 20, 1).leave(0, 20), false);
        Edges.says("each between two unlike NODES (both ways)");
        Edges.refused("a node and itself", Edges::some, m -> m.pass(3, 3, 1, 0, 0), NONE);
        Edges.range("one", 0, 3, NONE, (m, v) -> m.pass(v, 4, 1, 0, 0));
        Edges.range("other", 0, 3, NONE, (m, v) -> m.pass(4, v, 1, 0, 0));
        Edges.range("one", 1, 4, NONE, (m, v) -> m.pass(v, 0, 1, 0, 0));
        Edges.range("other", 1, 4, NONE, (m, v) -> m.pass(0, v, 1, 0, 0));
        SnowMules ends = full(12, 0, 0);
        Edges.due("the first and the last node", ends.pass(0, 11, 5, 0, 0), 0);
        Edges.due("the last and the first node", ends.pass(11, 0, 6, 0, 0), 1);
        Edges.due("there", ends.soonest(0, 11), 5);
        Edges.due("and back", ends.soonest(11, 0), 5);
        Edges.says("hours (1 to 24)");
        Edges.range("hours", 1, 24, NONE, (m, v) -> m.pass(0, 1, v, 0, 0));
        Edges.due("one hour", hoursOf(1), 1);
        Edges.due("24 hours", hoursOf(24), 24);
        Edges.says("sun (0 to 9)");
        Edges.range("sun", 0, 9, NONE, (m, v) -> m.pass(0, 1, 1, v, 0));
        Edges.says("risk (0 to 1000)");
        Edges.range("risk", 0, 1000, NONE, (m, v) -> m.pass(0, 1, 1, 0, v));
        Edges.says("A PASS: its number; NONE: there are 20, or something is not as told.");
        Edges.refused("all wrong", Edges::some, m -> m.pass(Edges.MIN, Edges.MAX, Edges.MIN, Edges.MAX, Edges.MIN), NONE);
    }

    private static int hoursOf(int hours) {
        SnowMules m = full(2, 0, 0);
        m.pass(0, 1, hours, 0, 0);
        return m.soonest(0, 1);
    }

    // Promise 4
    private static void jars() {
        Edges.says("JARS 0 to 15");
        Edges.due("the 16th jar", full(2, 1, 15).jar(0, 0, 0, 0, 0), 15);
        Edges.refused("a 17th jar", () -> full(2, 1, 16), m -> m.jar(0, 0, 0, 0, 0), NONE);
        Edges.due("jars", full(2, 1, 16).count(2), 16);
        Edges.due("behind the last", full(2, 1, 16).of(16, 0), -2);
        Edges.says("felt, salt (0 to 9 each)");
        Edges.range("felt", 0, 9, NONE, (m, v) -> m.jar(0, v, 0, 0, 0));
        Edges.range("salt", 0, 9, NONE, (m, v) -> m.jar(0, 0, v, 0, 0));
        Edges.says("a MULE (0 to 7)");
        Edges.range("mule", 0, 7, NONE, (m, v) -> m.jar(0, 0, 0, v, 0));
        Edges.says("a place on it (0 to 15)");
        Edges.range("place", 0, 15, NONE, (m, v) -> m.jar(0, 0, 0, 0, v));
        Edges.says("A JAR at a NODE, without DROPS");
        Edges.range("node", 0, 4, NONE, (m, v) -> m.jar(v, 0, 0, 0, 0));
        int[] low = {0, 1, NONE, 0, NONE, 0, 0, 0, 0};
        int[] high = {0, 11, NONE, 0, NONE, 9, 9, 7, 15};
        for (int what = 0; what <= 8; what++) {
            SnowMules m = full(12, 0, 0);
            m.jar(1, 0, 0, 0, 0);
            m.jar(11, 9, 9, 7, 15);
            Edges.due("of the least, what " + what, m.of(0, what), low[what]);
            Edges.due("of the greatest, what " + what, m.of(1, what), high[what]);
        }
        SnowMules again = full(2, 1, 1);
        again.image(1);
        again.jar(0, 1, 1, 1, 1);
        again.fill(1, 900);
        again.leave(1, 0);
        again.back(1);
        again.jar(1, 2, 2, 2, 2);
        int[] made = {0, 1, NONE, 0, NONE, 2, 2, 2, 2};
        for (int what = 0; what <= 8; what++) {
            Edges.due("of a jar made again, what " + what, again.of(1, what), made[what]);
        }
    }

    private static void clock() {
        Edges.says("NOW (hours, 0 at first, 99999 at most)");
        Edges.due("at first", Edges.some().back(0), 0);
        SnowMules last = full(1, 0, 1);
        Edges.law(last, "melt day*10+hour");
        Edges.hours(last, 1, 99839);
        Edges.due("one more than can be", last.tick(1, 161), NONE);
        Edges.due("it is as it was", last.count(4), 99839);
        Edges.due("the last hour", last.tick(1, 160), 99999);
        Edges.due("no hour behind it", last.tick(1, 1), NONE);
        Edges.due("it stays", last.count(4), 99999);
        Edges.says("its hour NOW mod 24, its day NOW by 24, downwards");
        // Day 4166 lies 138 months behind the first, 6 behind whole years.
        last.month(6);
        last.fill(0, 99999);
        Edges.due("the last day and hour", last.melt(2, 0), 41660 + 15);
        int[][] times = {{0, 0, 0}, {23, 0, 23}, {24, 1, 0}, {25, 1, 1}, {47, 1, 23}, {48, 2, 0}};
        for (int[] t : times) {
            SnowMules m = full(1, 0, 1);
            Edges.law(m, "melt day*100+hour");
            Edges.hours(m, 1, t[0]);
            m.fill(0, 99999);
            Edges.due("day and hour at " + t[0], m.melt(2, 0), 100 * t[1] + t[2]);
        }
        Edges.says("its MONTH (the first one, which is told, and day by 30, downwards) mod 12");
        int[][] months = {{0, 0, 0}, {719, 0, 0}, {720, 0, 1}, {1439, 0, 1}, {1440, 0, 2}, {719, 11, 11}, {720, 11, 0},
            {8639, 0, 11}, {8640, 0, 0}, {8640, 11, 11}, {99999, 0, 6}, {99999, 5, 11}, {99999, 6, 0}};
        for (int[] t : months) {
            SnowMules m = full(1, 0, 0);
            m.month(t[1]);
            Edges.hours(m, 1, t[0]);
            Edges.due("month at " + t[0] + " from " + t[1], m.count(5), t[2]);
        }
    }

    // Promises 5 and 6
    private static void monthAndSeed() {
        Edges.says("The first month becomes n (0 to 11): what it was (0 at first); NONE, and nothing happens, for others.");
        Edges.range("month", 0, 11, NONE, (m, v) -> m.month(v));
        SnowMules m = new SnowMules();
        Edges.due("at first", m.month(11), 0);
        Edges.due("refused", m.month(12), NONE);
        Edges.due("what it was", m.month(0), 11);
        Edges.due("what it was", m.month(0), 0);
        SnowMules later = full(1, 0, 0);
        Edges.hours(later, 1, 720);
        Edges.due("the first month, not the one now", later.month(4), 0);
        Edges.due("now", later.count(5), 5);
        Edges.due("the first month, not the one now", later.month(4), 4);
        Edges.says("x becomes a number: what it was; NONE, and nothing happens, below 0.");
        Edges.range("seed", 0, Edges.MAX, NONE, (n, v) -> n.seed(v));
        SnowMules x = new SnowMules();
        Edges.due("x is 0 at first", x.seed(Edges.MAX), 0);
        Edges.due("refused", x.seed(-1), NONE);
        Edges.due("what it was", x.seed(0), Edges.MAX);
        Edges.due("what it was", x.count(9), 0);
    }

    private static SnowMules fed(int bytes) {
        SnowMules m = new SnowMules();
        for (int i = 0; i < bytes; i += 20) {
            m.feed(0x6d656c74, 0x20312020, 0x20202020, 0x20202020, 0x20202020);
        }
        m.end(bytes);
        return m;
    }

    // Promises 7 and 8
    private static void tape() {
        Edges.says("Twenty bytes come behind the TAPE: how many it has; NONE, and none comes, if it would have more than 400.");
        Edges.due("the first twenty", new SnowMules().feed(0, 0, 0, 0, 0), 20);
        Edges.due("up to 399", fed(379).feed(0, 0, 0, 0, 0), 399);
        Edges.due("up to 400", fed(380).feed(0, 0, 0, 0, 0), 400);
        for (int n : new int[] {381, 399, 400}) {
            Edges.refused("feed behind " + n, () -> fed(n), m -> m.feed(-1, -1, -1, -1, -1), NONE);
            Edges.due("bytes", fed(n).count(10), n);
        }
        Edges.says("of each number the highest first");
        SnowMules high = new SnowMules();
        high.feed(-1, 0, 0, 0, 0);
        high.end(1);
        Edges.due("byte 255 is no letter", high.law(), -3);
        SnowMules order = new SnowMules();
        order.feed(0x6d656c74, 0x20313b72, 0x65737420, 0x323b6275, 0x72737420);
        Edges.due("melt 1;rest 2;burst and the end", order.law(), -2 - 1 - 8 * 20);
        for (int n = 0; n < 20; n++) {
            SnowMules one = new SnowMules();
            int[] five = {0x20202020, 0x20202020, 0x20202020, 0x20202020, 0x20202020};
            five[n / 4] ^= (0x20 ^ 0x80 | n) << 24 - n % 4 * 8;
            one.feed(five[0], five[1], five[2], five[3], five[4]);
            Edges.due("the byte at place " + n, one.law(), -2 - 1 - 8 * n);
        }
        Edges.says("The TAPE has its first n bytes alone: n; NONE, and nothing happens, if it has not so many, or n is below 0.");
        Edges.range("end", 0, 13, NONE, (m, v) -> m.end(v));
        Edges.due("all of 400", fed(400).end(400), 400);
        Edges.refused("more than 400", () -> fed(400), m -> m.end(401), NONE);
        Edges.due("none of none", new SnowMules().end(0), 0);
        Edges.refused("one of none", SnowMules::new, m -> m.end(1), NONE);
        SnowMules cut = fed(20);
        cut.end(6);
        Edges.due("what was cut is gone", cut.end(7), NONE);
        cut.feed(0x39202020, 0x20202020, 0x20202020, 0x20202020, 0x20202020);
        cut.end(7);
        cut.law();
        cut.node(0, 1, 0);
        cut.jar(0, 0, 0, 0, 0);
        cut.fill(0, 100);
        Edges.due("the next come behind the first n", cut.melt(0, 0), 19);
    }

    // Promise 10
    private static void filling() {
        Edges.says("FILL: a JAR that stands at a NODE where there is snow in the MONTH has 99999 DROPS at most, so many as are told.");
        Edges.range("drops", 0, 99999, NONE, (m, v) -> m.fill(0, v));
        for (int n : new int[] {0, 1, 99998, 99999}) {
            SnowMules m = Edges.some();
            Edges.due("what it had", m.fill(0, n), 4993);
            Edges.due("so many", m.of(0, 0), n);
            Edges.due("what it had", m.fill(0, 7), n);
        }
        Edges.says("NONE, and nothing happens, without these, if it doesn't stand at a NODE, or there is no snow.");
        int[] bad = {-1, 4, 1, 2, 3, Edges.MIN, Edges.MAX};
        for (int jar : bad) {
            Edges.refused("fill of jar " + jar, Edges::some, m -> m.fill(jar, 5), NONE);
        }
        SnowMules m = full(1, 0, 1);
        Edges.hours(m, 1, 719);
        Edges.due("the last hour of the month", m.fill(0, 5), 0);
        m.tick(1, 1);
        Edges.due("the first hour of the next", m.fill(0, 6), NONE);
        Edges.due("its drops", m.of(0, 0), 5);
        Edges.hours(m, 1, 8639 - 720);
        Edges.due("the last hour of eleven months", m.fill(0, 6), NONE);
        m.tick(1, 1);
        Edges.due("a year later", m.fill(0, 6), 5);
    }

    // Promise 11
    private static void pouring() {
        Edges.says("POUR: all its DROPS come to the STORE of its NODE (999999 at most; the rest is lost); the JAR has none then.");
        int[][] pours = {{0, 0, 0}, {0, 99999, 99999}, {900000, 99999, 99999}, {900001, 99999, 99998}, {999998, 1, 1}, {999998, 2, 1}, {999999, 1, 0}, {999999, 0, 0}};
        for (int[] p : pours) {
            SnowMules m = Edges.some();
            m.store(0, p[0]);
            m.fill(0, p[1]);
            Edges.due("pour of " + p[1] + " to " + p[0], m.pour(0), p[2]);
            Edges.due("the store", m.at(0, 3), p[0] + p[2]);
            Edges.due("the jar", m.of(0, 0), 0);
            Edges.due("pour again", m.pour(0), 0);
        }
        Edges.says("POUR: NONE, and nothing happens, without a JAR that stands at a NODE.");
        for (int jar : new int[] {-1, 4, 1, 2, Edges.MIN, Edges.MAX}) {
            Edges.refused("pour of jar " + jar, Edges::some, m -> m.pour(jar), NONE);
        }
    }

    // Promise 12
    private static void storing() {
        Edges.says("STORE of a NODE becomes n (0 to 999999): what it was; NONE, and nothing happens, without these.");
        Edges.range("drops", 0, 999999, NONE, (m, v) -> m.store(2, v));
        Edges.range("node", 0, 4, NONE, (m, v) -> m.store(v, 9));
        SnowMules m = full(12, 0, 0);
        Edges.due("what it was", m.store(11, 999999), 0);
        Edges.due("what it was", m.store(11, 0), 999999);
        Edges.due("what it is", m.at(11, 3), 0);
    }

    // Promise 13
    private static void leaving() {
        Edges.says("A JAR that stands at one end of a PASS leaves by it: true; false, and nothing happens, without these.");
        int[][] bad = {{-1, 0}, {4, 0}, {1, 0}, {2, 2}, {0, -1}, {0, 5}, {0, 1}, {0, 2}, {3, 0}, {3, 4}, {Edges.MIN, 0}, {Edges.MAX, 0}, {0, Edges.MIN}, {0, Edges.MAX}};
        for (int[] b : bad) {
            Edges.refused("leave of " + b[0] + " by " + b[1], Edges::some, m -> Edges.bit(m.leave(b[0], b[1])), 0);
        }
        int[][] good = {{0, 0, 1}, {0, 3, 2}, {0, 4, 1}, {3, 1, 1}, {3, 2, 3}, {3, 3, 0}};
        for (int[] g : good) {
            SnowMules m = Edges.some();
            int drops = m.of(g[0], 0);
            Edges.due("leave of " + g[0] + " by " + g[1], m.leave(g[0], g[1]), true);
            int[] want = {drops, 12, g[1], 0, g[2]};
            for (int what = 0; what < 5; what++) {
                Edges.due("of it then, what " + what, m.of(g[0], what), want[what]);
            }
        }
        SnowMules long24 = full(2, 0, 1);
        long24.pass(0, 1, 24, 0, 0);
        long24.leave(0, 0);
        Edges.hours(long24, 1, 23);
        Edges.due("23 hours gone of 24", long24.of(0, 3), 23);
        Edges.due("on the pass", long24.of(0, 1), 12);
        Edges.due("it can't leave there", long24.leave(0, 0), false);
        long24.tick(1, 1);
        Edges.due("24 hours gone", long24.of(0, 1), 1);
        Edges.due("it leaves the other way", long24.leave(0, 0), true);
        Edges.due("to where it was", long24.of(0, 4), 0);
        SnowMules one = full(2, 1, 1);
        one.leave(0, 0);
        one.tick(1, 1);
        Edges.due("one hour of one", one.of(0, 1), 1);
    }

    // Promises 15 and 16
    private static void looking() {
        Edges.says("Of a NODE what 0: height .. 5: JARS that stand there. NONE without these.");
        Edges.range("node", 0, 4, NONE, (m, v) -> m.at(v, 0));
        Edges.range("what", 0, 5, NONE, (m, v) -> m.at(0, v));
        int[] want = {300, 4095, 2, 0, 1, 1};
        for (int what = 0; what <= 5; what++) {
            int asked = what;
            Edges.asks("at 0, " + what, Edges::some, m -> m.at(0, asked), want[what]);
        }
        Edges.due("one stands, one has gone at 2", Edges.some().at(2, 5), 1);
        Edges.due("all jars", full(2, 0, 16).at(0, 5) + full(2, 0, 16).at(1, 5), 16);
        Edges.says("Of a JAR what 0: DROPS .. 8: place. -2 without these. (A JAR that is GONE has no DROPS.)");
        Edges.range("jar", 0, 3, -2, (m, v) -> m.of(v, 0));
        Edges.range("what", 0, 8, -2, (m, v) -> m.of(0, v));
        int[][] jars = {{4993, 0, NONE, 0, NONE, 3, 1, 0, 0}, {3990, 12, 0, 1, 1, 2, 0, 0, 1}, {0, 13, NONE, 0, NONE, 1, 1, 1, 2}, {0, 2, NONE, 0, NONE, 5, 5, 2, 3}};
        for (int jar = 0; jar < 4; jar++) {
            for (int what = 0; what <= 8; what++) {
                int j = jar;
                int w = what;
                Edges.due("of " + j + ", " + w, Edges.some().of(j, w), jars[j][w]);
            }
        }
        SnowMules thief = full(2, 0, 0);
        thief.pass(0, 1, 1, 0, 1000);
        thief.jar(0, 0, 0, 0, 0);
        thief.fill(0, 99999);
        thief.leave(0, 0);
        thief.tick(1, 1);
        Edges.due("stolen with all its drops", thief.of(0, 0), 0);
        Edges.due("it is gone", thief.of(0, 1), 13);
    }

    // Promise 35
    private static void counting() {
        Edges.says("count: What 0: NODES .. 10: bytes of the TAPE. NONE for others.");
        int[] want = {5, 5, 4, 3, 2, 2, 3, 3, 2, 4711, 13};
        for (int what = 0; what <= 10; what++) {
            int asked = what;
            Edges.asks("count " + what, Edges::some, m -> m.count(asked), want[what]);
        }
        for (int what : new int[] {-1, 11, Edges.MIN, Edges.MAX}) {
            Edges.refused("count " + what, Edges::some, m -> m.count(what), NONE);
        }
        Edges.says("8: PASSES of the WAY laid (NONE: none laid)");
        SnowMules m = full(2, 1, 0);
        Edges.due("none laid", m.count(8), NONE);
        m.from(1);
        Edges.due("without passes", m.count(8), 0);
        m.lay(0);
        Edges.due("with one", m.count(8), 1);
    }

    // Promises 36 and 37
    private static void images() {
        Edges.says("IMAGES 0 to 3 .. An IMAGE is made: NOW; NONE without it.");
        Edges.range("image", 0, 3, NONE, (m, v) -> m.image(v));
        Edges.due("NOW", Edges.some().image(3), 2);
        Edges.says("All is as in an IMAGE: NOW; NONE, and nothing happens, if it was never made, or without it.");
        for (int k : new int[] {-1, 1, 3, 4, Edges.MIN, Edges.MAX}) {
            Edges.refused("back " + k, Edges::some, m -> m.back(k), NONE);
        }
        Edges.due("back 0", Edges.some().back(0), 0);
        Edges.due("back 2", Edges.some().back(2), 2);
        Edges.says("IMAGES: all but the TAPE and the LAWS, as it is; gone back to, it is as it was (these stay).");
        SnowMules m = Edges.some();
        m.image(1);
        changeAll(m);
        Edges.due("gone back to", m.back(1), 2);
        Edges.due("the law stays", m.count(3), 4);
        Edges.due("the tape stays", m.count(10), 20);
        m.image(3);
        changeAll(m);
        m.back(3);
        SnowMules other = Edges.some();
        Edges.law(other, "melt 5");
        other.feed(1, 2, 3, 4, 5);
        other.image(1);
        other.image(3);
        m.end(0);
        m.feed(1, 2, 3, 4, 5);
        Edges.same("all else is as it was", m, other);
        SnowMules twice = full(2, 1, 1);
        twice.image(0);
        twice.store(0, 5);
        Edges.due("an image is made over an image", twice.image(0), 0);
        twice.store(0, 6);
        twice.back(0);
        Edges.due("the later one", twice.at(0, 3), 5);
        twice.store(0, 7);
        twice.back(0);
        Edges.due("an image is not used up", twice.at(0, 3), 5);
        twice.from(0);
        twice.lay(0);
        twice.back(0);
        Edges.due("none was laid", twice.count(8), NONE);
    }

    private static void changeAll(SnowMules m) {
        if (m.count(3) == 3) {
            Edges.law(m, "melt 5");
        }
        m.end(0);
        m.feed(9, 9, 9, 9, 9);
        m.node(7, 7, 7);
        m.pass(0, 3, 5, 5, 5);
        m.jar(0, 7, 7, 7, 7);
        m.month(9);
        m.seed(99);
        m.fill(0, 1);
        m.store(1, 88);
        m.store(2, 89);
        m.leave(0, 0);
        m.order(1, 1, 1, 1);
        m.feast(1, 1, 1);
        m.from(3);
        m.lay(2);
        m.lay(1);
        m.lay(0);
        m.tick(0, 9);
    }
}

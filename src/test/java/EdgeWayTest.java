/**
 * The boundaries that the parts III and IV of the document and the promises 18 to 34 name, sentence by sentence:
 * WAYS and what is LEFT by them, GUESSES, ORDERS, FEASTS, NIGHTS, PRICE and AHEAD.
 */
public final class EdgeWayTest {
    private static final int NONE = SnowMules.NONE;

    public static void main(String[] args) {
        laying();
        froms();
        trying();
        tryingByHours();
        bests();
        bestHours();
        bestTies();
        soonests();
        nearests();
        warmers();
        guesses();
        guessesOfMany();
        orders();
        serving();
        alls();
        allTies();
        feasts();
        enoughs();
        noons();
        leasts();
        nights();
        prices();
        aheads();
        Edges.report();
    }

    /** NODES one behind the other, an hour from each to the next; at each there is snow. LAW 0: 1 an hour. */
    private static SnowMules row(int nodes) {
        SnowMules m = new SnowMules();
        Edges.law(m, "melt 1");
        for (int i = 0; i < nodes; i++) {
            m.node(0, 4095, 0);
        }
        for (int i = 0; i + 1 < nodes; i++) {
            m.pass(i, i + 1, 1, 0, 0);
        }
        return m;
    }

    private static SnowMules laid(int passes) {
        SnowMules m = row(passes + 2);
        m.from(0);
        for (int i = 0; i < passes; i++) {
            m.lay(i);
        }
        return m;
    }

    // Promise 18
    private static void laying() {
        Edges.says("A WAY from a NODE: a row of 0 to 6 PASSES .. lay: NONE, and nothing happens .. or there are 6.");
        for (int n = 0; n < 6; n++) {
            Edges.due("lay behind " + n, laid(n).lay(n), n + 1);
        }
        Edges.refused("lay behind 6", () -> laid(6), m -> m.lay(6), NONE);
        Edges.says("The WAY laid ends at the other end of a PASS: how many PASSES it has; NONE, and nothing happens, without these");
        for (int pass : new int[] {-1, 5, Edges.MIN, Edges.MAX}) {
            Edges.refused("lay " + pass, Edges::some, m -> m.lay(pass), NONE);
        }
        Edges.due("lay", Edges.some().lay(2), 3);
        Edges.refused("none laid", () -> row(3), m -> m.lay(0), NONE);
        Edges.says("if the PASS doesn't begin where it ends");
        Edges.refused("a pass elsewhere", () -> laid(1), m -> m.lay(0), NONE);
        Edges.refused("a pass that begins at its first node", () -> row4(), m -> m.lay(3), NONE);
        Edges.says("comes to a NODE that it has");
        Edges.refused("back to where it is from", () -> row4(), m -> m.lay(4), NONE);
        Edges.refused("back to one between", () -> row4(), m -> m.lay(5), NONE);
        Edges.refused("back by the last pass", () -> row4(), m -> m.lay(2), NONE);
        Edges.refused("back by another of the same ends", () -> row4(), m -> m.lay(6), NONE);
        Edges.due("to another one", row4().lay(7), 4);
        SnowMules against = row(3);
        against.from(2);
        Edges.due("against the way it was told", against.lay(1), 1);
        Edges.due("against the way it was told", against.lay(0), 2);
        Edges.due("hours of it", against.tried(0, 0, 9, 0, 0, 1), 2);
    }

    /** A WAY by 0, 1, 2, 3 and PASSES from its end back to each of them. */
    private static SnowMules row4() {
        SnowMules m = row(4);
        m.pass(0, 1, 1, 0, 0); // 3: begins at the first
        m.pass(3, 0, 1, 0, 0); // 4
        m.pass(1, 3, 1, 0, 0); // 5
        m.pass(3, 2, 2, 0, 0); // 6
        m.node(0, 0, 0);
        m.pass(4, 3, 1, 0, 0); // 7
        m.from(0);
        m.lay(0);
        m.lay(1);
        m.lay(2);
        return m;
    }

    // Promise 19
    private static void froms() {
        Edges.says("The WAY laid is without PASSES, from a NODE: true; false, and nothing happens, without it. (At first there is none laid.)");
        for (int node : new int[] {-1, 5, Edges.MIN, Edges.MAX}) {
            Edges.refused("from " + node, Edges::some, m -> Edges.bit(m.from(node)), 0);
        }
        Edges.due("the first node", Edges.some().from(0), true);
        Edges.due("the last node", Edges.some().from(4), true);
        SnowMules m = laid(6);
        m.from(3);
        Edges.due("without passes", m.count(8), 0);
        Edges.due("from that node", m.lay(3), 1);
        Edges.due("none laid at first", row(2).count(8), NONE);
    }

    // Promise 20
    private static void trying() {
        Edges.says("TRIED by the WAY laid what 0: LEFT, 1: hours; NONE without these (hour 0 to 99999, DROPS 0 to 99999; no WAY laid, too).");
        Edges.range("law", 0, 2, NONE, (m, v) -> m.tried(v, 0, 1000, 0, 0, 0));
        Edges.range("hour", 0, 99999, NONE, (m, v) -> m.tried(0, v, 1000, 0, 0, 0));
        Edges.range("drops", 0, 99999, NONE, (m, v) -> m.tried(0, 0, v, 0, 0, 0));
        Edges.range("felt", 0, 9, NONE, (m, v) -> m.tried(0, 0, 1000, v, 0, 0));
        Edges.range("salt", 0, 9, NONE, (m, v) -> m.tried(0, 0, 1000, 0, v, 0));
        Edges.range("what", 0, 1, NONE, (m, v) -> m.tried(0, 0, 1000, 0, 0, v));
        Edges.refused("none laid", () -> row(2), m -> m.tried(0, 0, 1000, 0, 0, 0), NONE);
        // Three hours of 10, two of 11, a tenth of 948, downwards.
        Edges.asks("left", Edges::some, m -> m.tried(0, 0, 1000, 0, 0, 0), 854);
        Edges.asks("hours", Edges::some, m -> m.tried(0, 0, 1000, 0, 0, 1), 5);
        Edges.asks("left of none", Edges::some, m -> m.tried(0, 0, 0, 0, 0, 0), 0);
        Edges.asks("hours of none", Edges::some, m -> m.tried(0, 0, 0, 0, 0, 1), 5);
        Edges.asks("left of 30", Edges::some, m -> m.tried(0, 0, 30, 0, 0, 0), 0);
        Edges.asks("left of 53", Edges::some, m -> m.tried(0, 0, 53, 0, 0, 0), 1);
        Edges.says("TRIED: without thieves, bursts, or waiting");
        SnowMules m = row(2);
        m.pass(0, 1, 24, 0, 1000);
        Edges.law(m, "melt 1 if node=12;melt 50;burst 1000;chain 10");
        m.from(0);
        m.lay(1);
        Edges.due("a risk of 1000, a burst of 1000", m.tried(1, 0, 1000, 0, 0, 0), 976);
        Edges.due("x", m.count(9), 0);
        Edges.says("a row of 0 to 6 PASSES .. how many hours it takes");
        Edges.due("without passes: left", laid(0).tried(0, 5, 777, 0, 0, 0), 777);
        Edges.due("without passes: hours", laid(0).tried(0, 5, 777, 0, 0, 1), 0);
        Edges.due("six passes: left", laid(6).tried(0, 5, 777, 0, 0, 0), 771);
        Edges.due("six passes: hours", laid(6).tried(0, 5, 777, 0, 0, 1), 6);
        SnowMules slow = new SnowMules();
        Edges.law(slow, "melt 1");
        Edges.law(slow, "melt 1 if day=4172");
        for (int i = 0; i < 7; i++) {
            slow.node(0, 0, 0);
        }
        slow.from(0);
        for (int i = 0; i < 6; i++) {
            slow.pass(i, i + 1, 24, 0, 0);
            slow.lay(i);
        }
        Edges.due("six times 24 hours", slow.tried(0, 99999, 99999, 9, 9, 1), 144);
        Edges.due("six times 24 hours", slow.tried(0, 99999, 99999, 9, 9, 0), 99999 - 144);
        Edges.due("the last of these days", slow.tried(1, 99999, 99999, 0, 0, 0), 99999 - 15);
        Edges.says("MELT and SHARES as above: leaving at an hour (from 0 on, of any day)");
        SnowMules hours = row(2);
        Edges.law(hours, "melt month*1000+day*100+hour+1");
        hours.from(0);
        hours.lay(0);
        hours.month(11);
        Edges.due("hour 0", hours.tried(1, 0, 90000, 0, 0, 0), 90000 - 11001);
        Edges.due("hour 23", hours.tried(1, 23, 90000, 0, 0, 0), 90000 - 11024);
        Edges.due("hour 24", hours.tried(1, 24, 90000, 0, 0, 0), 90000 - 11101);
        Edges.due("hour 719", hours.tried(1, 719, 90000, 0, 0, 0), 90000 - 11000 - 2900 - 24);
        Edges.due("hour 720", hours.tried(1, 720, 90000, 0, 0, 0), 90000 - 3000 - 1);
    }

    private static int leftBy(String law, int hours, int hour, int drops) {
        SnowMules m = new SnowMules();
        m.node(400, 0, 7);
        m.node(0, 0, 9);
        m.pass(0, 1, hours, 5, 0);
        Edges.law(m, law);
        m.from(0);
        m.lay(0);
        return m.tried(0, hour, drops, 3, 2, 0);
    }

    private static void tryingByHours() {
        Edges.says("TRIED: MELT as above");
        Edges.due("the last one", leftBy("melt 1", 1, 0, 1), 0);
        Edges.due("below 0", leftBy("melt 0-1", 1, 0, 1), 1);
        Edges.due("more than all", leftBy("melt 101", 1, 0, 100), 0);
        Edges.due("heights", leftBy("melt height", 3, 0, 1000), 1000 - 400 - 266 - 133);
        Edges.due("hours gone", leftBy("melt gone", 24, 0, 1000), 1000 - 276);
        Edges.due("sun, cold, node", leftBy("melt sun*100+cold*10+node", 1, 0, 1000), 1000 - 512);
        Edges.due("felt, salt, drops", leftBy("melt felt*100+salt*10+drops/1000", 1, 0, 1000), 1000 - 321);
        Edges.due("drops as they are in each hour", leftBy("melt drops/2", 3, 0, 1000), 125);
        Edges.says("TRIED: SHARES as above (of the hour that begins then)");
        Edges.due("a hundredth of 99", leftBy("share 1", 1, 0, 99), 99);
        Edges.due("a hundredth of 100", leftBy("share 1", 1, 0, 100), 99);
        Edges.due("all of one", leftBy("share 100", 1, 0, 1), 0);
        Edges.due("all of all", leftBy("share 100", 1, 0, 99999), 0);
        Edges.due("held to 100", leftBy("share 101", 1, 0, 1000), 0);
        Edges.due("99 of 100", leftBy("share 99", 1, 0, 1000), 10);
        Edges.due("held to 0", leftBy("share 0-1", 1, 0, 1000), 1000);
        Edges.due("the hour that begins", leftBy("share 50 if hour=0 and day=1", 1, 23, 1000), 500);
        Edges.due("not the hour that ended", leftBy("share 50 if hour=23", 1, 23, 1000), 1000);
        Edges.due("drops behind melt", leftBy("melt 1;share 50 if drops=998", 2, 0, 1000), 499);
        Edges.due("words of the node", leftBy("share 50 if height+sun+gone=0 and cold=9 and node=1 and felt=3 and salt=2", 1, 0, 1000), 500);
    }

    // Promise 21
    private static void bests() {
        Edges.says("BEST (hour 0 to 99999) what 0: LEFT, 1: the hour, 2: PASSES of the WAY, 3 to 8: its PASSES; NONE without these.");
        Edges.range("law", 0, 2, NONE, (m, v) -> m.best(v, 0, 2, 0, 1000, 0, 0, 0));
        Edges.range("from", 0, 3, NONE, (m, v) -> m.best(0, v, 4, 0, 1000, 0, 0, 0));
        Edges.range("from", 1, 4, NONE, (m, v) -> m.best(0, v, 0, 0, 1000, 0, 0, 0));
        Edges.range("to", 0, 3, NONE, (m, v) -> m.best(0, 4, v, 0, 1000, 0, 0, 0));
        Edges.range("to", 1, 4, NONE, (m, v) -> m.best(0, 0, v, 0, 1000, 0, 0, 0));
        Edges.range("hour", 0, 99999, NONE, (m, v) -> m.best(0, 0, 2, v, 1000, 0, 0, 0));
        Edges.range("drops", 0, 99999, NONE, (m, v) -> m.best(0, 0, 2, 0, v, 0, 0, 0));
        Edges.range("felt", 0, 9, NONE, (m, v) -> m.best(0, 0, 2, 0, 1000, v, 0, 0));
        Edges.range("salt", 0, 9, NONE, (m, v) -> m.best(0, 0, 2, 0, 1000, 0, v, 0));
        Edges.range("what", 0, 8, NONE, (m, v) -> m.best(0, 0, 2, 0, 1000, 0, 0, v));
        // By 0 and 1: 854 as tried; by 3: 63 less and a tenth, 844; by 4 and 1: 94 less and a tenth, 816.
        int[] want = {854, 0, 2, 0, 1, -2, -2, -2, -2};
        for (int what = 0; what <= 8; what++) {
            int asked = what;
            Edges.asks("best " + what, Edges::some, m -> m.best(0, 0, 2, 0, 1000, 0, 0, asked), want[what]);
        }
        Edges.says("-3: there is no WAY");
        for (int what = 0; what <= 8; what++) {
            int asked = what;
            Edges.asks("to a node apart, " + what, Edges::some, m -> m.best(0, 0, 4, 0, 1000, 0, 0, asked), -3);
            Edges.asks("from a node apart, " + what, Edges::some, m -> m.best(0, 4, 0, 0, 1000, 0, 0, asked), -3);
        }
        Edges.refused("no way, and no such what", Edges::some, m -> m.best(0, 0, 4, 0, 1000, 0, 0, 9), NONE);
        Edges.says("BEST from a NODE to another one");
        Edges.refused("from a node to itself", Edges::some, m -> m.best(0, 2, 2, 0, 1000, 0, 0, 0), NONE);
        Edges.says("a row of 0 to 6 PASSES .. 3 to 8: its PASSES (-2: it has not so many)");
        SnowMules m = row(8);
        Edges.due("six passes: left", m.best(0, 0, 6, 0, 1000, 0, 0, 0), 994);
        Edges.due("six passes", m.best(0, 0, 6, 0, 1000, 0, 0, 2), 6);
        for (int i = 0; i < 6; i++) {
            Edges.due("pass " + i + " of six", m.best(0, 0, 6, 0, 1000, 0, 0, 3 + i), i);
            Edges.due("pass " + i + " of six, the other way", m.best(0, 7, 1, 0, 1000, 0, 0, 3 + i), 6 - i);
        }
        Edges.due("seven passes are no way", m.best(0, 0, 7, 0, 1000, 0, 0, 0), -3);
        Edges.due("one pass: the second", m.best(0, 0, 1, 0, 1000, 0, 0, 4), -2);
        Edges.due("five passes: the sixth", m.best(0, 0, 5, 0, 1000, 0, 0, 8), -2);
        m.pass(0, 7, 24, 0, 0);
        Edges.due("a slow pass is a way", m.best(0, 0, 7, 0, 1000, 0, 0, 0), 976);
        Edges.says("no NODE twice");
        SnowMules ring = row(3);
        ring.pass(2, 0, 1, 0, 0);
        Edges.law(ring, "melt 5 if node=12;share 1 if node=1");
        Edges.due("straight", ring.best(1, 0, 2, 0, 1000, 0, 0, 2), 1);
        Edges.due("by its pass", ring.best(1, 0, 2, 0, 1000, 0, 0, 3), 2);
        SnowMules spur = row(2);
        spur.node(0, 0, 0);
        spur.pass(0, 2, 1, 0, 0);
        Edges.law(spur, "melt 0");
        // There and back by PASS 0 would come ahead by its number.
        Edges.due("not there and back", spur.best(1, 0, 2, 0, 1000, 0, 0, 2), 1);
        Edges.due("not there and back", spur.best(1, 0, 2, 0, 1000, 0, 0, 3), 1);
        Edges.due("not there and back from another", spur.best(1, 1, 2, 0, 1000, 0, 0, 2), 2);
        spur.node(0, 0, 0);
        spur.pass(3, 1, 1, 0, 0);
        Edges.due("not there and back from another", spur.best(1, 1, 3, 0, 1000, 0, 0, 3), 2);
        SnowMules slow = row(1);
        slow.node(0, 0, 0);
        slow.node(0, 0, 0);
        slow.pass(0, 1, 24, 0, 0);
        slow.pass(1, 2, 24, 0, 0);
        Edges.due("two passes of many hours", slow.best(0, 0, 2, 0, 1000, 0, 0, 0), 952);
    }

    private static int bestHour(int hour, String law, int what) {
        SnowMules m = row(2);
        Edges.law(m, law);
        return m.best(1, 0, 1, hour, 1000, 0, 0, what);
    }

    private static void bestHours() {
        Edges.says("leaving at one of 24 hours from an hour on .. 1: the hour (0 to 23: how much behind the one told)");
        Edges.due("at once", bestHour(5, "melt 1 if hour>5 or hour<5", 1), 0);
        Edges.due("an hour later", bestHour(4, "melt 1 if hour>5 or hour<5", 1), 1);
        Edges.due("23 hours later", bestHour(6, "melt 1 if hour>5 or hour<5", 1), 23);
        Edges.due("the last of them", bestHour(6, "melt 1 if hour>5 or hour<5", 0), 1000);
        Edges.due("a day later is too late", bestHour(5, "melt 1 if hour>5 or hour<5 or day=0", 0), 999);
        Edges.due("none is better: the first", bestHour(5, "melt 1 if hour>5 or hour<5 or day=0", 1), 0);
        Edges.due("23 hours later, a day later", bestHour(6, "melt 1 if hour>5 or hour<5 or day=0", 0), 1000);
        Edges.due("the first of all alike", bestHour(17, "melt 3", 1), 0);
        Edges.due("hours of another month", bestHour(700, "melt 1 if month=0", 1), 20);
        Edges.due("the last hour that can be told", bestHour(99999, "melt 1 if day=4166", 1), 9);
        Edges.due("behind the last hour", bestHour(99999, "melt 1 if day=4166", 0), 1000);
        Edges.due("nothing is left", bestHour(3, "melt 99999", 0), 0);
        Edges.due("nothing is left: the first hour", bestHour(3, "melt 99999", 1), 0);
    }

    private static void bestTies() {
        Edges.says("of several the first hour, then the first WAY (by the PASSES' numbers where they part; one that ends ahead)");
        SnowMules m = row(2);
        m.pass(1, 0, 1, 1, 0);
        m.pass(0, 1, 1, 2, 0);
        Edges.due("the least pass", m.best(0, 0, 1, 0, 1000, 0, 0, 3), 0);
        Edges.law(m, "melt 1 if sun=0");
        Edges.due("the least of the others", m.best(1, 0, 1, 0, 1000, 0, 0, 3), 1);
        Edges.law(m, "melt 1 if sun=0;melt 1 if sun=1 and hour=5;melt 1 if sun=2 and hour=6");
        // At 5 PASS 2 alone leaves all, from 6 on PASS 1.
        Edges.due("the first hour goes ahead of the first way", m.best(2, 0, 1, 5, 1000, 0, 0, 1), 0);
        Edges.due("the first hour goes ahead of the first way", m.best(2, 0, 1, 5, 1000, 0, 0, 3), 2);
        Edges.due("an hour later", m.best(2, 0, 1, 6, 1000, 0, 0, 3), 1);
        SnowMules part = new SnowMules();
        Edges.law(part, "melt 0");
        for (int i = 0; i < 4; i++) {
            part.node(0, 0, 0);
        }
        part.pass(0, 3, 9, 0, 0);
        part.pass(1, 3, 1, 0, 0);
        part.pass(2, 3, 1, 0, 0);
        part.pass(0, 2, 1, 0, 0);
        part.pass(0, 1, 1, 0, 0);
        part.pass(1, 2, 1, 0, 0);
        Edges.due("the first pass decides, not the hours", part.best(0, 0, 3, 0, 9, 0, 0, 2), 1);
        // From 1 to 0: 1 and 0; 4; 5, 2 and 0; 5 and 3. The first has the least first PASS.
        Edges.due("the least first pass, not the fewest passes", part.best(0, 1, 0, 0, 9, 0, 0, 2), 2);
        Edges.due("the least first pass, not the fewest passes", part.best(0, 1, 0, 0, 9, 0, 0, 3), 1);
        // From 1 to 2: by 1, 0 and 3; 1 and 2; 4 and 3; 5.
        Edges.due("where they part", part.best(0, 1, 2, 0, 9, 0, 0, 4), 0);
        Edges.due("drops of none: the first hour and way", part.best(0, 1, 2, 0, 0, 0, 0, 5), 3);
    }

    // Promise 22
    private static void soonests() {
        Edges.says("SOONEST; -2: one can not come there; NONE without these.");
        Edges.range("from", 0, 4, NONE, (m, v) -> m.soonest(v, 2));
        Edges.range("to", 0, 4, NONE, (m, v) -> m.soonest(2, v));
        Edges.asks("hours", Edges::some, m -> m.soonest(0, 3), 6);
        Edges.asks("hours back", Edges::some, m -> m.soonest(3, 0), 6);
        Edges.asks("to a node apart", Edges::some, m -> m.soonest(0, 4), -2);
        Edges.asks("from a node apart", Edges::some, m -> m.soonest(4, 0), -2);
        Edges.asks("a node and itself", Edges::some, m -> m.soonest(2, 2), 0);
        Edges.asks("a node apart and itself", Edges::some, m -> m.soonest(4, 4), 0);
        Edges.says("SOONEST: the fewest hours between two NODES, by any number of PASSES");
        Edges.due("six passes", row(12).soonest(0, 6), 6);
        Edges.due("seven passes", row(12).soonest(0, 7), 7);
        Edges.due("eleven passes", row(12).soonest(11, 0), 11);
        SnowMules m = row(12);
        m.pass(0, 11, 12, 0, 0);
        Edges.due("fewer hours by more passes", m.soonest(0, 11), 11);
        m.pass(0, 11, 10, 0, 0);
        Edges.due("fewer hours by one", m.soonest(0, 11), 10);
        SnowMules slow = new SnowMules();
        for (int i = 0; i < 12; i++) {
            slow.node(0, 0, 0);
        }
        for (int i = 11; i > 0; i--) {
            slow.pass(i, i - 1, 24, 0, 0);
        }
        Edges.due("the most hours there can be", slow.soonest(0, 11), 264);
    }

    // Promise 23
    private static void nearests() {
        Edges.says("NEAREST; -2: none; NONE without these.");
        Edges.range("node", 0, 4, NONE, (m, v) -> m.nearest(v, 0));
        Edges.range("month", 0, 11, NONE, (m, v) -> m.nearest(0, v));
        Edges.asks("an hour away", Edges::some, m -> m.nearest(2, 2), 3);
        Edges.asks("two hours away", Edges::some, m -> m.nearest(2, 0), 1);
        Edges.asks("five hours away", Edges::some, m -> m.nearest(2, 1), 0);
        Edges.asks("there", Edges::some, m -> m.nearest(0, 11), 0);
        Edges.asks("a node apart without snow", Edges::some, m -> m.nearest(4, 0), -2);
        Edges.says("the NODE with snow then with the fewest hours, of several the least");
        SnowMules m = new SnowMules();
        m.node(0, 2, 0);
        m.node(0, 1, 0);
        m.node(0, 2048, 0);
        m.node(0, 1, 0);
        m.pass(3, 2, 5, 0, 0);
        m.pass(2, 1, 5, 0, 0);
        m.pass(2, 0, 4, 0, 0);
        Edges.due("of two as near the least", m.nearest(2, 0), 1);
        Edges.due("by month 11", m.nearest(0, 11), 2);
        Edges.due("in no month", m.nearest(0, 5), -2);
        m.pass(3, 2, 4, 0, 0);
        Edges.due("the nearer one", m.nearest(2, 0), 3);
        Edges.due("by seven passes and more", far().nearest(0, 0), 11);
        Edges.due("snow that none can come to", m.node(0, 16, 0) * 10 + m.nearest(0, 4), 38);
    }

    private static SnowMules far() {
        SnowMules m = new SnowMules();
        for (int i = 0; i < 12; i++) {
            m.node(0, i / 11, 0);
        }
        for (int i = 0; i < 11; i++) {
            m.pass(i, i + 1, 24, 0, 0);
        }
        return m;
    }

    private static int warmer(String law, int drops, int least) {
        SnowMules m = row(2);
        Edges.law(m, law);
        m.from(0);
        m.lay(0);
        return m.warmer(1, 0, drops, 0, 0, least);
    }

    // Promise 24
    private static void warmers() {
        Edges.says("WARMER; -2: not with 0 either; NONE without these (least 0 to 99999).");
        Edges.range("law", 0, 2, NONE, (m, v) -> m.warmer(v, 0, 1000, 0, 0, 10));
        Edges.range("hour", 0, 99999, NONE, (m, v) -> m.warmer(0, v, 1000, 0, 0, 10));
        Edges.range("drops", 0, 99999, NONE, (m, v) -> m.warmer(0, 0, v, 0, 0, 10));
        Edges.range("felt", 0, 9, NONE, (m, v) -> m.warmer(0, 0, 1000, v, 0, 10));
        Edges.range("salt", 0, 9, NONE, (m, v) -> m.warmer(0, 0, 1000, 0, v, 10));
        Edges.range("least", 0, 99999, NONE, (m, v) -> m.warmer(0, 0, 1000, 0, 0, v));
        Edges.refused("none laid", () -> row(2), m -> m.warmer(0, 0, 1000, 0, 0, 0), NONE);
        Edges.asks("just so", Edges::some, m -> m.warmer(0, 0, 1000, 0, 0, 854), 0);
        Edges.asks("not with 0", Edges::some, m -> m.warmer(0, 0, 1000, 0, 0, 855), -2);
        Edges.asks("at least none", Edges::some, m -> m.warmer(0, 0, 1000, 0, 0, 0), 9999);
        Edges.says("the greatest w (0 to 9999) by which MELT of each hour can be more");
        Edges.due("9999", warmer("melt 0", 20000, 10001), 9999);
        Edges.due("9998", warmer("melt 0", 20000, 10002), 9998);
        Edges.due("more than 9999 could be", warmer("melt 0", 20000, 10000), 9999);
        Edges.due("1", warmer("melt 0", 20000, 19999), 1);
        Edges.due("0", warmer("melt 0", 20000, 20000), 0);
        Edges.due("not with 0", warmer("melt 0", 20000, 20001), -2);
        Edges.due("0", warmer("melt 1", 20000, 19999), 0);
        Edges.due("not with 0", warmer("melt 1", 20000, 20000), -2);
        Edges.due("the most", warmer("melt 0", 99999, 99999), 0);
        Edges.due("one of one", warmer("melt 0", 1, 1), 0);
        Edges.due("none of one", warmer("melt 0", 1, 0), 9999);
        Edges.due("none of none", warmer("melt 5", 0, 0), 9999);
        Edges.due("one of none", warmer("melt 0", 0, 1), -2);
        Edges.due("all but one", warmer("melt 0", 5000, 1), 4999);
        Edges.says("(melt more by w, then held)");
        Edges.due("from below 0", warmer("melt 0-7", 100, 100), 7);
        Edges.due("from below 0", warmer("melt 0-7", 100, 99), 8);
        Edges.due("from far below 0", warmer("melt 0-99999", 100, 100), 9999);
        Edges.due("from far above", warmer("melt 99999", 99998, 1), -2);
        SnowMules hours = row(2);
        hours.pass(0, 1, 24, 0, 0);
        hours.from(0);
        hours.lay(1);
        Edges.due("of each hour", hours.warmer(0, 0, 1000, 0, 0, 1000 - 24 - 24 * 10), 10);
        Edges.due("of each hour", hours.warmer(0, 0, 1000, 0, 0, 1000 - 24 - 24 * 10 + 1), 9);
        Edges.says("the greatest w: where a LAW asks for drops, more melt can leave more");
        SnowMules odd = row(3);
        Edges.law(odd, "melt 900 if drops>990 and hour=1");
        odd.from(0);
        odd.lay(0);
        odd.lay(1);
        // From 10 on the first hour leaves no more than 990, and the second melts w alone.
        Edges.due("neither with 9", odd.warmer(1, 0, 1000, 0, 0, 980), 10);
        Edges.due("two times 10 and no more", odd.warmer(1, 0, 1000, 0, 0, 981), -2);
        Edges.says("WARMER without PASSES");
        Edges.due("all is left", laid(0).warmer(0, 0, 1000, 0, 0, 1000), 9999);
        Edges.due("so many never were", laid(0).warmer(0, 0, 1000, 0, 0, 1001), -2);
    }

    // Promise 25
    private static void guesses() {
        Edges.says("GUESS (late 0 to 12; left 0 to 99999) what 0: GUESSES, 1, 2: the least, the most waited ahead of the k-th PASS; NONE without these.");
        Edges.range("law", 0, 2, NONE, (m, v) -> m.guess(v, 0, 1000, 0, 0, 1, 847, 0, 0));
        Edges.range("hour", 0, 99999, NONE, (m, v) -> m.guess(0, v, 1000, 0, 0, 1, 847, 0, 0));
        Edges.range("drops", 0, 99999, NONE, (m, v) -> m.guess(0, 0, v, 0, 0, 1, 847, 0, 0));
        Edges.range("felt", 0, 9, NONE, (m, v) -> m.guess(0, 0, 1000, v, 0, 1, 847, 0, 0));
        Edges.range("salt", 0, 9, NONE, (m, v) -> m.guess(0, 0, 1000, 0, v, 1, 847, 0, 0));
        Edges.range("late", 0, 12, NONE, (m, v) -> m.guess(0, 0, 1000, 0, 0, v, 847, 0, 0));
        Edges.range("left", 0, 99999, NONE, (m, v) -> m.guess(0, 0, 1000, 0, 0, 1, v, 0, 0));
        Edges.range("what", 0, 2, NONE, (m, v) -> m.guess(0, 0, 1000, 0, 0, 1, 847, 0, v));
        Edges.range("k of the least", 0, 1, NONE, (m, v) -> m.guess(0, 0, 1000, 0, 0, 1, 847, v, 1));
        Edges.range("k of the most", 0, 1, NONE, (m, v) -> m.guess(0, 0, 1000, 0, 0, 1, 847, v, 2));
        Edges.refused("none laid", () -> row(2), m -> m.guess(0, 0, 1000, 0, 0, 0, 1000, 0, 0), NONE);
        // An hour at 0 costs 7, at 1 5: 941 or 943 less a tenth, downwards.
        int[][] due = {{847, 1, 1, 1, 0, 0}, {849, 1, 0, 0, 1, 1}, {848, 0, -2, -2, -2, -2}, {854, 0, -2, -2, -2, -2}};
        for (int[] d : due) {
            Edges.asks("guesses of " + d[0], Edges::some, m -> m.guess(0, 0, 1000, 0, 0, 1, d[0], 0, 0), d[1]);
            Edges.asks("the least ahead of 0", Edges::some, m -> m.guess(0, 0, 1000, 0, 0, 1, d[0], 0, 1), d[2]);
            Edges.asks("the most ahead of 0", Edges::some, m -> m.guess(0, 0, 1000, 0, 0, 1, d[0], 0, 2), d[3]);
            Edges.asks("the least ahead of 1", Edges::some, m -> m.guess(0, 0, 1000, 0, 0, 1, d[0], 1, 1), d[4]);
            Edges.asks("the most ahead of 1", Edges::some, m -> m.guess(0, 0, 1000, 0, 0, 1, d[0], 1, 2), d[5]);
        }
        Edges.says("(k is not asked then)");
        for (int k : new int[] {-1, 2, 6, Edges.MIN, Edges.MAX}) {
            Edges.asks("k " + k, Edges::some, m -> m.guess(0, 0, 1000, 0, 0, 1, 847, k, 0), 1);
        }
        Edges.says("-2: there are no GUESSES; NONE without these: no such k");
        Edges.refused("no guesses, and no such k", Edges::some, m -> m.guess(0, 0, 1000, 0, 0, 1, 848, 2, 1), NONE);
        Edges.says("(12 hours at most; without PASSES one way, of no hours)");
        Edges.due("of no hours", laid(0).guess(0, 0, 500, 0, 0, 0, 500, 0, 0), 1);
        Edges.due("of no hours, with others left", laid(0).guess(0, 0, 500, 0, 0, 0, 499, 0, 0), 0);
        Edges.due("of an hour", laid(0).guess(0, 0, 500, 0, 0, 1, 499, 0, 0), 0);
        Edges.due("of an hour", laid(0).guess(0, 0, 500, 0, 0, 1, 500, 0, 0), 0);
        Edges.due("there is no k", laid(0).guess(0, 0, 500, 0, 0, 0, 500, 0, 1), NONE);
        Edges.due("there is no k", laid(0).guess(0, 0, 500, 0, 0, 0, 499, 0, 2), NONE);
        Edges.due("one pass: one way of 12 hours", laid(1).guess(0, 0, 500, 0, 0, 12, 487, 0, 0), 1);
        Edges.due("one pass: all are ahead of it", laid(1).guess(0, 0, 500, 0, 0, 12, 487, 0, 1), 12);
        Edges.due("one pass: all are ahead of it", laid(1).guess(0, 0, 500, 0, 0, 12, 487, 0, 2), 12);
        Edges.due("one pass, others left", laid(1).guess(0, 0, 500, 0, 0, 12, 488, 0, 0), 0);
    }

    private static void guessesOfMany() {
        Edges.says("of all ways in which these hours fall to the PASSES of the row .. how many leave just these DROPS");
        SnowMules m = laid(6);
        Edges.due("12 hours, six passes", m.guess(0, 0, 500, 0, 0, 12, 482, 0, 0), 6188);
        Edges.due("0 hours, six passes", m.guess(0, 0, 500, 0, 0, 0, 494, 0, 0), 1);
        Edges.due("1 hour, six passes", m.guess(0, 0, 500, 0, 0, 1, 493, 0, 0), 6);
        Edges.due("2 hours, six passes", m.guess(0, 0, 500, 0, 0, 2, 492, 0, 0), 21);
        Edges.due("the least ahead of the first", m.guess(0, 0, 500, 0, 0, 12, 482, 0, 1), 0);
        Edges.due("the most ahead of the first", m.guess(0, 0, 500, 0, 0, 12, 482, 0, 2), 12);
        Edges.due("the least ahead of the last", m.guess(0, 0, 500, 0, 0, 12, 482, 5, 1), 0);
        Edges.due("the most ahead of the last", m.guess(0, 0, 500, 0, 0, 12, 482, 5, 2), 12);
        Edges.due("behind the last pass", m.guess(0, 0, 500, 0, 0, 12, 482, 6, 2), NONE);
        Edges.due("all melts: none is left by any", m.guess(0, 0, 18, 0, 0, 12, 0, 0, 0), 6188);
        Edges.due("one is left by all", m.guess(0, 0, 19, 0, 0, 12, 1, 0, 0), 6188);
        Edges.due("none is left by none", m.guess(0, 0, 19, 0, 0, 12, 0, 0, 0), 0);
        Edges.law(m, "melt 1 if node<12;share 50 if node=6 and hour<3");
        // Waiting at the last NODE is no way: there no PASS is ahead.
        Edges.due("one waited hour at any", m.guess(1, 0, 500, 0, 0, 1, 499, 5, 2), 1);
        Edges.says("at the NODES ahead of each PASS (MELT of each hour there)");
        SnowMules cold = new SnowMules();
        Edges.law(cold, "melt cold*10 if node<12");
        for (int i = 0; i < 4; i++) {
            cold.node(0, 0, i + 1);
        }
        cold.from(0);
        for (int i = 0; i < 3; i++) {
            cold.pass(i, i + 1, 1, 0, 0);
            cold.lay(i);
        }
        // Two hours at 0, 1 and 2 cost 10, 20 and 30 each: 40 are 10 and 30, or 20 twice.
        Edges.due("40", cold.guess(0, 0, 1000, 0, 0, 2, 960, 0, 0), 2);
        Edges.due("40: the most ahead of 0", cold.guess(0, 0, 1000, 0, 0, 2, 960, 0, 2), 1);
        Edges.due("40: the most ahead of 1", cold.guess(0, 0, 1000, 0, 0, 2, 960, 1, 2), 2);
        Edges.due("40: the least ahead of 1", cold.guess(0, 0, 1000, 0, 0, 2, 960, 1, 1), 0);
        Edges.due("40: the most ahead of 2", cold.guess(0, 0, 1000, 0, 0, 2, 960, 2, 2), 1);
        Edges.due("60", cold.guess(0, 0, 1000, 0, 0, 2, 940, 2, 1), 2);
        Edges.due("70: at the last node none waits", cold.guess(0, 0, 1000, 0, 0, 2, 930, 0, 0), 0);
        Edges.law(cold, "melt 10 if node=1 and hour=5;melt 1");
        // Leaving at 3 one stands at 1 in hour 5 behind two hours there, or behind one at 0 and one there: two of six ways.
        Edges.due("an hour that melts more: not then", cold.guess(1, 3, 1000, 0, 0, 2, 1000 - 5, 0, 0), 4);
        Edges.due("an hour that melts more", cold.guess(1, 3, 1000, 0, 0, 2, 1000 - 14, 0, 0), 2);
        Edges.due("an hour that melts more: the least ahead of 1", cold.guess(1, 3, 1000, 0, 0, 2, 1000 - 14, 1, 1), 1);
        Edges.due("an hour that melts more: the most ahead of 1", cold.guess(1, 3, 1000, 0, 0, 2, 1000 - 14, 1, 2), 2);
        Edges.due("an hour that melts more: the most ahead of 0", cold.guess(1, 3, 1000, 0, 0, 2, 1000 - 14, 0, 2), 1);
        Edges.due("an hour that melts more: the most ahead of 2", cold.guess(1, 3, 1000, 0, 0, 2, 1000 - 14, 2, 2), 0);
        Edges.due("all melts, to the last one", cold.guess(1, 3, 5, 0, 0, 2, 0, 0, 0), 6);
        Edges.due("all but one", cold.guess(1, 3, 6, 0, 0, 2, 1, 0, 0), 4);
    }

    private static SnowMules ordered(int n) {
        SnowMules m = row(3);
        m.jar(0, 0, 0, 0, 0);
        m.fill(0, 1000);
        for (int i = 0; i < n; i++) {
            m.order(i % 3, 10 + i, 10 * i + 1, i);
        }
        return m;
    }

    // Promise 26
    private static void orders() {
        Edges.says("ORDERS 0 to 5 .. An ORDER: how many there are; NONE: 6, or something is not as told.");
        for (int n = 0; n < 6; n++) {
            Edges.due("order behind " + n, ordered(n).order(0, 0, 1, 0), n + 1);
        }
        Edges.refused("a seventh", () -> ordered(6), m -> m.order(0, 0, 1, 0), NONE);
        Edges.range("node", 0, 4, NONE, (m, v) -> m.order(v, 10, 10, 10));
        Edges.says("until (an hour of NOW, 0 to 99999)");
        Edges.range("until", 0, 99999, NONE, (m, v) -> m.order(0, v, 10, 10));
        Edges.says("ORDERS: DROPS (1 to 99999)");
        Edges.range("drops", 1, 99999, NONE, (m, v) -> m.order(0, 10, v, 10));
        Edges.says("a price (0 to 9999)");
        Edges.range("price", 0, 9999, NONE, (m, v) -> m.order(0, 10, 10, v));
    }

    private static int served(int to, int until, int drops) {
        SnowMules m = row(8);
        Edges.law(m, "chain 0");
        m.tick(1, 3);
        m.jar(0, 0, 0, 0, 0);
        m.fill(0, 1000);
        m.order(to, until, drops, 5);
        return m.serves(0, 0, 0);
    }

    // Promise 27
    private static void serving() {
        Edges.says("What is LEFT of a JAR that SERVES an ORDER by a LAW; -2: it doesn't; NONE without these.");
        Edges.range("law", 0, 2, NONE, (m, v) -> m.serves(v, 0, 0));
        Edges.range("jar", 0, 3, NONE, (m, v) -> m.serves(0, v, 0));
        Edges.range("order", 0, 2, NONE, (m, v) -> m.serves(0, 0, v));
        Edges.asks("left", Edges::some, m -> m.serves(0, 0, 0), 4963);
        Edges.asks("one that is there", Edges::some, m -> m.serves(0, 0, 2), 4993);
        Edges.asks("one on a pass", Edges::some, m -> m.serves(0, 1, 0), -2);
        Edges.asks("one that is gone", Edges::some, m -> m.serves(0, 2, 0), -2);
        Edges.asks("an empty one", Edges::some, m -> m.serves(0, 3, 1), -2);
        Edges.says("of those that come there not behind until");
        Edges.due("just in time", served(2, 5, 998), 998);
        Edges.due("an hour too late", served(2, 4, 1), -2);
        Edges.due("in time by far", served(2, 99999, 998), 998);
        Edges.says("(of a JAR there: the row without PASSES)");
        Edges.due("now", served(0, 3, 1000), 1000);
        Edges.due("until has passed", served(0, 2, 1), -2);
        Edges.says("at least the ORDER's DROPS are LEFT");
        Edges.due("just so many", served(1, 9, 999), 999);
        Edges.due("one less", served(1, 9, 1000), -2);
        Edges.due("one", served(1, 9, 1), 999);
        Edges.due("more than it has, there", served(0, 9, 1001), -2);
        Edges.says("SERVES by a WAY: a row of 0 to 6 PASSES");
        Edges.due("six passes", served(6, 99, 1), 994);
        Edges.due("seven passes", served(7, 99, 1), -2);
        Edges.says("the WAY by which most is LEFT of those that come there not behind until");
        SnowMules m = new SnowMules();
        Edges.law(m, "melt sun*10");
        m.node(0, 1, 0);
        m.node(0, 1, 0);
        m.pass(0, 1, 1, 9, 0);
        m.pass(0, 1, 5, 1, 0);
        m.pass(0, 1, 24, 0, 0);
        m.jar(0, 0, 0, 0, 0);
        m.fill(0, 1000);
        int[][] due = {{0, -2}, {1, 910}, {4, 910}, {5, 950}, {23, 950}, {24, 1000}};
        for (int i = 0; i < due.length; i++) {
            m.order(1, due[i][0], 1, 0);
            Edges.due("until " + due[i][0], m.serves(0, 0, i), due[i][1]);
        }
        SnowMules end = row(2);
        Edges.law(end, "chain 0");
        Edges.hours(end, 1, 99998);
        end.jar(0, 0, 0, 0, 0);
        end.fill(0, 10);
        end.order(1, 99999, 9, 1);
        Edges.due("the last hour of NOW", end.serves(0, 0, 0), 9);
        end.tick(1, 1);
        Edges.due("behind the last hour of NOW", end.serves(0, 0, 0), -2);
    }

    // Promise 28
    private static void alls() {
        Edges.says("ALL what 0: the price, 1 to 6: the JAR for that ORDER (16: none; -2: there is no such ORDER); NONE without these.");
        Edges.range("law", 0, 2, NONE, (m, v) -> m.all(v, 0));
        Edges.range("what", 0, 6, NONE, (m, v) -> m.all(0, v));
        int[] want = {9, 16, 0, 16, -2, -2, -2};
        for (int what = 0; what <= 6; what++) {
            int asked = what;
            Edges.asks("all " + what, Edges::some, m -> m.all(0, asked), want[what]);
        }
        Edges.due("no orders", ordered(0).all(0, 0), 0);
        Edges.due("no orders", ordered(0).all(0, 1), -2);
        Edges.due("six orders", ordered(6).all(0, 6), 0);
        SnowMules none = ordered(0);
        none.order(0, 99, 1001, 9999);
        Edges.due("an order that none can meet: the price", none.all(0, 0), 0);
        Edges.due("an order that none can meet: the jar", none.all(0, 1), 16);
        SnowMules dear = row(2);
        for (int i = 0; i < 6; i++) {
            dear.order(i % 2, 99, 1, 9999);
        }
        Edges.due("no jars", dear.all(0, 0), 0);
        Edges.due("no jars", dear.all(0, 6), 16);
        for (int i = 0; i < 16; i++) {
            dear.jar(i % 2, 0, 0, 0, 0);
            dear.fill(i, 9);
        }
        Edges.due("the dearest of all", dear.all(0, 0), 59994);
        for (int i = 0; i < 6; i++) {
            Edges.due("all jars fit: order " + i, dear.all(0, i + 1), i);
        }
        Edges.says("ALL: each JAR for one ORDER at most, each ORDER by one JAR");
        SnowMules few = row(2);
        for (int i = 0; i < 6; i++) {
            few.order(0, 99, 1, i + 1);
        }
        few.jar(0, 0, 0, 0, 0);
        few.jar(0, 0, 0, 0, 0);
        few.fill(0, 9);
        few.fill(1, 9);
        int[] row = {11, 16, 16, 16, 16, 0, 1};
        for (int what = 0; what <= 6; what++) {
            Edges.due("two jars, six orders: " + what, few.all(0, what), row[what]);
        }
        SnowMules last = row(2);
        for (int i = 0; i < 16; i++) {
            last.jar(0, 0, 0, 0, 0);
        }
        last.fill(15, 50);
        last.order(0, 99, 50, 7);
        Edges.due("the last jar", last.all(0, 1), 15);
    }

    private static void allTies() {
        Edges.says("the greatest price together; of several the row (ORDERS by their numbers, each the JAR or 16: none) that is first");
        SnowMules m = row(2);
        m.jar(0, 0, 0, 0, 0);
        m.jar(0, 0, 0, 0, 0);
        m.fill(0, 100);
        m.fill(1, 50);
        m.order(0, 99, 50, 4);
        m.order(0, 99, 50, 4);
        Edges.due("both can: the first row", m.all(0, 1) * 100 + m.all(0, 2), 1);
        m.order(0, 99, 100, 4);
        // Two of three for 8: 0 and 1 (JAR 0, then 1) come first, ahead of 1, 16, 0.
        Edges.due("of three", m.all(0, 0), 8);
        Edges.due("of three: 0", m.all(0, 1), 0);
        Edges.due("of three: 1", m.all(0, 2), 1);
        Edges.due("of three: 2", m.all(0, 3), 16);
        SnowMules more = row(2);
        more.jar(0, 0, 0, 0, 0);
        more.jar(0, 0, 0, 0, 0);
        more.fill(0, 100);
        more.fill(1, 50);
        more.order(0, 99, 50, 4);
        more.order(0, 99, 100, 5);
        Edges.due("the price goes ahead of the first row", more.all(0, 0), 9);
        Edges.due("the price goes ahead of the first row", more.all(0, 1), 1);
        SnowMules free = row(2);
        free.jar(0, 0, 0, 0, 0);
        free.fill(0, 100);
        free.order(0, 99, 1, 0);
        Edges.due("a price of 0", free.all(0, 0), 0);
        Edges.due("a jar is ahead of 16", free.all(0, 1), 0);
        free.order(0, 99, 1, 1);
        Edges.due("a price of 1 is more", free.all(0, 1), 16);
        Edges.due("a price of 1 is more", free.all(0, 2), 0);
        free.jar(0, 0, 0, 0, 0);
        free.fill(1, 100);
        Edges.due("with two jars both", free.all(0, 1) * 100 + free.all(0, 2), 1);
        Edges.says("ALL by a LAW: as it is now");
        free.fill(0, 0);
        Edges.due("a jar less", free.all(0, 1), 16);
        Edges.due("a jar less", free.all(0, 2), 1);
        free.fill(1, 0);
        Edges.due("no jar", free.all(0, 0), 0);
        Edges.due("no jar", free.all(0, 2), 16);
        free.fill(1, 500);
        free.order(1, 99, 1, 5);
        Edges.due("by a way", free.all(0, 3), 1);
        Edges.due("best behind all", free.best(0, 0, 1, 0, 500, 0, 0, 0), 499);
        Edges.due("serves behind all", free.serves(0, 1, 2), 499);
    }

    private static SnowMules feasted(int n) {
        SnowMules m = row(2);
        Edges.law(m, "rest 1");
        for (int i = 0; i < n; i++) {
            m.feast(i % 2, i, 10 * i + 1);
        }
        return m;
    }

    // Promise 29
    private static void feasts() {
        Edges.says("FEASTS 0 to 7 .. A FEAST: how many there are; NONE: 8, or something is not as told.");
        for (int n = 0; n < 8; n++) {
            Edges.due("feast behind " + n, feasted(n).feast(0, 0, 1), n + 1);
        }
        Edges.refused("a ninth", () -> feasted(8), m -> m.feast(0, 0, 1), NONE);
        Edges.range("node", 0, 4, NONE, (m, v) -> m.feast(v, 10, 10));
        Edges.says("FEASTS: a day (0 to 4166)");
        Edges.range("day", 0, 4166, NONE, (m, v) -> m.feast(0, v, 10));
        Edges.says("FEASTS: DROPS (1 to 99999)");
        Edges.range("drops", 1, 99999, NONE, (m, v) -> m.feast(0, 10, v));
    }

    // Promise 30
    private static void enoughs() {
        Edges.says("1 if a STORE (0 to 999999) is ENOUGH, 0 if not; NONE without these.");
        Edges.range("law", 0, 2, NONE, (m, v) -> m.enough(v, 2, 500));
        Edges.range("node", 0, 4, NONE, (m, v) -> m.enough(0, v, 500));
        Edges.range("store", 0, 999999, NONE, (m, v) -> m.enough(0, 2, v));
        // From hour 2 on: 10 hours of 2, 100 go, 24 hours of 2, 300 go.
        Edges.asks("just enough", Edges::some, m -> m.enough(0, 2, 468), 1);
        Edges.asks("one less", Edges::some, m -> m.enough(0, 2, 467), 0);
        Edges.asks("without feasts none is enough", Edges::some, m -> m.enough(0, 4, 0), 1);
        Edges.asks("the most", Edges::some, m -> m.enough(0, 2, 999999), 1);
        Edges.says("at noon of each FEAST's day there at least its DROPS are there, and go (FEASTS of one day by their numbers)");
        SnowMules m = feasted(0);
        m.feast(0, 0, 100);
        Edges.due("just enough", m.enough(0, 0, 100), 1);
        Edges.due("one less", m.enough(0, 0, 99), 0);
        m.feast(0, 0, 1);
        Edges.due("two of one day", m.enough(0, 0, 101), 1);
        Edges.due("two of one day, one less", m.enough(0, 0, 100), 0);
        m.feast(0, 3, 7);
        Edges.due("and one of another", m.enough(0, 0, 108), 1);
        Edges.due("and one of another, one less", m.enough(0, 0, 107), 0);
        Edges.due("at another node", m.enough(0, 1, 0), 1);
        SnowMules all = feasted(0);
        for (int i = 0; i < 8; i++) {
            all.feast(0, 0, 99999);
        }
        Edges.due("eight of the most", all.enough(0, 0, 799992), 1);
        Edges.due("eight of the most, one less", all.enough(0, 0, 799991), 0);
        Edges.says("as hours go by (REST alone, from NOW on)");
        SnowMules rest = feasted(0);
        Edges.law(rest, "rest drops/2;melt 99999;share 100;burst 1000");
        rest.feast(0, 0, 1);
        // 4096 halved 12 times is 1; of 1 nothing rests.
        Edges.due("halved 12 times", rest.enough(2, 0, 4096), 1);
        Edges.due("a store of 1 stays", rest.enough(2, 0, 1), 1);
        Edges.due("none is not enough", rest.enough(2, 0, 0), 0);
        rest.feast(0, 0, 1);
        Edges.due("2 rest to 1", rest.enough(2, 0, 2), 0);
        Edges.due("the store there is not asked", rest.store(0, 999999) + rest.enough(2, 0, 2), 0);
        SnowMules words = new SnowMules();
        Edges.law(words, "rest 1 if month=1 and day=30 and hour<12 and height=7 and cold=3 and node=0 and sun+felt+salt+gone=0");
        Edges.law(words, "chain 0");
        words.node(7, 0, 3);
        words.feast(0, 30, 5);
        Edges.due("its hours ask for the node and the time", words.enough(0, 0, 17), 1);
        Edges.due("its hours ask for the node and the time", words.enough(0, 0, 16), 0);
    }

    private static int enoughAt(int now, int day, int store) {
        SnowMules m = feasted(0);
        Edges.law(m, "chain 0");
        Edges.hours(m, 2, now);
        m.feast(0, day, 10);
        return m.enough(2, 0, store);
    }

    private static void noons() {
        Edges.says("at noon (hour 12 ahead of its REST, but from NOW on)");
        SnowMules m = feasted(0);
        m.feast(0, 0, 10);
        Edges.due("12 hours of rest ahead of it", m.enough(1, 0, 22), 1);
        Edges.due("12 hours of rest ahead of it, one less", m.enough(1, 0, 21), 0);
        Edges.law(m, "rest 5 if hour=12");
        Edges.due("the rest of noon comes behind it", m.enough(2, 0, 10), 1);
        Edges.law(m, "rest 5 if hour=11");
        Edges.due("the rest of the hour ahead", m.enough(3, 0, 15), 1);
        Edges.due("the rest of the hour ahead", m.enough(3, 0, 14), 0);
        m.feast(0, 1, 10);
        Edges.due("the rest of noon lies ahead of the next day", m.enough(2, 0, 25), 1);
        Edges.due("the rest of noon lies ahead of the next day", m.enough(2, 0, 24), 0);
        Edges.says("those whose noon has passed, or lies behind the 1440 hours from NOW on, count nothing");
        Edges.due("noon in an hour", enoughAt(11, 0, 9), 0);
        Edges.due("noon now", enoughAt(12, 0, 9), 0);
        Edges.due("noon now", enoughAt(12, 0, 10), 1);
        Edges.due("noon has passed", enoughAt(13, 0, 0), 1);
        Edges.due("hour 12 of day 59 from 0 on", enoughAt(0, 59, 9), 0);
        Edges.due("hour 12 of day 60 from 0 on", enoughAt(0, 60, 9), 1);
        Edges.due("hour 1440 of those from 12 on", enoughAt(12, 60, 9), 1);
        Edges.due("the last of those from 13 on", enoughAt(13, 60, 9), 0);
        Edges.due("the last of those from 13 on", enoughAt(13, 60, 10), 1);
        Edges.due("the last day", enoughAt(99996, 4166, 9), 0);
        Edges.due("the last day has passed", enoughAt(99997, 4166, 9), 1);
        Edges.due("the last day lies near", enoughAt(99996 - 1439, 4166, 9), 0);
        Edges.due("the last day lies far", enoughAt(99996 - 1440, 4166, 9), 1);
        SnowMules rest = feasted(0);
        Edges.law(rest, "chain 0");
        Edges.hours(rest, 2, 13);
        rest.feast(0, 60, 10);
        Edges.due("1439 hours of rest", rest.enough(1, 0, 1449), 1);
        Edges.due("1439 hours of rest, one less", rest.enough(1, 0, 1448), 0);
    }

    private static int leastFor(int drops) {
        SnowMules m = feasted(0);
        m.feast(0, 0, drops);
        return m.least(0, 0);
    }

    // Promise 31
    private static void leasts() {
        Edges.says("LEAST; -2: none; NONE without these.");
        Edges.range("law", 0, 2, NONE, (m, v) -> m.least(v, 2));
        Edges.range("node", 0, 4, NONE, (m, v) -> m.least(0, v));
        Edges.asks("least", Edges::some, m -> m.least(0, 2), 500);
        Edges.asks("without feasts", Edges::some, m -> m.least(0, 4), 0);
        Edges.says("LEAST: the least of 0, 100, 200, .. 99900 that is ENOUGH");
        Edges.due("for 1", leastFor(1), 100);
        Edges.due("for 100", leastFor(100), 100);
        Edges.due("for 101", leastFor(101), 200);
        Edges.due("for 99800", leastFor(99800), 99800);
        Edges.due("for 99801", leastFor(99801), 99900);
        Edges.due("for 99900", leastFor(99900), 99900);
        Edges.due("for 99901", leastFor(99901), -2);
        Edges.due("for 99999", leastFor(99999), -2);
        SnowMules odd = feasted(0);
        Edges.law(odd, "rest 500 if drops>=300 and drops<450 and hour=3");
        odd.feast(0, 0, 150);
        Edges.due("the least, not the last that is not", odd.least(2, 0), 200);
        Edges.due("more is too little", odd.enough(2, 0, 300), 0);
    }

    // Promise 32
    private static void nights() {
        Edges.says("NIGHTS what 0: how many come, 1: DROPS together, 2: how many were stolen; NONE without these (a JAR that there is; a WAY laid).");
        Edges.range("law", 0, 2, NONE, (m, v) -> m.nights(v, 0, 1000, 5, 0));
        Edges.range("jar", 0, 3, NONE, (m, v) -> m.nights(0, v, 1000, 5, 0));
        Edges.range("drops", 0, 99999, NONE, (m, v) -> m.nights(0, 0, v, 5, 0));
        Edges.range("what", 0, 2, NONE, (m, v) -> m.nights(0, 0, 1000, 5, v));
        Edges.refused("none laid", () -> ordered(1), m -> m.nights(0, 0, 1000, 5, 0), NONE);
        Edges.says("NIGHTS by a LAW: n times (1 to 20)");
        Edges.range("times", 1, 20, NONE, (m, v) -> m.nights(0, 0, 1000, v, 0));
        SnowMules m = laid(6);
        m.jar(3, 0, 0, 0, 0);
        Edges.due("one night", m.nights(0, 0, 1000, 1, 0), 1);
        Edges.due("20 nights", m.nights(0, 0, 1000, 20, 0), 20);
        Edges.due("drops of 20 nights", m.nights(0, 0, 99999, 20, 1), 20 * (99999 - 6));
        Edges.due("none stolen", m.nights(0, 0, 1000, 20, 2), 0);
        Edges.due("drops of none", m.nights(0, 0, 0, 20, 1), 0);
        Edges.due("come with none", m.nights(0, 0, 0, 20, 0), 20);
        SnowMules bare = laid(0);
        bare.jar(0, 0, 0, 0, 0);
        bare.seed(5);
        Edges.due("without passes all come", bare.nights(0, 0, 700, 20, 0), 20);
        Edges.due("without passes all is left", bare.nights(0, 0, 700, 20, 1), 14000);
        Edges.says("with risk and bursts (x goes on from the one to the next one; nothing else changes, and x is at the end as it was)");
        SnowMules risk = row(2);
        risk.pass(0, 1, 1, 0, 1000);
        risk.pass(0, 1, 1, 0, 1);
        Edges.law(risk, "burst 1000");
        Edges.law(risk, "burst 469");
        risk.jar(0, 0, 0, 0, 0);
        risk.from(0);
        risk.lay(1);
        Edges.due("all stolen", risk.nights(0, 0, 1000, 20, 2), 20);
        Edges.due("none comes", risk.nights(0, 0, 1000, 20, 0), 0);
        Edges.due("no drops", risk.nights(0, 0, 1000, 20, 1), 0);
        risk.from(0);
        risk.lay(0);
        Edges.due("all burst, none stolen", risk.nights(1, 0, 1000, 20, 2), 0);
        Edges.due("all burst, none comes", risk.nights(1, 0, 1000, 20, 0), 0);
        risk.from(0);
        risk.lay(2);
        // DRAWS 0 (stolen); 468, 988 (comes); 117, 498 (comes); 927, 45 (bursts).
        Edges.due("stolen in the first night", risk.nights(2, 0, 1000, 1, 2), 1);
        Edges.due("one stolen of three", risk.nights(2, 0, 1000, 3, 2), 1);
        Edges.due("two come of three", risk.nights(2, 0, 1000, 3, 0), 2);
        Edges.due("two come of four, one burst", risk.nights(2, 0, 1000, 4, 0), 2);
        Edges.due("drops of four", risk.nights(2, 0, 1000, 4, 1), 2000);
        Edges.due("x is as it was", risk.count(9), 0);
        Edges.asks("nothing else changes", Edges::some, n -> n.nights(2, 0, 1000, 20, 0) > 0 ? 1 : 0, 1);
        int[][] draws = {{12345, 468, 0, 1, 0}, {12345, 469, 0, 0, 1}, {917, 999, 0, 1, 0}, {917, 1000, 0, 0, 1}, {230538014, 767, 0, 1, 0},
            {230538014, 768, 0, 0, 1}, {0, 0, 468, 1, 0}, {0, 0, 469, 0, 0}, {727, 0, 0, 1, 0}, {727, 0, 1, 0, 0}, {1123, 0, 999, 1, 0},
            {1123, 0, 1000, 0, 0}, {1123, 0, 1001, 0, 0}, {0, 1, 1000, 0, 1}};
        for (int[] d : draws) {
            Edges.due("from x " + d[0] + ", risk " + d[1] + ", burst " + d[2] + ": come", night(d[0], d[1], d[2], 0), d[3]);
            Edges.due("from x " + d[0] + ", risk " + d[1] + ", burst " + d[2] + ": stolen", night(d[0], d[1], d[2], 2), d[4]);
        }
        SnowMules shared = row(2);
        Edges.law(shared, "melt 1;share 10;burst 1000 if drops=900 and node=1 and hour=1;rest 9");
        shared.jar(0, 0, 0, 0, 0);
        shared.store(1, 50);
        shared.from(0);
        shared.lay(0);
        Edges.due("a burst with the drops behind the share", shared.nights(1, 0, 1000, 1, 0), 0);
        Edges.due("no burst with others", shared.nights(1, 0, 1002, 1, 1), 901);
        Edges.due("no store takes the share", shared.at(1, 3), 50);
        Edges.says("NIGHTS: with a JAR's felt, salt and so many DROPS, leaving now");
        SnowMules jar = row(2);
        Edges.law(jar, "chain 0");
        Edges.law(jar, "melt felt*100+salt*10+hour");
        jar.jar(1, 9, 8, 0, 0);
        jar.from(0);
        jar.lay(0);
        jar.tick(1, 25);
        Edges.due("felt, salt and the hour", jar.nights(2, 0, 5000, 1, 1), 5000 - 981);
        jar.pass(1, 0, 1, 0, 1000);
        jar.leave(0, 1);
        Edges.due("of a jar on a pass", jar.nights(2, 0, 5000, 1, 1), 5000 - 981);
        jar.tick(1, 1);
        Edges.due("of a jar that is gone", jar.nights(2, 0, 5000, 1, 1), 5000 - 982);
    }

    private static int night(int x, int risk, int burst, int what) {
        SnowMules m = new SnowMules();
        m.node(0, 0, 0);
        m.node(0, 0, 0);
        m.pass(0, 1, 1, 0, risk);
        m.jar(0, 0, 0, 0, 0);
        Edges.law(m, "burst " + burst);
        m.from(0);
        m.lay(0);
        m.seed(x);
        return m.nights(0, 0, 1000, 1, what);
    }

    // Promise 33
    private static void prices() {
        Edges.says("PRICE of a PASS (felt, salt 0); -3: there is no WAY even so; NONE without these.");
        Edges.range("law", 0, 2, NONE, (m, v) -> m.price(v, 0, 2, 0, 1000, 0));
        Edges.range("hour", 0, 99999, NONE, (m, v) -> m.price(0, 0, 2, v, 1000, 0));
        Edges.range("drops", 0, 99999, NONE, (m, v) -> m.price(0, 0, 2, 0, v, 0));
        Edges.range("pass", 0, 4, NONE, (m, v) -> m.price(0, 0, 2, 0, 1000, v));
        Edges.range("from", 0, 3, NONE, (m, v) -> m.price(0, v, 4, 0, 1000, 0));
        Edges.range("from", 1, 4, NONE, (m, v) -> m.price(0, v, 0, 0, 1000, 0));
        Edges.range("to", 0, 3, NONE, (m, v) -> m.price(0, 4, v, 0, 1000, 0));
        Edges.range("to", 1, 4, NONE, (m, v) -> m.price(0, 0, v, 0, 1000, 0));
        Edges.refused("from a node to itself", Edges::some, m -> m.price(0, 2, 2, 0, 1000, 0), NONE);
        Edges.asks("there is no way even so", Edges::some, m -> m.price(0, 0, 4, 0, 1000, 0), -3);
        Edges.asks("there is no way even so", Edges::some, m -> m.price(0, 4, 0, 0, 1000, 4), -3);
        Edges.says("PRICE of a PASS: how much less is LEFT by BEST (its 24 hours) if that PASS were not there");
        int[] due = {10, 10, 0, 0, 0};
        for (int pass = 0; pass < 5; pass++) {
            int p = pass;
            Edges.asks("pass " + pass, Edges::some, m -> m.price(0, 0, 2, 0, 1000, p), due[pass]);
        }
        SnowMules hours = row(2);
        hours.pass(0, 1, 1, 1, 0);
        Edges.law(hours, "melt 10 if hour>5 or hour<5;melt 1 if sun=1");
        Edges.due("the best hour of both", hours.price(1, 0, 1, 6, 1000, 0), 1);
        Edges.due("a day later is too late for both", hours.price(1, 0, 1, 6, 1000, 1), 0);
        Edges.says("PRICE of a PASS (felt, salt 0)");
        SnowMules bare = row(2);
        bare.pass(0, 1, 2, 0, 0);
        Edges.law(bare, "melt 100 if felt>0 or salt>0;melt 7");
        Edges.due("7 and 14", bare.price(1, 0, 1, 0, 1000, 0), 7);
        Edges.due("7 and 14", bare.price(1, 0, 1, 0, 1000, 1), 0);
        Edges.says("(all of it, if there is no WAY then)");
        Edges.due("all of it", row(2).price(0, 0, 1, 0, 1000, 0), 999);
        Edges.due("all of nothing", row(2).price(0, 0, 1, 0, 0, 0), 0);
        Edges.due("a pass elsewhere", row(3).price(0, 0, 1, 0, 1000, 1), 0);
        Edges.due("one of six", row(7).price(0, 0, 6, 0, 1000, 5), 994);
        Edges.due("seven are no way", row(8).price(0, 0, 7, 0, 1000, 5), -3);
        SnowMules detour = row(7);
        detour.pass(0, 1, 2, 0, 0);
        Edges.due("a pass beside it", detour.price(0, 0, 6, 0, 1000, 0), 1);
        detour.node(0, 0, 0);
        Edges.due("of the other none", detour.price(0, 0, 6, 0, 1000, 6), 0);
    }

    // Promise 34
    private static void aheads() {
        Edges.says("AHEAD: so many hours (0 to 240) by a LAW, from now on (nothing changes)");
        Edges.range("law", 0, 2, NONE, (m, v) -> m.ahead(v, 5, 0));
        Edges.range("hours", 0, 240, NONE, (m, v) -> m.ahead(0, v, 0));
        Edges.range("what", 0, 1, NONE, (m, v) -> m.ahead(0, 5, v));
        Edges.asks("drops of now", Edges::some, m -> m.ahead(0, 0, 0), 4993 + 3990 + 777);
        Edges.asks("jars of now", Edges::some, m -> m.ahead(0, 0, 1), 3);
        Edges.asks("drops in an hour", Edges::some, m -> m.ahead(0, 1, 0), 4986 + 3980 + 775);
        Edges.asks("drops in 240 hours without melt", Edges::some, m -> m.ahead(2, 240, 0), 4993 + 3990 + 777);
        SnowMules far = Edges.some();
        far.tick(0, 240);
        long drops = 0;
        for (int i = 0; i < 5; i++) {
            drops += far.at(i, 3);
        }
        for (int i = 0; i < 4; i++) {
            drops += far.of(i, 0);
        }
        Edges.asks("as 240 hours would leave it", Edges::some, m -> m.ahead(0, 240, 0), drops);
        Edges.says("DROPS of all JARS and STORES together, JARS that are not GONE");
        SnowMules most = new SnowMules();
        Edges.law(most, "chain 0");
        for (int i = 0; i < 12; i++) {
            most.node(0, 4095, 0);
            most.store(i, 999999);
        }
        for (int i = 0; i < 16; i++) {
            most.jar(i % 12, 0, 0, 0, 0);
            most.fill(i, 99999);
        }
        Edges.due("the most", most.ahead(0, 0, 0), 12 * 999999 + 16 * 99999);
        Edges.due("the most", most.ahead(0, 240, 0), 12 * 999999 + 16 * 99999);
        Edges.due("all jars", most.ahead(0, 240, 1), 16);
        SnowMules stolen = row(2);
        stolen.pass(0, 1, 2, 0, 1000);
        stolen.jar(0, 0, 0, 0, 0);
        stolen.fill(0, 100);
        stolen.leave(0, 1);
        Edges.due("on a pass", stolen.ahead(0, 1, 1), 1);
        Edges.due("stolen in the second hour", stolen.ahead(0, 2, 1), 0);
        Edges.due("with its drops", stolen.ahead(0, 2, 0), 0);
        Edges.due("x goes on there alone", stolen.count(9), 0);
        SnowMules end = row(2);
        Edges.law(end, "chain 0");
        end.jar(0, 0, 0, 0, 0);
        Edges.hours(end, 1, 99999);
        end.fill(0, 1000);
        Edges.due("from the last hour on", end.ahead(0, 240, 0), 760);
        Edges.due("NOW", end.count(4), 99999);
    }
}

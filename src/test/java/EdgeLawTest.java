/**
 * The boundaries that part II of the document and the promises 9, 14 and 17 name, sentence by sentence:
 * texts of LAWS and their FAULTS, what is held, what goes round, an HOUR, thieves, bursts and DRAWS.
 */
public final class EdgeLawTest {
    private static final int NONE = SnowMules.NONE;

    public static void main(String[] args) {
        lawNumbers();
        lawsBehindFaults();
        bytesOfTexts();
        lengths();
        clauses();
        chainNumbers();
        testsOfText();
        numbers();
        words();
        blanks();
        depths();
        sixty();
        faults();
        arithmetic();
        sumsOfLaws();
        wordsOfJars();
        melts();
        shares();
        rests();
        hours();
        thieves();
        bursts();
        chains();
        draws();
        ticks();
        meltCalls();
        Edges.report();
    }

    private static void fault(String text, int place, int kind) {
        SnowMules m = new SnowMules();
        Edges.due("fault of '" + text + "'", Edges.law(m, text), -2 - (1 + 8 * place + kind));
        Edges.due("no law behind '" + text + "'", m.count(3), 0);
        Edges.due("the tape is empty behind '" + text + "'", m.count(10), 0);
    }

    private static void good(String text) {
        SnowMules m = new SnowMules();
        Edges.due("law '" + text + "'", Edges.law(m, text), 0);
        Edges.due("the tape is empty behind '" + text + "'", m.count(10), 0);
    }

    private static String times(String part, int n) {
        return part.repeat(n);
    }

    /** Two NODES and a PASS between them; JAR 0 stands at 0 with 90000 DROPS, felt 3 and salt 2. */
    private static SnowMules pair(int heightA, int heightB, int hours, int risk) {
        SnowMules m = new SnowMules();
        m.node(heightA, 4095, 4);
        m.node(heightB, 4095, 5);
        m.pass(0, 1, hours, 6, risk);
        m.jar(0, 3, 2, 0, 0);
        m.fill(0, 90000);
        return m;
    }

    private static int meltBy(String text) {
        SnowMules m = pair(123, 45, 2, 0);
        int law = Edges.law(m, text);
        return law < 0 ? law : m.melt(law, 0);
    }

    private static SnowMules laws(int n) {
        SnowMules m = new SnowMules();
        for (int i = 0; i < n; i++) {
            Edges.law(m, "melt " + (char) ('1' + i));
        }
        return m;
    }

    // Promise 9
    private static void lawNumbers() {
        Edges.says("LAWS 0 to 5 .. NONE, and nothing happens: there are 6.");
        for (int n = 0; n < 6; n++) {
            Edges.due("law " + n, Edges.law(laws(n), "rest 1"), n);
        }
        Edges.refused("a seventh", () -> {
            SnowMules m = laws(6);
            Edges.feed(m, "rest 1");
            m.end(6);
            return m;
        }, SnowMules::law, NONE);
        Edges.refused("a seventh of an empty tape", () -> laws(6), SnowMules::law, NONE);
        Edges.refused("a seventh with a fault", () -> {
            SnowMules m = laws(6);
            m.feed(0, 0, 0, 0, 0);
            return m;
        }, SnowMules::law, NONE);
        SnowMules six = laws(6);
        six.node(0, 1, 0);
        six.jar(0, 0, 0, 0, 0);
        six.fill(0, 9);
        for (int n = 0; n < 6; n++) {
            Edges.due("melt by law " + n, six.melt(n, 0), n + 1);
        }
        Edges.says("The TAPE, which is empty then, is a LAW: its number; -2 - its FAULT");
        SnowMules m = laws(2);
        Edges.due("a fault takes no number", Edges.law(m, "melt"), -2 - 33);
        Edges.due("laws", m.count(3), 2);
        Edges.due("bytes", m.count(10), 0);
        Edges.due("it is no law", m.tick(2, 1), NONE);
        Edges.due("the next number", Edges.law(m, "melt 4"), 2);
        Edges.due("bytes", m.count(10), 0);
        Edges.due("an empty tape", m.law(), -3);
        SnowMules half = pair(0, 0, 1, 0);
        // The fault is the last byte: all ahead of it has been read, and none of it may stay.
        fault("melt 9;rest 9;share 9;burst 1000;chain 9;melt 1 if 1<2 and not [2<3];", 69, 0);
        Edges.law(half, "melt 9;rest 9;share 9;burst 1000;chain 9;melt 1 if 1<2 and not [2<3];");
        Edges.due("a law behind a fault", Edges.law(half, "melt 5 if 1>2;melt 4 if not 1>2"), 0);
        half.jar(1, 0, 0, 0, 1);
        half.store(0, 100);
        half.leave(0, 0);
        half.tick(0, 1);
        Edges.due("it has its own melt, and no share", half.of(0, 0), 89996);
        Edges.due("no burst", half.of(0, 1), 1);
        Edges.due("no rest", half.at(0, 3), 100);
        Edges.law(half, "burst 1000;chain 9;rest");
        Edges.law(half, "burst 1000");
        half.jar(0, 0, 0, 0, 0);
        half.leave(2, 0);
        half.tick(1, 1);
        Edges.due("it burst", half.of(2, 1), 13);
        Edges.due("no chain", half.of(1, 1), 1);
    }

    private static void lawsBehindFaults() {
        Edges.says("-2 - its FAULT: what was read ahead of a FAULT is no part of a LAW");
        SnowMules m = pair(0, 0, 1, 0);
        String sixty = "melt 1" + times("+1", 59);
        String facts = "melt 1 if 1<2" + times(" and not not not not[1<2]", 13);
        for (int i = 0; i < 8; i++) {
            Edges.due("sixty values and one more", Edges.law(m, sixty + "+1"), -2 - 1 - 8 * 125 - 3);
            Edges.due("facts and a fault", Edges.law(m, facts + " x"), -2 - 1 - 8 * (facts.length() + 1));
            Edges.due("clauses and a fault", Edges.law(m, times("melt 3 if 1<2;", 12)), -2 - 1 - 8 * 168);
        }
        Edges.due("facts", Edges.law(m, facts + " and 1>2;melt 7 if 1>2;melt 8 if 1<2;melt 9"), 0);
        Edges.due("some hold, some don't", m.melt(0, 0), 8);
        Edges.law(m, sixty + "+1");
        Edges.due("sixty values", Edges.law(m, sixty), 1);
        Edges.due("all of them", m.melt(1, 0), 60);
        Edges.due("sixty values again", Edges.law(m, sixty), 2);
        Edges.due("all of them again", m.melt(2, 0), 60);
        Edges.law(m, "melt 2 if 1>2;melt 3 if 1>2;");
        Edges.due("clauses without a test", Edges.law(m, "rest 5;melt 4"), 3);
        Edges.due("none is asked", m.melt(3, 0), 4);
        Edges.law(m, "melt 2 if 1>2;melt 3 if 1>2;");
        Edges.due("twelve clauses", Edges.law(m, times("melt 5 if 1>2;", 11) + "melt 6"), 4);
        Edges.due("the twelfth", m.melt(4, 0), 6);
    }

    private static void bytesOfTexts() {
        Edges.says("0 a byte or WORD that can't stand there: each byte from 0 to 255");
        for (int b = 0; b < 256; b++) {
            String sign = String.valueOf((char) b);
            boolean join = "+-*/".indexOf(b) >= 0;
            boolean digit = b >= '0' && b <= '9';
            if (b == ' ') {
                good(sign + "melt 1");
            } else {
                fault(sign + " melt 1", 0, 0);
            }
            if (b == ' ' || digit) {
                good("melt 1" + sign);
            } else {
                fault("melt 1" + sign, join || b == ';' ? 7 : 6, 0);
            }
            if ("<=>".indexOf(b) >= 0) {
                good("melt 1 if 1" + sign + "2");
            } else {
                fault("melt 1 if 1" + sign + "2", join || digit ? 13 : b == ' ' ? 12 : 11, 0);
            }
            if (join) {
                good("melt 1 " + sign + " 2");
            } else {
                fault("melt 1 " + sign + " 2", b == ' ' ? 9 : b == ';' ? 9 : 7, 0);
            }
            if (digit) {
                good("melt " + sign);
            } else {
                fault("melt " + sign, b == ' ' ? 6 : 5, 0);
            }
        }
    }

    private static void lengths() {
        Edges.says("texts of at most 400 bytes");
        good("melt 1" + times(" ", 393));
        good("melt 1" + times(" ", 394));
        good("melt" + times(" ", 395) + "1");
        good(times(" ", 394) + "melt 1");
        fault("melt" + times(" ", 395) + "x", 399, 0);
        fault("melt" + times(" ", 396), 400, 0);
        fault(times(" ", 400), 400, 0);
        good("melt" + times(" ", 392) + "hour");
        fault("melt" + times(" ", 393) + "hou", 397, 0);
        fault("melt 1 if 1" + times(" ", 388) + "<", 400, 0);
        fault("melt 1 if 1" + times(" ", 387) + ">=", 400, 0);
        fault("melt" + times(" ", 390) + "123456", 394, 1);
        good("melt" + times(" ", 391) + "12345");
        SnowMules whole = new SnowMules();
        Edges.feed(whole, times(" ", 394) + "melt 1");
        Edges.due("400 bytes", whole.count(10), 400);
        Edges.due("are a law", whole.law(), 0);
        String[][] cuts = {{"melt hour", "8", "5", "0"}, {"melt 1 if 1<=2", "12", "12", "0"}, {"melt 1;rest 1", "12", "12", "0"}, {"melt 1 if [1<2]", "14", "14", "0"}};
        for (String[] c : cuts) {
            SnowMules cut = new SnowMules();
            Edges.feed(cut, c[0]);
            cut.end(Integer.parseInt(c[1]));
            Edges.due("'" + c[0] + "' cut at " + c[1], cut.law(), -3 - 8 * Integer.parseInt(c[2]));
        }
        SnowMules cut = new SnowMules();
        Edges.feed(cut, "melt 123456");
        cut.end(10);
        Edges.due("a number cut to five digits", cut.law(), 0);
    }

    private static void clauses() {
        Edges.says("CLAUSE { ; CLAUSE }, 12 at most");
        fault("", 0, 0);
        fault(";", 0, 0);
        good("rest 1");
        fault("rest 1;", 7, 0);
        fault("rest 1;;rest 1", 7, 0);
        String eleven = times("rest 1;", 10) + "rest 1";
        good(eleven);
        good(eleven + ";melt 1");
        good(eleven + ";chain 1");
        fault(eleven + ";melt 1;melt 1", 84, 4);
        fault(eleven + ";melt 1; share 1", 85, 4);
        fault(eleven + ";chain 1;melt 1", 85, 4);
        fault(eleven + ";melt 1;chain 1", 84, 4);
        Edges.due("the twelfth clause is heard", meltBy(eleven + ";melt 77"), 77);
        Edges.due("clauses behind the twelfth", meltBy(times("melt 5 if 1>2;", 11) + "melt 8"), 8);
    }

    private static void chainNumbers() {
        Edges.says("chain NUMBER (0 to 10; once at most; 0 without)");
        good("chain 0");
        good("chain 10");
        good("chain 00010");
        fault("chain 11", 6, 1);
        fault("chain  00011", 7, 1);
        fault("chain 99999", 6, 1);
        fault("chain 000000", 6, 1);
        fault("chain -1", 6, 0);
        fault("chain", 5, 0);
        fault("chain ", 6, 0);
        fault("chain;", 5, 0);
        fault("chain month", 6, 0);
        fault("chain 1*1", 7, 0);
        fault("chain 1 if 1=1", 8, 0);
        good("chain 1;melt 1");
        good("melt 1;chain 1");
        fault("chain 1;chain 1", 8, 4);
        fault("chain 1;melt 1; chain 1", 16, 4);
        fault("chain 0;chain", 8, 4);
        fault("chain 1;chain 99", 8, 4);
        fault("chain 1;chains", 8, 0);
    }

    private static void testsOfText() {
        Edges.says("melt SUM [ if TEST ] | rest SUM [ if TEST ] | share SUM [ if TEST ] | burst SUM [ if TEST ]");
        for (String sort : new String[] {"melt ", "rest ", "share", "burst"}) {
            good(sort + " 1");
            good(sort + " 1 if 1=1");
            fault(sort, sort.length(), 0);
            fault(sort + " if 1=1", 6, 0);
            fault(sort + " 1 if", 10, 0);
            fault(sort + " 1 if 1=1 if 1=1", 15, 0);
            fault(sort + " 1 1=1", 8, 0);
        }
        Edges.says("TEST: PART { or PART }. PART: FACT { and FACT }. FACT: not FACT | [ TEST ] | SUM SIGN SUM");
        good("melt 1 if 1<1 or 1<1 and not 1<1 or [1<1 or not [1<1]]");
        fault("melt 1 if or 1<1", 10, 0);
        fault("melt 1 if 1<1 or", 16, 0);
        fault("melt 1 if 1<1 or or 1<1", 17, 0);
        fault("melt 1 if 1<1 and", 17, 0);
        fault("melt 1 if 1<1 and or 1<1", 18, 0);
        fault("melt 1 if 1<1 not 1<1", 14, 0);
        fault("melt 1 if []", 11, 0);
        fault("melt 1 if [1<1", 14, 0);
        fault("melt 1 if [1<1]]", 15, 0);
        fault("melt 1 if [[1<1]", 16, 0);
        fault("melt 1 if [1+1]<1", 14, 0);
        fault("melt 1 if [1<1]+1<1", 15, 0);
        fault("melt 1 if [1<1] [1<1]", 16, 0);
        fault("melt 1 if 1", 11, 0);
        fault("melt 1 if 1<", 12, 0);
        fault("melt 1 if <1", 10, 0);
        fault("melt 1 if 1<1<1", 13, 0);
        fault("melt [1]", 5, 0);
        fault("melt not 1", 5, 0);
        Edges.says("SIGN one of < <= = >= >");
        String[] signs = {"<", "<=", "=", ">=", ">"};
        boolean[][] holds = {{true, false, false}, {true, true, false}, {false, true, false}, {false, true, true}, {false, false, true}};
        for (int i = 0; i < 5; i++) {
            Edges.due("2" + signs[i] + "3", meltBy("melt 1 if 2" + signs[i] + "3"), Edges.bit(holds[i][0]));
            Edges.due("3" + signs[i] + "3", meltBy("melt 1 if 3" + signs[i] + "3"), Edges.bit(holds[i][1]));
            Edges.due("4" + signs[i] + "3", meltBy("melt 1 if 4" + signs[i] + "3"), Edges.bit(holds[i][2]));
        }
        fault("melt 1 if 1<>1", 12, 0);
        fault("melt 1 if 1=<1", 12, 0);
        fault("melt 1 if 1=>1", 12, 0);
        fault("melt 1 if 1==1", 12, 0);
        fault("melt 1 if 1<<1", 12, 0);
        fault("melt 1 if 1!=1", 11, 0);
        Edges.says("SUM: TERM { (+ or -) TERM }. TERM: VALUE { (* or /) VALUE }");
        fault("melt +1", 5, 0);
        fault("melt -1", 5, 0);
        fault("melt *1", 5, 0);
        fault("melt 1+", 7, 0);
        fault("melt 1*", 7, 0);
        fault("melt 1+-1", 7, 0);
        fault("melt 1*+1", 7, 0);
        fault("melt 1 % 1", 7, 0);
        fault("melt (1)", 5, 0);
    }

    private static void numbers() {
        Edges.says("NUMBER (1 to 5 digits, as far as digits go on) .. 1 a NUMBER of more digits, or not as told");
        Edges.due("one digit", meltBy("melt 0"), 0);
        Edges.due("one digit", meltBy("melt 9"), 9);
        Edges.due("five digits", meltBy("melt 89999"), 89999);
        Edges.due("five digits", meltBy("melt 00007"), 7);
        Edges.due("the greatest", meltBy("melt 99999-99998"), 1);
        fault("melt 100000", 5, 1);
        fault("melt 000001", 5, 1);
        fault("melt 1234567890123456789012345678901234567890", 5, 1);
        fault("melt 1+123456", 7, 1);
        fault("melt 1 if 123456", 10, 1);
        fault("melt 1 if 1<123456", 12, 1);
        good("melt 12345 if 12345<12345");
        fault("melt 12345 6", 11, 0);
        fault("melt 12345 678901", 11, 0);
        fault("123456", 0, 0);
        fault("melt 1.5", 6, 0);
        Edges.due("digits end at a letter", meltBy("melt 12if 3=3"), 12);
        fault("melt 12hour", 7, 0);
        fault("melt hour12", 9, 0);
        fault("melt hour123456", 9, 0);
        fault("melt /", 5, 0);
        fault("melt :", 5, 0);
    }

    private static void words() {
        Edges.says("WORDS (small letters, as far as these go on): month, hour, day, height, sun, cold, node, drops, felt, salt, gone");
        for (String word : "month hour day height sun cold node drops felt salt gone".split(" ")) {
            good("melt " + word);
            fault("melt " + word + "s", 5, 0);
            fault("melt " + word.substring(1), 5, 0);
            fault("melt " + word.substring(0, word.length() - 1), 5, 0);
            fault("melt " + word + "hour", 5, 0);
            fault("melt " + word.substring(0, 2) + " " + word.substring(2), 5, 0);
            fault("melt " + word.toUpperCase(), 5, 0);
            fault(word + " 1", 0, 0);
        }
        for (String word : "melt rest share burst chain if or and not".split(" ")) {
            fault("melt " + word, 5, 0);
            fault("melt 1+" + word, 7, 0);
        }
        for (String word : "melts mel m elt rests resting shares burs chains iff i meltmelt".split(" ")) {
            fault(word + " 1", 0, 0);
        }
        for (String word : "iff i f fi or and not when".split(" ")) {
            fault("melt 1 " + word + " 1=1", 7, 0);
        }
        fault("melt 1 if 1=1 orr 1=1", 14, 0);
        fault("melt 1 if 1=1 an 1=1", 14, 0);
        fault("melt 1 if nott 1=1", 10, 0);
        fault("Melt 1", 0, 0);
        fault("mElt 1", 0, 0);
        for (String sign : new String[] {"a", "z"}) {
            fault("melt" + sign + " 1", 0, 0);
            fault("melt hour" + sign, 5, 0);
            fault("melt " + sign, 5, 0);
            fault("melt 1 if" + sign + " 1=1", 7, 0);
        }
        fault("melt`1", 4, 0);
        fault("melt{1", 4, 0);
        fault("melt `", 5, 0);
        fault("melt {", 5, 0);
    }

    private static void blanks() {
        Edges.says("Blanks (32) stand between as one likes");
        good("melt1if1<2;rest2;chain3");
        good("  melt   1   if   1   <   2   ;   rest   2  ;  chain   3  ");
        good("melt 1 if[1<2]or[not[2<=3]]");
        good("melt 1 if not[1<2]");
        fault("me lt 1", 0, 0);
        fault("melt 1 2", 7, 0);
        fault("melt 1 if 1 < = 2", 14, 0);
        fault("melt 1 if 1 > = 2", 14, 0);
        fault("melt 1 i f 1<2", 7, 0);
        for (int b : new int[] {0, 1, 9, 10, 13, 31, 33, 127, 128, 160, 255}) {
            fault("melt" + (char) b + "1", 4, 0);
            fault("melt 1" + (char) b, 6, 0);
            fault((char) b + "melt 1", 0, 0);
        }
    }

    private static void depths() {
        Edges.says("[ and not lie within one another 10 deep at most .. 2 too deep (at the sign that opens, or the word not)");
        for (int n = 9; n <= 10; n++) {
            good("melt 1 if " + times("[", n) + "1<2" + times("]", n));
            good("melt 1 if " + times("not ", n) + "1<2");
        }
        good("melt 1 if " + times("[not ", 5) + "1<2" + times("]", 5));
        fault("melt 1 if " + times("[", 11) + "1<2" + times("]", 11), 20, 2);
        fault("melt 1 if " + times("not ", 11) + "1<2", 50, 2);
        fault("melt 1 if " + times("[not ", 5) + "[1<2]" + times("]", 5), 35, 2);
        fault("melt 1 if " + times("[not ", 5) + "not 1<2" + times("]", 5), 35, 2);
        fault("melt 1 if " + times("[", 11), 20, 2);
        fault("melt 1 if " + times("[", 10), 20, 0);
        fault("melt 1 if " + times("[", 10) + "1<2 and not 1<2", 28, 2);
        good("melt 1 if " + times("[", 10) + "1<2" + times("]", 10) + " and " + times("[", 10) + "1<2" + times("]", 10));
        good("melt 1 if " + times("not ", 10) + "1<2 or " + times("not ", 10) + "1<2");
        good("melt 1 if " + times("[", 9) + "[1<2] and not 1<2 or [1<2]" + times("]", 9));
        good("melt 1 if " + times("[", 10) + "1<2" + times("]", 10) + ";rest 1 if " + times("not ", 10) + "1<2");
        Edges.due("ten brackets hold", meltBy("melt 6 if " + times("[", 10) + "1<2" + times("]", 10)), 6);
        Edges.due("ten nots hold", meltBy("melt 6 if " + times("not ", 10) + "1<2"), 6);
        Edges.due("nine nots don't", meltBy("melt 6 if " + times("not ", 9) + "1<2"), 0);
        StringBuilder deep = new StringBuilder("1<2");
        for (int i = 0; i < 3; i++) {
            deep.insert(0, "1>2 or [1<2 and not [").append("]]");
        }
        // Each of three steps turns what is inside round; 1<2 turned three times does not hold.
        Edges.due("what waits on each level", meltBy("melt 6 if " + deep), 0);
        Edges.due("what waits on each level", meltBy("melt 6 if " + deep.toString().replace("[1<2]", "[1>2]")), 6);
    }

    private static void sixty() {
        Edges.says("at most 60 VALUES and FACTS made of a SIGN, together .. 3 one VALUE or FACT too many (at its first byte; of a FACT at its SIGN)");
        String fiftyNine = "melt 1" + times("+1", 58);
        good(fiftyNine);
        good(fiftyNine + "+1");
        fault(fiftyNine + "+1+1", 125, 3);
        fault(fiftyNine + "+1*  gone", 127, 3);
        Edges.due("all sixty count", meltBy(fiftyNine + "+1"), 60);
        // A FACT is two VALUES and its SIGN: three of sixty.
        String fact = "melt 1" + times("+1", 56) + " if 1";
        good(fact + "<2");
        good(fact + "<=2;chain 5");
        fault(fact + "<2;melt 1", fact.length() + 8, 3);
        fault(fact + "<2+3", fact.length() + 3, 3);
        fault("melt 1" + times("+1", 57) + " if 1<2", 126, 3);
        fault("melt 1" + times("+1", 58) + " if 1 >=2", 128, 3);
        fault("melt 1" + times("+1", 59) + " if 1<2", 128, 3);
        // not and [ are not counted; nineteen FACTS and three VALUES are sixty.
        String facts = "melt 1 if 1<2" + times(" and not[1<2]", 18);
        good(facts + ";rest 1+1");
        fault(facts + ";rest 1+1+1", facts.length() + 10, 3);
        good(facts + ";melt 1;chain 10;burst 1");
        fault(facts + ";melt 1;chain 10;burst 1;share 1", facts.length() + 31, 3);
        good(fiftyNine + "+1;chain 1");
        fault(fiftyNine + "+1;rest 1", 130, 3);
    }

    private static void faults() {
        Edges.says("FAULTS, the first along the text, 1 + 8 * its place");
        fault("melt x; rest 123456; chain 99", 5, 0);
        fault("melt 123456; rest x", 5, 1);
        fault("melt 1; chain 11; chain 12", 14, 1);
        fault("x", 0, 0);
        fault(" x", 1, 0);
        Edges.says("0 a byte or WORD that can't stand there, or the end (behind the last byte)");
        fault("melt", 4, 0);
        fault("melt  ", 6, 0);
        fault("melt 1 +  ", 10, 0);
        Edges.says("Of one place the least.");
        String sixty = "melt 1" + times("+1", 59);
        fault(sixty + "+123456", 125, 1);
        fault(sixty + "+x", 125, 0);
        fault(sixty + "+", 125, 0);
        fault(sixty + "+[", 125, 0);
        fault("melt 1" + times("+1", 58) + " if 1!2", 127, 0);
        String twelve = times("rest 1;", 12);
        fault(twelve + "melts 1", 84, 0);
        fault(twelve + "5", 84, 0);
        fault(twelve, 84, 0);
        fault(twelve + "melt 1", 84, 4);
        fault("melt 1 if " + times("[", 10) + "]", 20, 0);
    }

    private static void arithmetic() {
        Edges.says("/ is towards 0, 0 by 0; all goes round in 64 bits");
        Edges.due("7/2", meltBy("melt 7/2"), 3);
        Edges.due("1/2", meltBy("melt 1/2"), 0);
        Edges.due("5/5", meltBy("melt 5/5"), 1);
        Edges.due("4/5", meltBy("melt 4/5"), 0);
        Edges.due("by a number of 0", meltBy("melt 7/0"), 0);
        Edges.due("0 by 0", meltBy("melt 0/0+2"), 2);
        Edges.due("by a word of 0", meltBy("melt 7/gone+3"), 3);
        Edges.due("0 by 0 goes on", meltBy("melt 7/0*5+1"), 1);
        Edges.due("in a fact", meltBy("melt 9 if 7/0=0 and 0=7/hour"), 9);
        // The least of 64 bits, and a third of it: 2 more than it, three times, towards 0.
        String least = "65536*65536*65536*32768";
        Edges.due("below 0 towards 0, too", meltBy("melt " + least + "/3*3-" + least), 2);
        Edges.due("the least is below 0", meltBy("melt 1 if " + least + "<0"), 1);
        Edges.due("one less is above 0", meltBy("melt 1 if " + least + "-1>0"), 1);
        Edges.due("its opposite is itself", meltBy("melt 1 if 0-" + least + "=" + least), 1);
        Edges.due("twice it is 0", meltBy("melt 7+" + least + "+" + least), 7);
        Edges.due("2 to the 64th is 0", meltBy("melt 5+65536*65536*65536*65536"), 5);
        Edges.due("2 to the 32nd is not", meltBy("melt 1 if 65536*65536>99999"), 1);
        Edges.due("2 to the 31st is not below 0", meltBy("melt 1 if 65536*32768>0"), 1);
        Edges.due("more than 31 bits are held, not cut", meltBy("melt 65536*65536+1"), 90000);
        Edges.due("less than 31 bits below 0", meltBy("melt 0-65536*65536+1"), 0);
        Edges.due("2 to the 63rd less 1 is held", meltBy("melt " + least + "-1"), 90000);
    }

    private static void sumsOfLaws() {
        Edges.says("A SUM of a LAW is that of the first CLAUSE of its sort without a TEST, or whose TEST holds (0 without).");
        Edges.due("of its sort", meltBy("rest 1;share 2;burst 3;melt 4"), 4);
        Edges.due("the first that holds", meltBy("melt 1 if 1>2;melt 2 if 1<2;melt 3 if 1<2"), 2);
        Edges.due("the first without a test", meltBy("melt 1 if 1>2;melt 2;melt 3 if 1<2"), 2);
        Edges.due("the first without a test", meltBy("melt 2;melt 3"), 2);
        Edges.due("none holds", meltBy("melt 1 if 1>2;melt 2 if 2>3"), 0);
        Edges.due("without melt", meltBy("chain 10;rest 5"), 0);
        SnowMules m = pair(0, 0, 1, 0);
        Edges.law(m, "melt 1");
        m.store(1, 500);
        m.leave(0, 0);
        m.tick(0, 1);
        Edges.due("without rest and share", m.at(1, 3), 500);
        Edges.due("without share", m.of(0, 0), 89999);
        Edges.due("without burst", m.of(0, 1), 1);
    }

    private static int wordAt(String word, int heightA, int heightB, int hours, int gone) {
        SnowMules m = pair(heightA, heightB, hours, 0);
        Edges.law(m, "melt " + word);
        Edges.law(m, "chain 0");
        m.leave(0, 0);
        Edges.hours(m, 1, gone);
        return m.melt(0, 0);
    }

    private static int shareOf(String test) {
        SnowMules m = pair(123, 45, 2, 0);
        Edges.law(m, "chain 0");
        Edges.law(m, "melt 7;share 50 if " + test);
        Edges.hours(m, 0, 21);
        m.leave(0, 0);
        m.tick(1, 2);
        return m.at(1, 3);
    }

    private static void wordsOfJars() {
        Edges.says("at a NODE: its height, cold, number (node), sun and gone 0 .. drops, felt, salt of the JAR");
        String[] words = {"month", "hour", "day", "height", "sun", "cold", "node", "drops", "felt", "salt", "gone"};
        int[] atNode = {0, 0, 0, 123, 0, 4, 0, 90000, 3, 2, 0};
        int[] onPass = {0, 0, 0, 123, 6, 0, 12, 90000, 3, 2, 0};
        int[] later = {0, 1, 0, 84, 6, 0, 12, 90000, 3, 2, 1};
        for (int i = 0; i < words.length; i++) {
            Edges.due(words[i] + " at a node", meltBy("melt " + words[i]), atNode[i]);
        }
        Edges.says("on a PASS of n hours from a to b, gone hours behind it (0 to n less 1) .. sun of the PASS, cold 0, node 12");
        for (int i = 0; i < words.length; i++) {
            Edges.due(words[i] + " on a pass", wordAt(words[i], 123, 45, 2, 0), onPass[i]);
            Edges.due(words[i] + " an hour later", wordAt(words[i], 123, 45, 2, 1), later[i]);
        }
        Edges.due("gone in the last hour of 24", wordAt("gone", 0, 0, 24, 23), 23);
        Edges.due("gone when it has come", wordAt("gone", 0, 0, 24, 24), 0);
        Edges.says("height: (that of a times (n less gone), and that of b times gone) by n, downwards");
        int[][] heights = {{400, 0, 3, 0, 400}, {400, 0, 3, 1, 266}, {400, 0, 3, 2, 133}, {0, 400, 3, 0, 0}, {0, 400, 3, 1, 133}, {0, 400, 3, 2, 266},
            {0, 1, 24, 23, 0}, {1, 0, 24, 0, 1}, {1, 0, 24, 1, 0}, {400, 399, 2, 1, 399}, {400, 400, 24, 23, 400}, {7, 9, 1, 0, 7}, {0, 400, 24, 23, 383}};
        for (int[] h : heights) {
            Edges.due("height from " + h[0] + " to " + h[1] + " of " + h[2] + " behind " + h[3], wordAt("height", h[0], h[1], h[2], h[3]), h[4]);
        }
        SnowMules other = pair(400, 0, 3, 0);
        Edges.law(other, "melt height");
        Edges.law(other, "chain 0");
        other.jar(1, 0, 0, 0, 0);
        other.fill(1, 9000);
        other.leave(1, 0);
        other.tick(1, 1);
        Edges.due("height the other way", other.melt(0, 1), 133);
        Edges.says("When n hours are gone, it comes to b (WORDS as at that NODE, of the hour that begins then)");
        Edges.due("hour", shareOf("hour=23"), 44993);
        Edges.due("day", shareOf("day=0"), 44993);
        Edges.due("height", shareOf("height=45"), 44993);
        Edges.due("cold, node", shareOf("cold=5 and node=1"), 44993);
        Edges.due("sun, gone", shareOf("sun=0 and gone=0"), 44993);
        Edges.due("felt, salt", shareOf("felt=3 and salt=2"), 44993);
        Edges.due("drops behind melt", shareOf("drops=89986"), 44993);
        SnowMules month = pair(0, 0, 1, 0);
        Edges.law(month, "chain 0");
        Edges.law(month, "share 10 if month=1 and day=30 and hour=0;burst 1000 if month=1 and day=30 and hour=0 and drops=81000;rest 5 if month=0 and day=29 and hour=23");
        Edges.hours(month, 0, 719);
        month.leave(0, 0);
        month.store(0, 100);
        month.tick(1, 1);
        Edges.due("a share of the month that begins", month.at(1, 3), 9000 - 5);
        Edges.due("a burst of the month that begins", month.of(0, 1), 13);
        Edges.due("a rest of the month that ended", month.at(0, 3), 95);
    }

    private static int dropsAfter(String law, int drops) {
        SnowMules m = pair(0, 0, 1, 0);
        Edges.law(m, law);
        m.fill(0, drops);
        m.tick(0, 1);
        return m.of(0, 0);
    }

    private static void melts() {
        Edges.says("MELT of it in that hour: melt held to 0 to its DROPS: so many less.");
        Edges.due("below 0", dropsAfter("melt 0-1", 100), 100);
        Edges.due("0", dropsAfter("melt 0", 100), 100);
        Edges.due("1", dropsAfter("melt 1", 100), 99);
        Edges.due("one less than all", dropsAfter("melt 99", 100), 1);
        Edges.due("all", dropsAfter("melt 100", 100), 0);
        Edges.due("more than all", dropsAfter("melt 101", 100), 0);
        Edges.due("the last one", dropsAfter("melt 1", 1), 0);
        Edges.due("of none", dropsAfter("melt 1", 0), 0);
        Edges.due("all of the most", dropsAfter("melt 99999", 99999), 0);
        Edges.due("by drops", dropsAfter("melt drops", 99999), 0);
        Edges.due("an empty jar", dropsAfter("melt 5-drops", 0), 0);
        SnowMules m = pair(0, 0, 3, 0);
        Edges.law(m, "melt 40000");
        m.leave(0, 0);
        m.tick(0, 3);
        Edges.due("held in the third hour of a pass", m.of(0, 0), 0);
    }

    private static int[] afterShare(String share, int drops, int store) {
        SnowMules m = pair(0, 0, 1, 0);
        Edges.law(m, "share " + share);
        m.fill(0, drops);
        m.store(1, store);
        m.leave(0, 0);
        m.tick(0, 1);
        return new int[] {m.of(0, 0), m.at(1, 3)};
    }

    private static void shares() {
        Edges.says("SHARE: share held to 0 to 100, hundredths of its DROPS, downwards: less, and more in the STORE of b (999999 at most, the rest is lost).");
        Object[][] cases = {
            {"0-1", 100, 0, 100, 0}, {"0", 100, 0, 100, 0}, {"1", 100, 0, 99, 1}, {"1", 99, 0, 99, 0}, {"1", 199, 0, 198, 1}, {"99", 100, 0, 1, 99},
            {"99", 1, 0, 1, 0}, {"100", 1, 0, 0, 1}, {"100", 99999, 0, 0, 99999}, {"101", 50, 0, 0, 50}, {"99999", 50, 0, 0, 50}, {"50", 0, 7, 0, 7},
            {"99", 99999, 0, 1000, 98999}, {"10", 1000, 999899, 900, 999999}, {"10", 1000, 999900, 900, 999999}, {"10", 1000, 999999, 900, 999999},
            {"100", 99999, 900001, 0, 999999}, {"0-65536*65536", 100, 0, 100, 0}, {"65536*65536", 100, 0, 0, 100}, {"drops/10", 150, 0, 128, 22}};
        for (Object[] c : cases) {
            int[] after = afterShare((String) c[0], (Integer) c[1], (Integer) c[2]);
            Edges.due("drops behind a share of " + c[0] + " of " + c[1], after[0], (Integer) c[3]);
            Edges.due("store of " + c[2] + " behind a share of " + c[0] + " of " + c[1], after[1], (Integer) c[4]);
        }
        SnowMules m = pair(0, 0, 2, 0);
        Edges.law(m, "share 50");
        m.leave(0, 0);
        m.tick(0, 1);
        Edges.due("no share on the way", m.of(0, 0), 90000);
        m.tick(0, 2);
        Edges.due("one share, and none for standing", m.of(0, 0), 45000);
        Edges.due("the node it left takes none", m.at(0, 3), 0);
    }

    private static int storeAfter(String law, int store) {
        SnowMules m = pair(77, 0, 1, 0);
        Edges.law(m, law);
        m.store(0, store);
        m.tick(0, 1);
        return m.at(0, 3);
    }

    private static void rests() {
        Edges.says("REST: rest held to 0 to STORE: so many less.");
        Edges.due("below 0", storeAfter("rest 0-1", 100), 100);
        Edges.due("0", storeAfter("rest 0", 100), 100);
        Edges.due("1", storeAfter("rest 1", 100), 99);
        Edges.due("one less than all", storeAfter("rest 99", 100), 1);
        Edges.due("all", storeAfter("rest 100", 100), 0);
        Edges.due("more than all", storeAfter("rest 101", 100), 0);
        Edges.due("the last one", storeAfter("rest 1", 1), 0);
        Edges.due("of none", storeAfter("rest 1", 0), 0);
        Edges.due("the most", storeAfter("rest drops", 999999), 0);
        Edges.due("of the most", storeAfter("rest 1", 999999), 999998);
        Edges.due("more than 31 bits", storeAfter("rest 65536*65536+1", 5), 0);
        Edges.says("WORDS of a STORE: month, hour, day, height, cold, node of the NODE, drops its STORE, the others 0.");
        Edges.due("height, cold, node", storeAfter("rest height*100+cold*10+node", 90000), 90000 - 7740);
        Edges.due("the others", storeAfter("rest sun+felt+salt+gone+1", 90000), 89999);
        Edges.due("drops", storeAfter("rest drops/3", 90000), 60000);
        SnowMules m = pair(0, 0, 1, 0);
        for (int i = 2; i < 12; i++) {
            m.node(0, 0, 0);
        }
        Edges.law(m, "rest node+1");
        m.store(11, 100);
        m.store(1, 100);
        m.tick(0, 1);
        Edges.due("the last node's store", m.at(11, 3), 88);
        Edges.due("another's", m.at(1, 3), 98);
        Edges.due("an empty one", m.at(5, 3), 0);
    }

    private static void hours() {
        Edges.says("(1) JARS that are not GONE, by their numbers .. (3) All STORES by the NODES' numbers: REST .. NOW is 1 more.");
        SnowMules m = pair(0, 0, 1, 1);
        Edges.law(m, "melt 1");
        m.jar(0, 0, 0, 0, 0);
        m.leave(0, 0);
        m.leave(1, 0);
        m.tick(0, 1);
        // DRAWS 0 (below 1), then 468 and 988.
        Edges.due("the first draw is the first jar's", m.of(0, 1), 13);
        Edges.due("the next ones are the second's", m.of(1, 1), 1);
        Edges.due("three draws", m.count(9), 654583775);
        SnowMules s = pair(0, 0, 1, 0);
        Edges.law(s, "share 10;rest drops/2");
        s.leave(0, 0);
        s.tick(0, 1);
        Edges.due("a rest of a share that came in the hour", s.at(1, 3), 4500);
        SnowMules both = pair(0, 0, 2, 0);
        Edges.law(both, "melt gone+1");
        both.jar(1, 0, 0, 0, 0);
        both.fill(1, 500);
        both.leave(0, 0);
        both.leave(1, 0);
        both.tick(0, 2);
        Edges.due("one way", both.of(0, 1), 1);
        Edges.due("and the other", both.of(1, 1), 0);
        Edges.due("its melt", both.of(1, 0), 497);
        both.tick(0, 1);
        Edges.due("it stands", both.of(1, 1), 0);
        Edges.due("melt where it stands", both.of(1, 0), 496);
    }

    private static int whereAfter(int seed, int risk, String burst) {
        SnowMules m = pair(0, 0, 1, risk);
        Edges.law(m, "burst " + burst);
        m.seed(seed);
        m.leave(0, 0);
        m.tick(0, 1);
        return m.of(0, 1);
    }

    private static void thieves() {
        Edges.says("(2) a DRAW mod 1000 below risk of the PASS: it is stolen: GONE.");
        Edges.due("0 is not below 0", whereAfter(0, 0, "0"), 1);
        Edges.due("0 is below 1", whereAfter(0, 1, "0"), 13);
        Edges.due("468 is not below 468", whereAfter(12345, 468, "0"), 1);
        Edges.due("468 is below 469", whereAfter(12345, 469, "0"), 13);
        Edges.due("999 is not below 999", whereAfter(917, 999, "0"), 1);
        Edges.due("999 is below 1000", whereAfter(917, 1000, "0"), 13);
        SnowMules m = pair(0, 0, 1, 1000);
        Edges.law(m, "burst 1000;share 1;chain 10");
        m.jar(1, 0, 0, 0, 1);
        m.leave(0, 0);
        m.tick(0, 1);
        Edges.due("one draw", m.count(9), 12345);
        Edges.due("its share was taken ahead", m.at(1, 3), 900);
        Edges.due("what is stolen does not burst", m.of(1, 1), 1);
        SnowMules twice = pair(0, 0, 1, 0);
        Edges.law(twice, "melt 1");
        twice.leave(0, 0);
        twice.tick(0, 1);
        twice.tick(0, 5);
        Edges.due("two draws for one that comes, none for one that stands", twice.count(9), 1406932606);
        SnowMules on = pair(0, 0, 3, 1000);
        Edges.law(on, "burst 1000");
        on.leave(0, 0);
        on.tick(0, 2);
        Edges.due("no draw on the way", on.count(9), 0);
    }

    private static void bursts() {
        Edges.says("Else a DRAW mod 1000 below burst (held to 0 to 1000, WORDS as for SHARE, but drops as they are then): it BURSTS: GONE");
        Edges.due("468 is not below 468", whereAfter(0, 0, "468"), 1);
        Edges.due("468 is below 469", whereAfter(0, 0, "469"), 13);
        Edges.due("0 is not below 0", whereAfter(727, 0, "0"), 1);
        Edges.due("0 is not below what is below 0", whereAfter(727, 0, "0-1"), 1);
        Edges.due("0 is below 1", whereAfter(727, 0, "1"), 13);
        Edges.due("999 is not below 999", whereAfter(1123, 0, "999"), 1);
        Edges.due("999 is below 1000", whereAfter(1123, 0, "1000"), 13);
        Edges.due("held to 1000", whereAfter(1123, 0, "99999"), 13);
        Edges.due("more than 31 bits", whereAfter(1123, 0, "65536*65536"), 13);
        Edges.due("less than 31 bits", whereAfter(727, 0, "0-65536*65536*3/2"), 1);
        SnowMules m = pair(0, 0, 1, 0);
        Edges.law(m, "share 10;burst 1000 if drops=81000 and node=1 and hour=1 and gone=0 and sun=0");
        m.leave(0, 0);
        m.tick(0, 1);
        Edges.due("drops behind the share", m.of(0, 1), 13);
        Edges.due("none of them", m.of(0, 0), 0);
        Edges.due("two draws", m.count(9), 1406932606);
    }

    /** JAR 0 (felt 9, MULE 0, place 3) comes to 1 and bursts; the others as told: where it is, felt, MULE, place. */
    private static SnowMules burst(int chain, int[]... others) {
        SnowMules m = new SnowMules();
        m.node(0, 4095, 0);
        m.node(0, 4095, 0);
        m.pass(0, 1, 2, 0, 0);
        m.pass(0, 1, 9, 0, 0);
        StringBuilder text = new StringBuilder("burst 1000 if felt=9;chain ");
        Edges.law(m, text.append(chain).toString());
        m.jar(0, 9, 0, 0, 3);
        for (int[] o : others) {
            m.jar(o[0] == 1 || o[0] == 5 ? 1 : 0, o[1], 0, o[2], o[3]);
        }
        m.leave(0, 0);
        m.tick(0, 1);
        for (int i = 0; i < others.length; i++) {
            if (others[i][0] == 4 || others[i][0] == 5) {
                m.leave(i + 1, 0);
            } else if (others[i][0] == 6) {
                m.leave(i + 1, 1);
            }
        }
        m.tick(0, 1);
        return m;
    }

    private static void chains() {
        int there = 1;
        int left = 0;
        int behind = 4;
        int against = 5;
        int elsewhere = 6;
        Edges.says("of the same MULE, at the NODE it came to or on the PASS it came by");
        Edges.due("at the node", burst(5, new int[] {there, 4, 0, 4}).of(1, 1), 13);
        Edges.due("on the pass", burst(5, new int[] {behind, 4, 0, 4}).of(1, 1), 13);
        Edges.due("on the pass, the other way", burst(5, new int[] {against, 4, 0, 4}).of(1, 1), 13);
        Edges.due("at the node it left", burst(5, new int[] {left, 4, 0, 4}).of(1, 1), 0);
        Edges.due("on another pass", burst(5, new int[] {elsewhere, 4, 0, 4}).of(1, 1), 12);
        Edges.due("of another mule", burst(5, new int[] {there, 4, 1, 4}).of(1, 1), 1);
        Edges.says("whose place is above its own");
        Edges.due("the same place", burst(5, new int[] {there, 4, 0, 3}).of(1, 1), 1);
        Edges.due("a place below", burst(5, new int[] {there, 4, 0, 2}).of(1, 1), 1);
        Edges.due("the last place", burst(5, new int[] {there, 4, 0, 15}).of(1, 1), 13);
        Edges.says("the one with the least place (of several the least number)");
        SnowMules least = burst(5, new int[] {there, 4, 0, 6}, new int[] {there, 5, 0, 5});
        Edges.due("the least place has too much felt", least.of(2, 1), 1);
        Edges.due("the chain ends there", least.of(1, 1), 1);
        SnowMules number = burst(5, new int[] {there, 4, 0, 5}, new int[] {there, 0, 0, 5}, new int[] {there, 0, 0, 6});
        Edges.due("the least number of a place", number.of(1, 1), 13);
        Edges.due("the other of that place", number.of(2, 1), 1);
        Edges.due("the place above that", number.of(3, 1), 13);
        SnowMules felted = burst(5, new int[] {there, 5, 0, 5}, new int[] {there, 0, 0, 5});
        Edges.due("the least number has too much felt", felted.of(1, 1), 1);
        Edges.due("and the other is not asked", felted.of(2, 1), 1);
        Edges.says("if its felt is below chain: it BURSTS, too");
        Edges.due("felt 0, chain 0", burst(0, new int[] {there, 0, 0, 4}).of(1, 1), 1);
        Edges.due("felt 0, chain 1", burst(1, new int[] {there, 0, 0, 4}).of(1, 1), 13);
        Edges.due("felt 4, chain 4", burst(4, new int[] {there, 4, 0, 4}).of(1, 1), 1);
        Edges.due("felt 8, chain 9", burst(9, new int[] {there, 8, 0, 4}).of(1, 1), 13);
        Edges.due("felt 9, chain 9", burst(9, new int[] {there, 9, 0, 4}).of(1, 1), 1);
        Edges.due("felt 9, chain 10", burst(10, new int[] {there, 9, 0, 4}).of(1, 1), 13);
        Edges.says("and so on (of those whose place is above that one's)");
        SnowMules row = burst(5, new int[] {there, 0, 0, 15}, new int[] {behind, 1, 0, 7}, new int[] {there, 2, 0, 5}, new int[] {there, 3, 0, 4});
        for (int jar = 0; jar <= 4; jar++) {
            Edges.due("jar " + jar + " of a row", row.of(jar, 1), 13);
        }
        Edges.due("a chain draws nothing", row.count(9), 1406932606);
        int[][] all = new int[15][];
        for (int i = 0; i < 15; i++) {
            all[i] = new int[] {i % 2 == 0 ? there : behind, 0, 0, Math.min(15, i + 4)};
        }
        SnowMules full = burst(10, all);
        int gone = 0;
        for (int jar = 0; jar < 16; jar++) {
            gone += full.of(jar, 1) == 13 ? 1 : 0;
        }
        // Places 4 to 15 once each; the JARS 13 to 15 share place 15 with 12.
        Edges.due("all places above", gone, 13);
        Edges.says("of all JARS that are not GONE");
        SnowMules m = burst(5, new int[] {there, 4, 0, 4}, new int[] {there, 6, 0, 5});
        Edges.due("gone", m.of(1, 1), 13);
        m.jar(0, 9, 0, 0, 3);
        m.jar(1, 0, 0, 0, 6);
        m.leave(3, 0);
        m.tick(0, 2);
        Edges.due("one that is gone is passed over, one with felt ends it", m.of(4, 1), 1);
        Edges.due("it burst itself", m.of(3, 1), 13);
        SnowMules again = burst(10, new int[] {there, 9, 0, 4});
        again.jar(0, 9, 0, 0, 3);
        again.jar(1, 0, 0, 0, 5);
        again.leave(2, 0);
        again.tick(0, 2);
        Edges.due("one that is gone is passed over", again.of(3, 1), 13);
        SnowMules lower = pair(0, 0, 1, 0);
        Edges.law(lower, "burst 1000 if felt=9;chain 5");
        lower.leave(0, 0);
        lower.tick(0, 1);
        lower.jar(0, 9, 0, 0, 15);
        lower.leave(1, 0);
        lower.tick(0, 1);
        Edges.due("place 0 is not above 15", lower.of(0, 1), 1);
        SnowMules first = new SnowMules();
        first.node(0, 0, 0);
        first.node(0, 0, 0);
        first.pass(0, 1, 1, 0, 0);
        Edges.law(first, "burst 1000 if felt=9;chain 5");
        first.jar(1, 4, 0, 7, 1);
        first.jar(0, 9, 0, 7, 0);
        first.leave(1, 0);
        first.tick(0, 1);
        Edges.due("jar 0 behind jar 1", first.of(0, 1), 13);
        // JAR 1 comes in the same hour, but behind JAR 0: it bursts on the PASS, and neither draws nor shares.
        SnowMules same = pair(0, 0, 1, 0);
        Edges.law(same, "burst 1000 if felt=3;chain 5;share 10");
        same.jar(0, 0, 0, 0, 1);
        same.fill(1, 1000);
        same.leave(0, 0);
        same.leave(1, 0);
        same.tick(0, 1);
        Edges.due("burst ahead of its coming", same.of(1, 1), 13);
        Edges.due("it shared nothing", same.at(1, 3), 9000);
        Edges.due("it drew nothing", same.count(9), 1406932606);
    }

    private static void draws() {
        Edges.says("A DRAW: x (0 to 2147483647; 0 at first) becomes x * 1103515245 + 12345, of 2147483648 the rest; it is x / 65536.");
        int[][] seeds = {{0, 1406932606}, {Edges.MAX, 288979989}, {230538014, 1043980748}, {2088216195, 12345}};
        for (int[] s : seeds) {
            SnowMules m = pair(0, 0, 1, 0);
            Edges.law(m, "melt 1");
            m.seed(s[0]);
            m.leave(0, 0);
            m.tick(0, 1);
            Edges.due("two draws from " + s[0], m.count(9), s[1]);
        }
        SnowMules greatest = pair(0, 0, 1, 1000);
        Edges.law(greatest, "melt 1");
        greatest.seed(230538014);
        greatest.leave(0, 0);
        greatest.tick(0, 1);
        Edges.due("the greatest x", greatest.count(9), Edges.MAX);
        // The greatest DRAW is 32767.
        Edges.due("767 is not below 767", whereAfter(230538014, 767, "0"), 1);
        Edges.due("767 is below 768", whereAfter(230538014, 768, "0"), 13);
        Edges.due("from 0: 0", whereAfter(2088216195, 1, "0"), 13);
    }

    // Promise 14
    private static void ticks() {
        Edges.says("So many HOURS (1 to 240) by a LAW: NOW; NONE, and nothing happens, without these, or if NOW would be above 99999.");
        Edges.range("hours", 1, 240, NONE, (m, v) -> m.tick(0, v));
        Edges.range("law", 0, 2, NONE, (m, v) -> m.tick(v, 1));
        Edges.due("NOW", Edges.some().tick(0, 240), 242);
        Edges.due("NOW", Edges.some().tick(0, 1), 3);
        Edges.due("no law", new SnowMules().tick(0, 1), NONE);
        SnowMules whole = Edges.some();
        SnowMules parts = Edges.some();
        whole.tick(0, 24);
        for (int i = 0; i < 24; i++) {
            parts.tick(0, 1);
        }
        Edges.same("24 hours at once", whole, parts);
        SnowMules late = late();
        for (int n : new int[] {2, 3, 240}) {
            Edges.due("beyond the last hour by " + n, late.tick(0, n), NONE);
            Edges.due("NOW behind it", late.count(4), 99998);
            Edges.due("its drops", late.of(0, 0), 90000);
            Edges.due("its store", late.at(0, 3), 50);
        }
        Edges.due("up to the last hour", late.tick(0, 1), 99999);
        Edges.due("its drops then", late.of(0, 0), 89997);
    }

    private static SnowMules late() {
        SnowMules m = pair(0, 0, 1, 0);
        Edges.law(m, "melt 3;rest 1");
        Edges.law(m, "chain 0");
        m.store(0, 50);
        Edges.hours(m, 1, 99998);
        return m;
    }

    // Promise 17
    private static void meltCalls() {
        Edges.says("MELT that a JAR would have in an hour from now on by a LAW; NONE without these, or if it is GONE.");
        Edges.range("law", 0, 2, NONE, (m, v) -> m.melt(v, 0));
        Edges.range("jar", 0, 1, NONE, (m, v) -> m.melt(0, v));
        Edges.refused("a jar that is gone", Edges::some, m -> m.melt(0, 2), NONE);
        Edges.refused("behind the last", Edges::some, m -> m.melt(0, 4), NONE);
        Edges.asks("one that stands", Edges::some, m -> m.melt(0, 0), 7);
        Edges.asks("one on a pass", Edges::some, m -> m.melt(0, 1), 10);
        Edges.asks("an empty one", Edges::some, m -> m.melt(0, 3), 0);
        Edges.asks("by another law", Edges::some, m -> m.melt(1, 0), 4993 / 50 + 2);
        SnowMules m = pair(0, 0, 1, 0);
        Edges.law(m, "melt 90000");
        Edges.law(m, "melt 90001");
        Edges.law(m, "melt 0-5");
        Edges.due("all", m.melt(0, 0), 90000);
        Edges.due("held to the drops", m.melt(1, 0), 90000);
        Edges.due("held to 0", m.melt(2, 0), 0);
        Edges.due("nothing is gone", m.of(0, 0), 90000);
    }
}

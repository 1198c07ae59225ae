/**
 * Snow fetched from mountains for the ice houses of a plain, in jars on mules, over passes.
 * The numbered promises of DOC.md say what each call answers.
 */
public final class SnowMules {
    public static final int NONE = -1;

    private static final int NOT_SO = -2;
    private static final int NO_WAY = -3;

    private static final int MOST_NODES = 12;
    private static final int MOST_PASSES = 20;
    private static final int MOST_JARS = 16;
    private static final int MOST_ORDERS = 6;
    private static final int MOST_FEASTS = 8;
    private static final int MOST_LAWS = 6;
    private static final int MOST_IMAGES = 4;
    private static final int MOST_ROW = 6;
    private static final int MOST_BYTES = 400;
    private static final int MOST_HOUR = 99999;
    private static final int MOST_DROPS = 99999;
    private static final int MOST_STORE = 999999;
    private static final int MOST_AT_ONCE = 240;
    private static final int MOST_LATE = 12;
    private static final int MOST_NIGHTS = 20;
    private static final int MOST_WARMER = 9999;
    private static final int MOST_PRICE = 9999;
    private static final int MOST_DAY = 4166;
    private static final int STORE_STEP = 100;
    private static final int STORE_STEPS = 1000;
    private static final int FEAST_HOURS = 1440;
    private static final int HOURS_OF_DAY = 24;
    private static final int DAYS_OF_MONTH = 30;
    private static final int MONTHS = 12;
    private static final int NOON = 12;

    private static final int ON_A_PASS = 12;
    private static final int GONE = 13;
    private static final int NO_JAR = 16;

    private static final int NODE_HEIGHT = 0;
    private static final int NODE_SNOW = 1;
    private static final int NODE_COLD = 2;
    private static final int NODE_STORE = 3;
    private static final int NODE_WIDTH = 4;

    private static final int PASS_ONE = 0;
    private static final int PASS_OTHER = 1;
    private static final int PASS_HOURS = 2;
    private static final int PASS_SUN = 3;
    private static final int PASS_RISK = 4;
    private static final int PASS_WIDTH = 5;

    // The columns of a JAR are numbered as promise 16 asks for them.
    private static final int JAR_DROPS = 0;
    private static final int JAR_WHERE = 1;
    private static final int JAR_PASS = 2;
    private static final int JAR_HOURS = 3;
    private static final int JAR_TO = 4;
    private static final int JAR_FELT = 5;
    private static final int JAR_SALT = 6;
    private static final int JAR_MULE = 7;
    private static final int JAR_PLACE = 8;
    private static final int JAR_WIDTH = 9;

    private static final int ORDER_NODE = 0;
    private static final int ORDER_UNTIL = 1;
    private static final int ORDER_DROPS = 2;
    private static final int ORDER_PRICE = 3;
    private static final int ORDER_WIDTH = 4;

    private static final int FEAST_NODE = 0;
    private static final int FEAST_DAY = 1;
    private static final int FEAST_DROPS = 2;
    private static final int FEAST_WIDTH = 3;

    private static final int MELT = 0;
    private static final int REST = 1;
    private static final int SHARE = 2;
    private static final int BURST = 3;
    private static final int CHAIN = 4;

    private final World world = new World();
    private final World later = new World();
    private final World[] images = new World[MOST_IMAGES];
    private final int[] tape = new int[MOST_BYTES];
    private int tapeLength;
    private final Law[] laws = new Law[MOST_LAWS];
    private int lawCount;
    private final LawReader reader = new LawReader();
    private final Hours hours = new Hours();
    private final Trip trip = new Trip(world);
    private final Search search = new Search(world, trip);
    private final Waits waits = new Waits(world, trip);
    private final Market market = new Market(world);

    public SnowMules() {
    }

    public int node(int height, int snow, int cold) {
        boolean told = within(height, 400) && within(snow, 4095) && within(cold, 9);
        int made = told ? world.nodes.grow() : NONE;
        if (made != NONE) {
            world.nodes.put(made, NODE_HEIGHT, height);
            world.nodes.put(made, NODE_SNOW, snow);
            world.nodes.put(made, NODE_COLD, cold);
            world.nodes.put(made, NODE_STORE, 0);
        }
        return made;
    }

    public int pass(int one, int other, int hours, int sun, int risk) {
        boolean ends = world.nodes.has(one) && world.nodes.has(other) && one != other;
        boolean told = hours >= 1 && within(hours, 24) && within(sun, 9) && within(risk, 1000);
        int made = ends && told ? world.passes.grow() : NONE;
        if (made != NONE) {
            world.passes.put(made, PASS_ONE, one);
            world.passes.put(made, PASS_OTHER, other);
            world.passes.put(made, PASS_HOURS, hours);
            world.passes.put(made, PASS_SUN, sun);
            world.passes.put(made, PASS_RISK, risk);
        }
        return made;
    }

    public int jar(int node, int felt, int salt, int mule, int place) {
        boolean told = isCover(felt, salt) && within(mule, 7) && within(place, 15);
        int made = told && world.nodes.has(node) ? world.jars.grow() : NONE;
        if (made != NONE) {
            world.jars.put(made, JAR_DROPS, 0);
            world.standAt(made, node);
            world.jars.put(made, JAR_FELT, felt);
            world.jars.put(made, JAR_SALT, salt);
            world.jars.put(made, JAR_MULE, mule);
            world.jars.put(made, JAR_PLACE, place);
        }
        return made;
    }

    public int month(int n) {
        if (!within(n, MONTHS - 1)) {
            return NONE;
        }
        int was = world.firstMonth;
        world.firstMonth = n;
        return was;
    }

    public int seed(int x) {
        if (x < 0) {
            return NONE;
        }
        int was = world.x;
        world.x = x;
        return was;
    }

    public int feed(int a, int b, int c, int d, int e) {
        if (tapeLength + 20 > MOST_BYTES) {
            return NONE;
        }
        writeBytes(a);
        writeBytes(b);
        writeBytes(c);
        writeBytes(d);
        writeBytes(e);
        return tapeLength;
    }

    public int end(int n) {
        if (!within(n, tapeLength)) {
            return NONE;
        }
        tapeLength = n;
        return n;
    }

    public int law() {
        if (lawCount >= MOST_LAWS) {
            return NONE;
        }
        if (laws[lawCount] == null) {
            laws[lawCount] = new Law();
        }
        int fault = reader.read(tape, tapeLength, laws[lawCount]);
        tapeLength = 0;
        if (fault != 0) {
            return -2 - fault;
        }
        lawCount++;
        return lawCount - 1;
    }

    public int fill(int jar, int n) {
        int node = world.nodeOf(jar);
        if (node == NONE || !within(n, MOST_DROPS) || !world.hasSnow(node, world.monthAt(world.now))) {
            return NONE;
        }
        int was = world.jars.get(jar, JAR_DROPS);
        world.jars.put(jar, JAR_DROPS, n);
        return was;
    }

    public int pour(int jar) {
        int node = world.nodeOf(jar);
        if (node == NONE) {
            return NONE;
        }
        int come = world.bring(node, world.jars.get(jar, JAR_DROPS));
        world.jars.put(jar, JAR_DROPS, 0);
        return come;
    }

    public int store(int node, int n) {
        if (!world.nodes.has(node) || !within(n, MOST_STORE)) {
            return NONE;
        }
        int was = world.nodes.get(node, NODE_STORE);
        world.nodes.put(node, NODE_STORE, n);
        return was;
    }

    public boolean leave(int jar, int pass) {
        int node = world.nodeOf(jar);
        int to = node == NONE ? NONE : world.otherEnd(pass, node);
        if (to == NONE) {
            return false;
        }
        world.jars.put(jar, JAR_WHERE, ON_A_PASS);
        world.jars.put(jar, JAR_PASS, pass);
        world.jars.put(jar, JAR_HOURS, 0);
        world.jars.put(jar, JAR_TO, to);
        return true;
    }

    public int tick(int law, int n) {
        Law by = lawOf(law);
        if (by == null || n < 1 || n > MOST_AT_ONCE || world.now + n > MOST_HOUR) {
            return NONE;
        }
        for (int i = 0; i < n; i++) {
            hours.step(world, by);
        }
        return world.now;
    }

    public int at(int node, int what) {
        if (!world.nodes.has(node)) {
            return NONE;
        }
        if (within(what, NODE_STORE)) {
            return world.nodes.get(node, what);
        }
        if (what == 4) {
            return world.hasSnow(node, world.monthAt(world.now)) ? 1 : 0;
        }
        return what == 5 ? world.jarsAt(node) : NONE;
    }

    public int of(int jar, int what) {
        if (!world.jars.has(jar) || !within(what, JAR_WIDTH - 1)) {
            return NOT_SO;
        }
        return world.jars.get(jar, what);
    }

    public int melt(int law, int jar) {
        Law by = lawOf(law);
        if (by == null || !world.jars.has(jar) || world.jars.get(jar, JAR_WHERE) == GONE) {
            return NONE;
        }
        return hours.meltOf(world, by, jar);
    }

    public int lay(int pass) {
        int to = world.wayStart == NONE ? NONE : world.otherEnd(pass, world.wayEnd());
        if (to == NONE || world.wayHas(to)) {
            return NONE;
        }
        int made = world.way.grow();
        if (made == NONE) {
            return NONE;
        }
        world.way.put(made, 0, pass);
        return made + 1;
    }

    public boolean from(int node) {
        if (!world.nodes.has(node)) {
            return false;
        }
        world.wayStart = node;
        world.way.size = 0;
        return true;
    }

    public int tried(int law, int hour, int drops, int felt, int salt, int what) {
        Law by = lawOf(law);
        if (by == null || !isLoad(hour, drops, felt, salt) || !within(what, 1) || world.wayStart == NONE) {
            return NONE;
        }
        trip.begin(by, hour, drops, felt, salt);
        trip.followKeeping(0);
        return what == 0 ? trip.drops : trip.hour - hour;
    }

    public int best(int law, int from, int to, int hour, int drops, int felt, int salt, int what) {
        Law by = lawOf(law);
        if (by == null || !isJourney(from, to) || !isLoad(hour, drops, felt, salt) || !within(what, 8)) {
            return NONE;
        }
        search.aim(to, NONE);
        trip.begin(by, hour, drops, felt, salt);
        search.findBest(from);
        if (search.left < 0) {
            return NO_WAY;
        }
        if (what == 0) {
            return search.left;
        }
        if (what == 1) {
            return search.leaving;
        }
        return what == 2 ? search.length : search.passOf(what - 3);
    }

    public int soonest(int from, int to) {
        if (!world.nodes.has(from) || !world.nodes.has(to)) {
            return NONE;
        }
        search.measure(from, NONE, true);
        int far = search.farTo(to);
        return far < Search.FAR ? far : NOT_SO;
    }

    public int nearest(int node, int month) {
        if (!world.nodes.has(node) || !within(month, MONTHS - 1)) {
            return NONE;
        }
        search.measure(node, NONE, true);
        int found = NOT_SO;
        int least = Search.FAR;
        for (int n = 0; n < world.nodes.size; n++) {
            if (world.hasSnow(n, month) && search.farTo(n) < least) {
                found = n;
                least = search.farTo(n);
            }
        }
        return found;
    }

    public int warmer(int law, int hour, int drops, int felt, int salt, int least) {
        Law by = lawOf(law);
        boolean told = isLoad(hour, drops, felt, salt) && within(least, MOST_DROPS);
        if (by == null || !told || world.wayStart == NONE) {
            return NONE;
        }
        // More MELT can leave more where a LAW asks for drops, so no w can be passed over.
        for (int w = MOST_WARMER; w >= 0; w--) {
            trip.begin(by, hour, drops, felt, salt);
            trip.warmth = w;
            trip.needed = Math.max(1, least);
            if (trip.followKeeping(least)) {
                return w;
            }
        }
        return NOT_SO;
    }

    public int guess(int law, int hour, int drops, int felt, int salt, int late, int left, int k, int what) {
        Law by = lawOf(law);
        boolean told = within(late, MOST_LATE) && within(left, MOST_DROPS) && within(what, 2);
        boolean asked = what == 0 || world.way.has(k);
        if (by == null || !isLoad(hour, drops, felt, salt) || !told || !asked || world.wayStart == NONE) {
            return NONE;
        }
        trip.begin(by, hour, drops, felt, salt);
        waits.find(late, left);
        if (what == 0) {
            return waits.found;
        }
        if (waits.found == 0) {
            return NOT_SO;
        }
        return what == 1 ? waits.fewestAt(k) : waits.mostAt(k);
    }

    public int order(int node, int until, int drops, int price) {
        boolean told = within(until, MOST_HOUR) && isWish(drops) && within(price, MOST_PRICE);
        int made = told && world.nodes.has(node) ? world.orders.grow() : NONE;
        if (made == NONE) {
            return NONE;
        }
        world.orders.put(made, ORDER_NODE, node);
        world.orders.put(made, ORDER_UNTIL, until);
        world.orders.put(made, ORDER_DROPS, drops);
        world.orders.put(made, ORDER_PRICE, price);
        return made + 1;
    }

    public int serves(int law, int jar, int order) {
        Law by = lawOf(law);
        if (by == null || !world.jars.has(jar) || !world.orders.has(order)) {
            return NONE;
        }
        return search.leftFor(by, jar, order, false);
    }

    public int all(int law, int what) {
        Law by = lawOf(law);
        if (by == null || !within(what, MOST_ORDERS)) {
            return NONE;
        }
        market.open();
        for (int order = 0; order < world.orders.size; order++) {
            for (int jar = 0; jar < world.jars.size; jar++) {
                if (search.leftFor(by, jar, order, true) >= 0) {
                    market.offer(jar, order);
                }
            }
        }
        market.choose();
        return what == 0 ? market.paid : market.jarFor(what - 1);
    }

    public int feast(int node, int day, int drops) {
        boolean told = within(day, MOST_DAY) && isWish(drops);
        int made = told && world.nodes.has(node) ? world.feasts.grow() : NONE;
        if (made == NONE) {
            return NONE;
        }
        world.feasts.put(made, FEAST_NODE, node);
        world.feasts.put(made, FEAST_DAY, day);
        world.feasts.put(made, FEAST_DROPS, drops);
        return made + 1;
    }

    public int enough(int law, int node, int store) {
        Law by = lawOf(law);
        if (by == null || !world.nodes.has(node) || !within(store, MOST_STORE)) {
            return NONE;
        }
        return hours.lasts(world, by, node, store) ? 1 : 0;
    }

    public int least(int law, int node) {
        Law by = lawOf(law);
        if (by == null || !world.nodes.has(node)) {
            return NONE;
        }
        for (int i = 0; i < STORE_STEPS; i++) {
            if (hours.lasts(world, by, node, i * STORE_STEP)) {
                return i * STORE_STEP;
            }
        }
        return NOT_SO;
    }

    public int nights(int law, int jar, int drops, int n, int what) {
        Law by = lawOf(law);
        boolean told = within(drops, MOST_DROPS) && n >= 1 && n <= MOST_NIGHTS && within(what, 2);
        if (by == null || !told || !world.jars.has(jar) || world.wayStart == NONE) {
            return NONE;
        }
        int[] fates = {0, 0, 0};
        int x = world.x;
        int felt = world.jars.get(jar, JAR_FELT);
        int salt = world.jars.get(jar, JAR_SALT);
        for (int i = 0; i < n; i++) {
            trip.begin(by, world.now, drops, felt, salt);
            int fate = trip.venture();
            if (fate == Trip.CAME) {
                fates[0]++;
                fates[1] += trip.drops;
            } else if (fate == Trip.STOLEN) {
                fates[2]++;
            }
        }
        world.x = x;
        return fates[what];
    }

    public int price(int law, int from, int to, int hour, int drops, int pass) {
        Law by = lawOf(law);
        if (by == null || !isJourney(from, to) || !isLoad(hour, drops, 0, 0) || !world.passes.has(pass)) {
            return NONE;
        }
        search.aim(to, NONE);
        trip.begin(by, hour, drops, 0, 0);
        search.findBest(from);
        int with = search.left;
        if (with < 0) {
            return NO_WAY;
        }
        search.aim(to, pass);
        trip.begin(by, hour, drops, 0, 0);
        search.findBest(from);
        return search.left < 0 ? with : with - search.left;
    }

    public int ahead(int law, int n, int what) {
        Law by = lawOf(law);
        if (by == null || !within(n, MOST_AT_ONCE) || !within(what, 1)) {
            return NONE;
        }
        later.copyFrom(world);
        for (int i = 0; i < n; i++) {
            hours.step(later, by);
        }
        return what == 0 ? later.dropsOfAll() : later.jarsThatAre();
    }

    public int count(int what) {
        switch (what) {
            case 0: return world.nodes.size;
            case 1: return world.passes.size;
            case 2: return world.jars.size;
            case 3: return lawCount;
            case 4: return world.now;
            case 5: return world.monthAt(world.now);
            case 6: return world.orders.size;
            case 7: return world.feasts.size;
            case 8: return world.wayStart == NONE ? NONE : world.way.size;
            case 9: return world.x;
            case 10: return tapeLength;
            default: return NONE;
        }
    }

    public int image(int k) {
        if (!within(k, MOST_IMAGES - 1)) {
            return NONE;
        }
        if (images[k] == null) {
            images[k] = new World();
        }
        images[k].copyFrom(world);
        return world.now;
    }

    public int back(int k) {
        if (!within(k, MOST_IMAGES - 1) || images[k] == null) {
            return NONE;
        }
        world.copyFrom(images[k]);
        return world.now;
    }

    private Law lawOf(int n) {
        return within(n, lawCount - 1) && n < MOST_LAWS ? laws[n] : null;
    }

    private void writeBytes(int four) {
        for (int shift = 24; shift >= 0; shift -= 8) {
            if (tapeLength < MOST_BYTES) {
                tape[tapeLength] = four >>> shift & 255;
                tapeLength++;
            }
        }
    }

    private boolean isJourney(int from, int to) {
        return world.nodes.has(from) && world.nodes.has(to) && from != to;
    }

    private static boolean isLoad(int hour, int drops, int felt, int salt) {
        return within(hour, MOST_HOUR) && within(drops, MOST_DROPS) && isCover(felt, salt);
    }

    private static boolean isCover(int felt, int salt) {
        return within(felt, 9) && within(salt, 9);
    }

    private static boolean isWish(int drops) {
        return drops >= 1 && drops <= MOST_DROPS;
    }

    private static boolean within(int n, int most) {
        return n >= 0 && n <= most;
    }

    private static int held(long n, int most) {
        if (n < 0) {
            return 0;
        }
        return n > most ? most : (int) n;
    }

    /** Rows of numbers, all of one width; what lies outside is 0 and takes nothing. */
    private static final class Table {
        final int width;
        final int[] cells;
        int size;

        Table(int limit, int width) {
            this.width = width;
            this.cells = new int[Math.max(0, limit * width)];
        }

        boolean has(int row) {
            return row >= 0 && row < size;
        }

        int get(int row, int column) {
            int i = row * width + column;
            return i >= 0 && i < cells.length ? cells[i] : 0;
        }

        void put(int row, int column, int value) {
            int i = row * width + column;
            if (i >= 0 && i < cells.length) {
                cells[i] = value;
            }
        }

        /** A row more, whose cells may hold what was there before: its number; NONE: no room. */
        int grow() {
            if ((size + 1) * width > cells.length) {
                return NONE;
            }
            size++;
            return size - 1;
        }

        void copyFrom(Table other) {
            if (other.cells.length == cells.length) {
                System.arraycopy(other.cells, 0, cells, 0, cells.length);
                size = other.size;
            }
        }
    }

    /** All that an IMAGE keeps. */
    private static final class World {
        final Table nodes = new Table(MOST_NODES, NODE_WIDTH);
        final Table passes = new Table(MOST_PASSES, PASS_WIDTH);
        final Table jars = new Table(MOST_JARS, JAR_WIDTH);
        final Table orders = new Table(MOST_ORDERS, ORDER_WIDTH);
        final Table feasts = new Table(MOST_FEASTS, FEAST_WIDTH);
        final Table way = new Table(MOST_ROW, 1);
        int wayStart = NONE;
        int now;
        int firstMonth;
        int x;

        void copyFrom(World other) {
            nodes.copyFrom(other.nodes);
            passes.copyFrom(other.passes);
            jars.copyFrom(other.jars);
            orders.copyFrom(other.orders);
            feasts.copyFrom(other.feasts);
            way.copyFrom(other.way);
            wayStart = other.wayStart;
            now = other.now;
            firstMonth = other.firstMonth;
            x = other.x;
        }

        int monthAt(int hour) {
            return (firstMonth + hour / HOURS_OF_DAY / DAYS_OF_MONTH) % MONTHS;
        }

        boolean hasSnow(int node, int month) {
            return (nodes.get(node, NODE_SNOW) >> month & 1) == 1;
        }

        /** Where a PASS leads from a NODE; NONE: there is no such PASS, or it has no end there. */
        int otherEnd(int pass, int node) {
            if (!passes.has(pass)) {
                return NONE;
            }
            int one = passes.get(pass, PASS_ONE);
            int other = passes.get(pass, PASS_OTHER);
            if (node == one) {
                return other;
            }
            return node == other ? one : NONE;
        }

        int wayEnd() {
            int node = wayStart;
            for (int i = 0; i < way.size; i++) {
                node = otherEnd(way.get(i, 0), node);
            }
            return node;
        }

        boolean wayHas(int asked) {
            int node = wayStart;
            for (int i = 0; i < way.size && node != asked; i++) {
                node = otherEnd(way.get(i, 0), node);
            }
            return node == asked;
        }

        /** The NODE a JAR stands at; NONE: no such JAR, or it stands at none. */
        int nodeOf(int jar) {
            int where = jars.has(jar) ? jars.get(jar, JAR_WHERE) : GONE;
            return where < MOST_NODES ? where : NONE;
        }

        void standAt(int jar, int where) {
            jars.put(jar, JAR_WHERE, where);
            jars.put(jar, JAR_PASS, NONE);
            jars.put(jar, JAR_HOURS, 0);
            jars.put(jar, JAR_TO, NONE);
        }

        void lose(int jar) {
            standAt(jar, GONE);
            jars.put(jar, JAR_DROPS, 0);
        }

        /** DROPS come to a STORE: how many of them it takes. */
        int bring(int node, int drops) {
            int has = nodes.get(node, NODE_STORE);
            int come = Math.min(drops, MOST_STORE - has);
            nodes.put(node, NODE_STORE, has + come);
            return come;
        }

        int jarsAt(int node) {
            int n = 0;
            for (int jar = 0; jar < jars.size; jar++) {
                if (jars.get(jar, JAR_WHERE) == node) {
                    n++;
                }
            }
            return n;
        }

        int jarsThatAre() {
            return jars.size - jarsAt(GONE);
        }

        int dropsOfAll() {
            int sum = 0;
            for (int jar = 0; jar < jars.size; jar++) {
                sum += jars.get(jar, JAR_DROPS);
            }
            for (int node = 0; node < nodes.size; node++) {
                sum += nodes.get(node, NODE_STORE);
            }
            return sum;
        }

        int draw() {
            x = (int) (x * 1103515245L + 12345L & 2147483647L);
            return x / 65536;
        }
    }

    /** The WORDS as they are in an hour, for a LAW to ask. */
    private static final class Scene {
        static final int MONTH = 0;
        static final int HOUR = 1;
        static final int DAY = 2;
        static final int HEIGHT = 3;
        static final int SUN = 4;
        static final int COLD = 5;
        static final int NODE = 6;
        static final int DROPS = 7;
        static final int FELT = 8;
        static final int SALT = 9;
        static final int WAY_GONE = 10;
        static final int WORDS = 11;

        final int[] words = new int[WORDS];
        private int heightBehind;
        private int heightAhead;
        private int hoursOfPass;

        void setHour(World world, int hour) {
            words[MONTH] = world.monthAt(hour);
            words[HOUR] = hour % HOURS_OF_DAY;
            words[DAY] = hour / HOURS_OF_DAY;
        }

        void setNode(World world, int node) {
            words[HEIGHT] = world.nodes.get(node, NODE_HEIGHT);
            words[SUN] = 0;
            words[COLD] = world.nodes.get(node, NODE_COLD);
            words[NODE] = node;
            words[WAY_GONE] = 0;
        }

        void setPass(World world, int pass, int to) {
            int behind = world.otherEnd(pass, to);
            heightBehind = world.nodes.get(behind, NODE_HEIGHT);
            heightAhead = world.nodes.get(to, NODE_HEIGHT);
            hoursOfPass = world.passes.get(pass, PASS_HOURS);
            words[SUN] = world.passes.get(pass, PASS_SUN);
            words[COLD] = 0;
            words[NODE] = ON_A_PASS;
        }

        void setGone(int gone) {
            int weighed = heightBehind * (hoursOfPass - gone) + heightAhead * gone;
            words[HEIGHT] = hoursOfPass > 0 ? weighed / hoursOfPass : 0;
            words[WAY_GONE] = gone;
        }

        void setLoad(int drops, int felt, int salt) {
            words[DROPS] = drops;
            words[FELT] = felt;
            words[SALT] = salt;
        }
    }

    /** A LAW that has been read: its SUMS as rows of VALUES, its TESTS in the order in which they are reckoned. */
    private static final class Law {
        static final int MOST_CLAUSES = 12;
        static final int MOST_PARTS = 60;
        // A FACT has two VALUES and its SIGN at least.
        static final int MOST_FACTS = 20;
        // No text of 400 bytes has more FACTS, ands, ors and nots.
        static final int MOST_STEPS = 256;

        static final int PLUS = 0;
        static final int MINUS = 1;
        static final int TIMES = 2;
        static final int BY = 3;

        static final int BELOW = 0;
        static final int NOT_ABOVE = 1;
        static final int SAME = 2;
        static final int NOT_BELOW = 3;
        static final int ABOVE = 4;

        static final int NOT = -1;
        static final int AND = -2;
        static final int OR = -3;

        int chain;
        private int clauses;
        private final int[] sorts = new int[MOST_CLAUSES];
        private final int[] sumStarts = new int[MOST_CLAUSES];
        private final int[] sumStops = new int[MOST_CLAUSES];
        private final int[] testStarts = new int[MOST_CLAUSES];
        private final int[] testStops = new int[MOST_CLAUSES];
        private int values;
        private final int[] joins = new int[MOST_PARTS];
        private final int[] operands = new int[MOST_PARTS];
        private int facts;
        private final int[] factStarts = new int[MOST_FACTS];
        private final int[] factMiddles = new int[MOST_FACTS];
        private final int[] factStops = new int[MOST_FACTS];
        private final int[] signs = new int[MOST_FACTS];
        private int steps;
        private final int[] tests = new int[MOST_STEPS];

        void clear() {
            chain = 0;
            clauses = 0;
            values = 0;
            facts = 0;
            steps = 0;
        }

        void beginClause(int sort) {
            if (clauses < MOST_CLAUSES) {
                sorts[clauses] = sort;
                sumStarts[clauses] = values;
                clauses++;
            }
        }

        void endSum() {
            int c = clauses - 1;
            if (c >= 0 && c < MOST_CLAUSES) {
                sumStops[c] = values;
                testStarts[c] = steps;
                testStops[c] = steps;
            }
        }

        void endTest() {
            int c = clauses - 1;
            if (c >= 0 && c < MOST_CLAUSES) {
                testStops[c] = steps;
            }
        }

        /** A NUMBER is its own operand; a WORD is told below 0. */
        void addValue(int join, int operand) {
            if (values < MOST_PARTS) {
                joins[values] = join;
                operands[values] = operand;
                values++;
            }
        }

        void addFact(int start, int middle, int sign) {
            if (facts < MOST_FACTS) {
                factStarts[facts] = start;
                factMiddles[facts] = middle;
                factStops[facts] = values;
                signs[facts] = sign;
                addStep(facts);
                facts++;
            }
        }

        void addStep(int step) {
            if (steps < MOST_STEPS) {
                tests[steps] = step;
                steps++;
            }
        }

        long sumOf(int sort, int[] words) {
            for (int c = 0; c < clauses && c < MOST_CLAUSES; c++) {
                if (sorts[c] == sort && holds(testStarts[c], testStops[c], words)) {
                    return total(sumStarts[c], sumStops[c], words);
                }
            }
            return 0;
        }

        /** The answers wait as bits, the newest lowest; a TEST lies too shallow to fill 64 of them. */
        private boolean holds(int start, int stop, int[] words) {
            long bits = 1;
            for (int i = start; i >= 0 && i < stop && i < MOST_STEPS; i++) {
                int step = tests[i];
                if (step == NOT) {
                    bits ^= 1;
                } else if (step == AND) {
                    bits = bits >>> 1 & (bits | ~1L);
                } else if (step == OR) {
                    bits = bits >>> 1 | bits & 1;
                } else if (step >= 0 && step < MOST_FACTS) {
                    long one = total(factStarts[step], factMiddles[step], words);
                    long other = total(factMiddles[step], factStops[step], words);
                    bits = bits << 1 | (isTrue(one, signs[step], other) ? 1 : 0);
                }
            }
            return (bits & 1) == 1;
        }

        private static boolean isTrue(long one, int sign, long other) {
            switch (sign) {
                case BELOW: return one < other;
                case NOT_ABOVE: return one <= other;
                case SAME: return one == other;
                case NOT_BELOW: return one >= other;
                default: return one > other;
            }
        }

        private long total(int start, int stop, int[] words) {
            long sum = 0;
            long term = 0;
            boolean minus = false;
            for (int i = start; i >= 0 && i < stop && i < MOST_PARTS; i++) {
                int operand = operands[i];
                int word = -1 - operand;
                long value = word >= 0 && word < words.length ? words[word] : operand;
                int join = joins[i];
                if (join == TIMES) {
                    term *= value;
                } else if (join == BY) {
                    term = value == 0 ? 0 : term / value;
                } else {
                    sum = minus ? sum - term : sum + term;
                    term = value;
                    minus = join == MINUS;
                }
            }
            return minus ? sum - term : sum + term;
        }
    }

    /** Reads a text as a LAW: cuts it into tokens, then goes along them up to the first FAULT. */
    private static final class LawReader {
        static final int UNFIT = 0;
        static final int BAD_NUMBER = 1;
        static final int TOO_DEEP = 2;
        static final int TOO_MANY = 3;
        static final int TOO_MANY_CLAUSES = 4;

        static final int MOST_DEEP = 10;
        static final int MOST_DIGITS = 5;
        static final int MOST_CHAIN = 10;

        // Each followed by a blank; the WORDS of a Scene and the sorts of a CLAUSE in the order of their numbers.
        static final String WORDS =
            "month hour day height sun cold node drops felt salt gone melt rest share burst chain if or and not ";

        // A token is the byte itself, or one of these, or FIRST_WORD and a place in WORDS, or FIRST_NUMBER and a NUMBER.
        static final int NOT_ABOVE_SIGN = 256;
        static final int NOT_BELOW_SIGN = 257;
        static final int TEXT_END = 258;
        static final int LONG_NUMBER = 259;
        static final int STRANGE_WORD = 260;
        static final int FIRST_WORD = 300;
        static final int FIRST_SORT = FIRST_WORD + Scene.WORDS;
        static final int IF = FIRST_SORT + CHAIN + 1;
        static final int OR = IF + 1;
        static final int AND = IF + 2;
        static final int NOT = IF + 3;
        static final int FIRST_NUMBER = 1000;

        private final int[] tokens = new int[MOST_BYTES + 1];
        private final int[] places = new int[MOST_BYTES + 1];
        private int tokenCount;
        private int next;
        private int fault;
        private int parts;
        private boolean chained;
        private Law law = new Law();

        /** 0, or the FAULT; the LAW is written anew. */
        int read(int[] text, int length, Law into) {
            cut(text, Math.min(length, text.length));
            next = 0;
            fault = 0;
            parts = 0;
            chained = false;
            law = into;
            law.clear();
            for (int n = 0; n <= Law.MOST_CLAUSES && fault == 0; n++) {
                if (readClause(n)) {
                    if (token() == TEXT_END) {
                        return 0;
                    }
                    take(';');
                }
            }
            return fault;
        }

        private void cut(int[] text, int length) {
            tokenCount = 0;
            int stop = 0;
            for (int i = 0; i < length; i++) {
                if (i >= stop && text[i] != ' ') {
                    stop = stopOf(text, length, i);
                    addToken(tokenOf(text, i, stop), i);
                }
            }
            addToken(TEXT_END, length);
        }

        private void addToken(int token, int place) {
            if (tokenCount < tokens.length && tokenCount < places.length) {
                tokens[tokenCount] = token;
                places[tokenCount] = place;
                tokenCount++;
            }
        }

        private static boolean isLetter(int c) {
            return c >= 'a' && c <= 'z';
        }

        private static boolean isDigit(int c) {
            return c >= '0' && c <= '9';
        }

        /** Where the token ends that begins at a place. */
        private static int stopOf(int[] text, int length, int start) {
            int first = text[start];
            int stop = start + 1;
            if (isLetter(first)) {
                while (stop < length && isLetter(text[stop])) {
                    stop++;
                }
            } else if (isDigit(first)) {
                while (stop < length && isDigit(text[stop])) {
                    stop++;
                }
            } else if ((first == '<' || first == '>') && stop < length && text[stop] == '=') {
                stop++;
            }
            return stop;
        }

        private static int tokenOf(int[] text, int start, int stop) {
            int first = text[start];
            if (isLetter(first)) {
                return wordToken(text, start, stop);
            }
            if (isDigit(first)) {
                return numberToken(text, start, stop);
            }
            if (stop - start == 2) {
                return first == '<' ? NOT_ABOVE_SIGN : NOT_BELOW_SIGN;
            }
            return first;
        }

        private static int wordToken(int[] text, int start, int stop) {
            int token = FIRST_WORD;
            int at = start;
            boolean same = true;
            for (int i = 0; i < WORDS.length(); i++) {
                char c = WORDS.charAt(i);
                if (c != ' ') {
                    same = same && at < stop && text[at] == c;
                    at++;
                } else if (same && at == stop) {
                    return token;
                } else {
                    token++;
                    at = start;
                    same = true;
                }
            }
            return STRANGE_WORD;
        }

        private static int numberToken(int[] text, int start, int stop) {
            if (stop - start > MOST_DIGITS) {
                return LONG_NUMBER;
            }
            int number = 0;
            for (int i = start; i < stop; i++) {
                number = number * 10 + (text[i] - '0');
            }
            return FIRST_NUMBER + number;
        }

        private int token() {
            return next >= 0 && next < tokenCount && next < tokens.length ? tokens[next] : TEXT_END;
        }

        private boolean refuse(int kind) {
            int place = next >= 0 && next < places.length ? places[next] : 0;
            fault = 1 + 8 * place + kind;
            return false;
        }

        private boolean take(int wanted) {
            if (token() != wanted) {
                return refuse(UNFIT);
            }
            next++;
            return true;
        }

        private boolean readClause(int number) {
            int sort = token() - FIRST_SORT;
            if (sort < MELT || sort > CHAIN) {
                return refuse(UNFIT);
            }
            if (number >= Law.MOST_CLAUSES || sort == CHAIN && chained) {
                return refuse(TOO_MANY_CLAUSES);
            }
            next++;
            if (sort == CHAIN) {
                return readChain();
            }
            law.beginClause(sort);
            if (!readSum()) {
                return false;
            }
            law.endSum();
            if (token() != IF) {
                return true;
            }
            next++;
            if (!readTest(0)) {
                return false;
            }
            law.endTest();
            return true;
        }

        private boolean readChain() {
            chained = true;
            if (token() != LONG_NUMBER && token() < FIRST_NUMBER) {
                return refuse(UNFIT);
            }
            int number = token() - FIRST_NUMBER;
            if (number < 0 || number > MOST_CHAIN) {
                return refuse(BAD_NUMBER);
            }
            law.chain = number;
            next++;
            return true;
        }

        private boolean readSum() {
            int join = Law.PLUS;
            for (int n = 0; n <= MOST_BYTES; n++) {
                if (!readValue(join)) {
                    return false;
                }
                join = joinOf(token());
                if (join == NONE) {
                    return true;
                }
                next++;
            }
            return refuse(TOO_MANY);
        }

        private static int joinOf(int token) {
            switch (token) {
                case '+': return Law.PLUS;
                case '-': return Law.MINUS;
                case '*': return Law.TIMES;
                case '/': return Law.BY;
                default: return NONE;
            }
        }

        private boolean readValue(int join) {
            int token = token();
            boolean word = token >= FIRST_WORD && token < FIRST_SORT;
            if (token == LONG_NUMBER) {
                return refuse(BAD_NUMBER);
            }
            if (!word && token < FIRST_NUMBER) {
                return refuse(UNFIT);
            }
            if (parts >= Law.MOST_PARTS) {
                return refuse(TOO_MANY);
            }
            parts++;
            law.addValue(join, word ? -1 - (token - FIRST_WORD) : token - FIRST_NUMBER);
            next++;
            return true;
        }

        private boolean readTest(int depth) {
            for (int n = 0; n <= MOST_BYTES; n++) {
                if (!readPart(depth)) {
                    return false;
                }
                if (n > 0) {
                    law.addStep(Law.OR);
                }
                if (token() != OR) {
                    return true;
                }
                next++;
            }
            return refuse(TOO_MANY);
        }

        private boolean readPart(int depth) {
            for (int n = 0; n <= MOST_BYTES; n++) {
                if (!readFact(depth)) {
                    return false;
                }
                if (n > 0) {
                    law.addStep(Law.AND);
                }
                if (token() != AND) {
                    return true;
                }
                next++;
            }
            return refuse(TOO_MANY);
        }

        private boolean readFact(int depth) {
            boolean not = token() == NOT;
            if (!not && token() != '[') {
                return readComparison();
            }
            if (depth >= MOST_DEEP) {
                return refuse(TOO_DEEP);
            }
            next++;
            if (!not) {
                return readTest(depth + 1) && take(']');
            }
            boolean read = readFact(depth + 1);
            law.addStep(Law.NOT);
            return read;
        }

        private boolean readComparison() {
            int start = law.values;
            if (!readSum()) {
                return false;
            }
            int middle = law.values;
            int sign = signOf(token());
            if (sign == NONE) {
                return refuse(UNFIT);
            }
            if (parts >= Law.MOST_PARTS) {
                return refuse(TOO_MANY);
            }
            parts++;
            next++;
            if (!readSum()) {
                return false;
            }
            law.addFact(start, middle, sign);
            return true;
        }

        private static int signOf(int token) {
            switch (token) {
                case '<': return Law.BELOW;
                case NOT_ABOVE_SIGN: return Law.NOT_ABOVE;
                case '=': return Law.SAME;
                case NOT_BELOW_SIGN: return Law.NOT_BELOW;
                case '>': return Law.ABOVE;
                default: return NONE;
            }
        }
    }

    /** HOURS that go by in a World, and what a STORE loses in them. */
    private static final class Hours {
        private final Scene scene = new Scene();

        void step(World world, Law law) {
            for (int jar = 0; jar < world.jars.size; jar++) {
                if (world.jars.get(jar, JAR_WHERE) != GONE) {
                    stepJar(world, law, jar);
                }
            }
            for (int node = 0; node < world.nodes.size; node++) {
                int has = world.nodes.get(node, NODE_STORE);
                world.nodes.put(node, NODE_STORE, has - restOf(world, law, node, world.now, has));
            }
            world.now++;
        }

        private void stepJar(World world, Law law, int jar) {
            int drops = world.jars.get(jar, JAR_DROPS);
            world.jars.put(jar, JAR_DROPS, drops - meltOf(world, law, jar));
            if (world.jars.get(jar, JAR_WHERE) != ON_A_PASS) {
                return;
            }
            int gone = world.jars.get(jar, JAR_HOURS) + 1;
            world.jars.put(jar, JAR_HOURS, gone);
            if (gone >= world.passes.get(world.jars.get(jar, JAR_PASS), PASS_HOURS)) {
                arrive(world, law, jar);
            }
        }

        int meltOf(World world, Law law, int jar) {
            int drops = world.jars.get(jar, JAR_DROPS);
            if (drops == 0) {
                return 0;
            }
            int where = world.jars.get(jar, JAR_WHERE);
            if (where == ON_A_PASS) {
                scene.setPass(world, world.jars.get(jar, JAR_PASS), world.jars.get(jar, JAR_TO));
                scene.setGone(world.jars.get(jar, JAR_HOURS));
            } else {
                scene.setNode(world, where);
            }
            scene.setHour(world, world.now);
            setLoadOf(world, jar);
            return held(law.sumOf(MELT, scene.words), drops);
        }

        private void setLoadOf(World world, int jar) {
            Table jars = world.jars;
            scene.setLoad(jars.get(jar, JAR_DROPS), jars.get(jar, JAR_FELT), jars.get(jar, JAR_SALT));
        }

        private void arrive(World world, Law law, int jar) {
            int pass = world.jars.get(jar, JAR_PASS);
            int node = world.jars.get(jar, JAR_TO);
            world.standAt(jar, node);
            scene.setHour(world, world.now + 1);
            scene.setNode(world, node);
            setLoadOf(world, jar);
            int drops = world.jars.get(jar, JAR_DROPS);
            int taken = drops * held(law.sumOf(SHARE, scene.words), 100) / 100;
            world.jars.put(jar, JAR_DROPS, drops - taken);
            world.bring(node, taken);
            if (world.draw() % 1000 < world.passes.get(pass, PASS_RISK)) {
                world.lose(jar);
                return;
            }
            setLoadOf(world, jar);
            if (world.draw() % 1000 < held(law.sumOf(BURST, scene.words), 1000)) {
                burstFrom(world, law.chain, jar, node, pass);
            }
        }

        private void burstFrom(World world, int chain, int first, int node, int pass) {
            int jar = first;
            for (int n = 0; n < MOST_JARS; n++) {
                int next = nextBehind(world, jar, node, pass);
                world.lose(jar);
                if (next == NONE || world.jars.get(next, JAR_FELT) >= chain) {
                    return;
                }
                jar = next;
            }
        }

        /** The JAR next above one on its MULE, of those at a NODE or on a PASS; NONE: none. */
        private int nextBehind(World world, int jar, int node, int pass) {
            Table jars = world.jars;
            int found = NONE;
            for (int i = 0; i < jars.size; i++) {
                boolean near = jars.get(i, JAR_WHERE) == node || jars.get(i, JAR_PASS) == pass;
                boolean same = jars.get(i, JAR_MULE) == jars.get(jar, JAR_MULE);
                boolean above = jars.get(i, JAR_PLACE) > jars.get(jar, JAR_PLACE);
                boolean nearer = found == NONE || jars.get(i, JAR_PLACE) < jars.get(found, JAR_PLACE);
                if (near && same && above && nearer) {
                    found = i;
                }
            }
            return found;
        }

        private int restOf(World world, Law law, int node, int hour, int has) {
            if (has == 0) {
                return 0;
            }
            scene.setHour(world, hour);
            scene.setNode(world, node);
            scene.setLoad(has, 0, 0);
            return held(law.sumOf(REST, scene.words), has);
        }

        /** Is a STORE of a NODE ENOUGH for its FEASTS? */
        boolean lasts(World world, Law law, int node, int store) {
            int has = store;
            int owed = owedAt(world, node);
            for (int i = 0; i < FEAST_HOURS && owed > 0; i++) {
                // REST never gives anything, so what is owed and not there will not be there either.
                if (has < owed) {
                    return false;
                }
                int hour = world.now + i;
                if (hour % HOURS_OF_DAY == NOON) {
                    int eaten = eatenOn(world, node, hour / HOURS_OF_DAY);
                    has -= eaten;
                    owed -= eaten;
                }
                has -= restOf(world, law, node, hour, has);
            }
            return true;
        }

        private int owedAt(World world, int node) {
            int owed = 0;
            for (int f = 0; f < world.feasts.size; f++) {
                int noon = world.feasts.get(f, FEAST_DAY) * HOURS_OF_DAY + NOON;
                boolean counts = noon >= world.now && noon < world.now + FEAST_HOURS;
                if (counts && world.feasts.get(f, FEAST_NODE) == node) {
                    owed += world.feasts.get(f, FEAST_DROPS);
                }
            }
            return owed;
        }

        private int eatenOn(World world, int node, int day) {
            int eaten = 0;
            for (int f = 0; f < world.feasts.size; f++) {
                if (world.feasts.get(f, FEAST_DAY) == day && world.feasts.get(f, FEAST_NODE) == node) {
                    eaten += world.feasts.get(f, FEAST_DROPS);
                }
            }
            return eaten;
        }
    }

    /** DROPS under felt and salt that are carried from NODE to NODE; the World stays as it is. */
    private static final class Trip {
        static final int CAME = 0;
        static final int STOLEN = 1;
        static final int BURSTED = 2;

        int drops;
        int hour;
        /** How much more melts in each hour. */
        int warmth;
        /** With fewer DROPS than these it is all one how many are left, and no LAW is asked. */
        int needed;
        private int felt;
        private int salt;
        private Law law = new Law();
        private final World world;
        private final Scene scene = new Scene();

        Trip(World world) {
            this.world = world;
        }

        void begin(Law by, int leaving, int load, int feltOfLoad, int saltOfLoad) {
            law = by;
            hour = leaving;
            drops = load;
            felt = feltOfLoad;
            salt = saltOfLoad;
            warmth = 0;
            needed = 1;
        }

        void waitAt(int node) {
            scene.setNode(world, node);
            meltOneHour();
        }

        private void meltOneHour() {
            if (drops >= needed) {
                scene.setHour(world, hour);
                scene.setLoad(drops, felt, salt);
                drops -= held(law.sumOf(MELT, scene.words) + warmth, drops);
            }
            hour++;
        }

        /** The load goes over a PASS from one of its NODES: the NODE it comes to. */
        int cross(int pass, int start) {
            int to = world.otherEnd(pass, start);
            int n = world.passes.get(pass, PASS_HOURS);
            scene.setPass(world, pass, to);
            for (int gone = 0; gone < n; gone++) {
                scene.setGone(gone);
                meltOneHour();
            }
            scene.setHour(world, hour);
            scene.setNode(world, to);
            scene.setLoad(drops, felt, salt);
            if (drops >= needed) {
                drops -= drops * held(law.sumOf(SHARE, scene.words), 100) / 100;
            }
            return to;
        }

        /** Goes by the WAY laid while at least so many DROPS are there: are they at its end? */
        boolean followKeeping(int least) {
            int node = world.wayStart;
            for (int i = 0; i < world.way.size && drops >= least; i++) {
                node = cross(world.way.get(i, 0), node);
            }
            return drops >= least;
        }

        /** Goes by the WAY laid among thieves, and with jars that burst; x goes on. */
        int venture() {
            int node = world.wayStart;
            for (int i = 0; i < world.way.size; i++) {
                int pass = world.way.get(i, 0);
                node = cross(pass, node);
                if (world.draw() % 1000 < world.passes.get(pass, PASS_RISK)) {
                    return STOLEN;
                }
                scene.setLoad(drops, felt, salt);
                if (world.draw() % 1000 < held(law.sumOf(BURST, scene.words), 1000)) {
                    return BURSTED;
                }
            }
            return CAME;
        }
    }

    /** Looks for the WAY by which most is LEFT, and for how far NODES lie from one another. */
    private static final class Search {
        static final int FAR = 1000000;
        static final int NEVER_LATE = 1000000;

        /** Below 0: no WAY has been found. */
        int left;
        /** By how many hours one leaves behind the one told. */
        int leaving;
        int length;
        private int target;
        private int barred;
        private int latest;
        private int waited;
        private boolean anyWill;
        private final int[] far = new int[MOST_NODES];
        private final int[] row = new int[MOST_ROW];
        private final int[] bestRow = new int[MOST_ROW];
        private final World world;
        private final Trip trip;

        Search(World world, Trip trip) {
            this.world = world;
            this.trip = trip;
        }

        void aim(int to, int withoutPass) {
            target = to;
            barred = withoutPass;
            anyWill = false;
            latest = NEVER_LATE;
            left = -1;
            leaving = 0;
            waited = 0;
            length = 0;
            measure(to, withoutPass, false);
        }

        /** The trip that has begun leaves at one of 24 hours. */
        void findBest(int start) {
            int hour = trip.hour;
            int drops = trip.drops;
            for (int i = 0; i < HOURS_OF_DAY; i++) {
                waited = i;
                trip.hour = hour + i;
                trip.drops = drops;
                seek(start, 0, 1 << start);
            }
        }

        /** What a JAR has LEFT for an ORDER, or, if any WAY will do, a number from 0 on; NOT_SO: it doesn't serve it. */
        int leftFor(Law law, int jar, int order, boolean any) {
            int start = world.nodeOf(jar);
            if (start == NONE) {
                return NOT_SO;
            }
            aim(world.orders.get(order, ORDER_NODE), NONE);
            anyWill = any;
            latest = world.orders.get(order, ORDER_UNTIL);
            int wish = world.orders.get(order, ORDER_DROPS);
            left = wish - 1;
            Table jars = world.jars;
            trip.begin(law, world.now, jars.get(jar, JAR_DROPS), jars.get(jar, JAR_FELT), jars.get(jar, JAR_SALT));
            trip.needed = wish;
            seek(start, 0, 1 << start);
            return left >= wish ? left : NOT_SO;
        }

        /** DROPS never grow on the way, so a row with no more than the best has is given up. */
        private void seek(int node, int depth, int seen) {
            if (trip.drops <= left || trip.hour > latest) {
                return;
            }
            if (node == target) {
                keep(depth);
                return;
            }
            if (depth >= MOST_ROW) {
                return;
            }
            int drops = trip.drops;
            int hour = trip.hour;
            for (int pass = 0; pass < world.passes.size && drops > left; pass++) {
                int next = pass == barred ? NONE : world.otherEnd(pass, node);
                boolean opens = next != NONE && (seen >> next & 1) == 0;
                if (opens && depth + 1 + farTo(next) <= MOST_ROW) {
                    row[depth] = pass;
                    trip.cross(pass, node);
                    seek(next, depth + 1, seen | 1 << next);
                    trip.drops = drops;
                    trip.hour = hour;
                }
            }
        }

        private void keep(int depth) {
            // With the most that can be LEFT no other WAY is looked at.
            left = anyWill ? MOST_DROPS : trip.drops;
            trip.needed = left + 1;
            leaving = waited;
            length = depth;
            for (int i = 0; i < depth && i < MOST_ROW; i++) {
                bestRow[i] = row[i];
            }
        }

        int passOf(int i) {
            return i >= 0 && i < length && i < MOST_ROW ? bestRow[i] : NOT_SO;
        }

        int farTo(int node) {
            return node >= 0 && node < MOST_NODES ? far[node] : FAR;
        }

        /** How far all NODES lie from one, in hours or in PASSES, without one PASS. */
        void measure(int start, int withoutPass, boolean inHours) {
            for (int i = 0; i < MOST_NODES; i++) {
                far[i] = i == start ? 0 : FAR;
            }
            boolean nearer = true;
            for (int round = 0; round < MOST_NODES && nearer; round++) {
                nearer = false;
                for (int pass = 0; pass < world.passes.size; pass++) {
                    if (pass != withoutPass && shorten(pass, inHours)) {
                        nearer = true;
                    }
                }
            }
        }

        private boolean shorten(int pass, boolean inHours) {
            int one = world.passes.get(pass, PASS_ONE);
            int other = world.passes.get(pass, PASS_OTHER);
            int span = inHours ? world.passes.get(pass, PASS_HOURS) : 1;
            return reach(one, farTo(other) + span) || reach(other, farTo(one) + span);
        }

        private boolean reach(int node, int distance) {
            if (distance >= farTo(node) || node < 0 || node >= MOST_NODES) {
                return false;
            }
            far[node] = distance;
            return true;
        }
    }

    /** All ways in which one can have come late by the WAY laid. */
    private static final class Waits {
        int found;
        private int due;
        private final int[] waited = new int[MOST_ROW];
        private final int[] fewest = new int[MOST_ROW];
        private final int[] most = new int[MOST_ROW];
        private final World world;
        private final Trip trip;

        Waits(World world, Trip trip) {
            this.world = world;
            this.trip = trip;
        }

        void find(int late, int left) {
            found = 0;
            due = left;
            trip.needed = Math.max(1, left);
            for (int i = 0; i < MOST_ROW; i++) {
                fewest[i] = MOST_LATE;
                most[i] = 0;
            }
            spread(0, world.wayStart, late);
        }

        private void spread(int index, int node, int hours) {
            int size = world.way.size;
            if (trip.drops < due) {
                return;
            }
            if (index >= size || index >= MOST_ROW) {
                if (hours == 0 && trip.drops == due) {
                    note(size);
                }
                return;
            }
            int pass = world.way.get(index, 0);
            for (int n = 0; n <= hours; n++) {
                // The last PASS must take all hours that are not spent yet.
                if (n == hours || index < size - 1) {
                    int drops = trip.drops;
                    int hour = trip.hour;
                    waited[index] = n;
                    int next = trip.cross(pass, node);
                    spread(index + 1, next, hours - n);
                    trip.drops = drops;
                    trip.hour = hour;
                }
                trip.waitAt(node);
            }
        }

        private void note(int size) {
            found++;
            for (int i = 0; i < size && i < MOST_ROW; i++) {
                fewest[i] = Math.min(fewest[i], waited[i]);
                most[i] = Math.max(most[i], waited[i]);
            }
        }

        int fewestAt(int k) {
            return k >= 0 && k < MOST_ROW ? fewest[k] : NONE;
        }

        int mostAt(int k) {
            return k >= 0 && k < MOST_ROW ? most[k] : NONE;
        }
    }

    /** Which JARS go to which ORDERS. */
    private static final class Market {
        int paid;
        private final int[] offers = new int[MOST_ORDERS];
        private final int[] chosen = new int[MOST_ORDERS];
        private final World world;

        Market(World world) {
            this.world = world;
        }

        void open() {
            for (int i = 0; i < MOST_ORDERS; i++) {
                offers[i] = 0;
            }
        }

        void offer(int jar, int order) {
            if (order >= 0 && order < MOST_ORDERS) {
                offers[order] |= 1 << jar;
            }
        }

        int jarFor(int order) {
            return world.orders.has(order) && order < MOST_ORDERS ? chosen[order] : NOT_SO;
        }

        void choose() {
            paid = greatest(0, 0);
            int still = paid;
            int used = 0;
            for (int order = 0; order < world.orders.size && order < MOST_ORDERS; order++) {
                int jar = firstJar(order, used, still);
                chosen[order] = jar;
                if (jar != NO_JAR) {
                    used |= 1 << jar;
                    still -= world.orders.get(order, ORDER_PRICE);
                }
            }
        }

        /** The first JAR for an ORDER with which the ORDERS from it on still come to a price; NO_JAR: none. */
        private int firstJar(int order, int used, int price) {
            int others = price - world.orders.get(order, ORDER_PRICE);
            for (int jar = 0; jar < MOST_JARS; jar++) {
                int bit = 1 << jar;
                boolean free = order < MOST_ORDERS && (offers[order] & bit & ~used) != 0;
                if (free && greatest(order + 1, used | bit) == others) {
                    return jar;
                }
            }
            return NO_JAR;
        }

        /** The greatest price that the ORDERS from one on come to together, without JARS that are used. */
        private int greatest(int first, int used) {
            int most = 0;
            int sets = 1 << world.orders.size;
            for (int set = 0; set < sets; set += 1 << first) {
                int price = priceOf(set);
                if (price > most && canServe(set, used)) {
                    most = price;
                }
            }
            return most;
        }

        private int priceOf(int set) {
            int price = 0;
            for (int order = 0; order < MOST_ORDERS; order++) {
                if ((set >> order & 1) == 1) {
                    price += world.orders.get(order, ORDER_PRICE);
                }
            }
            return price;
        }

        /** Hall's rule: a set of ORDERS can be served if each part of it is offered at least as many JARS. */
        private boolean canServe(int set, int used) {
            for (int part = set; part > 0; part = part - 1 & set) {
                int jars = 0;
                for (int order = 0; order < MOST_ORDERS; order++) {
                    if ((part >> order & 1) == 1) {
                        jars |= offers[order];
                    }
                }
                if (Integer.bitCount(jars & ~used) < Integer.bitCount(part)) {
                    return false;
                }
            }
            return true;
        }
    }
}

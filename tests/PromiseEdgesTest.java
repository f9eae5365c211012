/**
 * Each promise's own sentence: its refusals at each edge of each number, their order, and that a refused call, or one
 * that only answers, changes nothing.
 */
public final class PromiseEdgesTest {
    private static final int LEAST = Integer.MIN_VALUE;
    private static final int GREATEST = Integer.MAX_VALUE;
    private static final long LONG_NO_SUCH = 1000000001L;
    private static final int[] NO_SHELF = {-1, 8, 9, LEAST, GREATEST};
    /** Of three people. */
    private static final int[] NO_ONE = {-1, 3, 6, 7, LEAST, GREATEST};
    private static final int[] NEITHER = {-1, 2, 10, LEAST, GREATEST};

    private PromiseEdgesTest() {
    }

    public static void main(String[] args) {
        newObject();
        town();
        townFaults();
        person();
        fond();
        comes();
        feels();
        limit();
        sees();
        turnsFor();
        days();
        fit();
        told();
        withoutNumbers();
        swaps();
        lasts();
        soonest();
        hide();
        keeps();
        enough();
        loved();
        orders();
        drawn();
        await();
        daysFor();
        ask();
        game();
        blushes();
        forged();
        judge();
        months();
        image();
        restore();
        count();
        keep();
        row();
        put();
        element();
        copy();
        cost();
        toss();
        Check.end("PromiseEdgesTest");
    }

    private static void promise(String heading, String sentence) {
        Sentence.in("Promise " + heading);
        Sentence.says(sentence);
    }

    private static void due(String call, long got, long want) {
        Sentence.due(call, got, want);
    }

    // ---- objects in some state

    /** A blusher, a child, a sailor; an image of an earlier day; something of each sort on the shelves, nothing on 3. */
    private static DealtByOpposite some() {
        DealtByOpposite x = Towns.of("p29;p30;f012;t10;l1;d05;");
        x.image();
        Towns.tell(x, "p70;f205;f014;t12;d03;l2;");
        furnish(x);
        return x;
    }

    private static void furnish(DealtByOpposite x) {
        x.keep(0, 1, 6, 9);
        Towns.row(x, 1, 0, 'l', '3', ';');
        Towns.row(x, 2, 1, 300, -1, 0);
        Towns.row(x, 4, 2, 70000);
        Towns.row(x, 5, 1, 4, 5);
        x.row(6, 0, 0);
    }

    private static DealtByOpposite late() {
        DealtByOpposite x = some();
        // Day 10 already.
        for (int k = 0; k < 9; k++) {
            x.days(99);
        }
        x.days(98);
        return x;
    }

    private static DealtByOpposite full() {
        DealtByOpposite x = Towns.of("p04;p13;p26;p30;p45;p58;p67;f015;f602;t35;l1;d40;");
        x.image();
        furnish(x);
        return x;
    }

    private static DealtByOpposite whole() {
        DealtByOpposite x = Towns.of("p29;p30;p70;t10;t10;t10;");
        furnish(x);
        return x;
    }

    private static DealtByOpposite none() {
        DealtByOpposite x = new DealtByOpposite();
        furnish(x);
        return x;
    }

    private static void idle(String call, Twins.Call asked, long want) {
        Twins.idle(PromiseEdgesTest::some, call, asked, want);
    }

    private static void idleLate(String call, Twins.Call asked, long want) {
        Twins.idle(PromiseEdgesTest::late, "on day 999, " + call, asked, want);
    }

    private static void idleFull(String call, Twins.Call asked, long want) {
        Twins.idle(PromiseEdgesTest::full, "of seven, " + call, asked, want);
    }

    private static void idleWhole(String call, Twins.Call asked, long want) {
        Twins.idle(PromiseEdgesTest::whole, "told whole, " + call, asked, want);
    }

    private static void idleNone(String call, Twins.Call asked, long want) {
        Twins.idle(PromiseEdgesTest::none, "of nobody, " + call, asked, want);
    }

    // ---- what many promises refuse alike

    private interface OfOne {
        long on(DealtByOpposite x, int p);
    }

    private interface OfTwo {
        long on(DealtByOpposite x, int p, int q);
    }

    private static void noSuchOne(String call, OfOne asked, long want) {
        for (int p : NO_ONE) {
            idle(call + " " + p, x -> asked.on(x, p), want);
        }
        idleNone(call + " 0", x -> asked.on(x, 0), want);
        idleFull(call + " 7", x -> asked.on(x, 7), want);
    }

    private static void noSuchTwo(String call, OfTwo asked, long want) {
        noSuchOne(call + ", the first", (x, p) -> asked.on(x, p, 0), want);
        noSuchOne(call + ", the second", (x, q) -> asked.on(x, 0, q), want);
        for (int p = -1; p < 4; p++) {
            int twice = p;
            idle(call + ", twice " + p, x -> asked.on(x, twice, twice), want);
        }
        idleFull(call + ", twice 6", x -> asked.on(x, 6, 6), want);
    }

    private static void neither(String call, OfOne asked, long want) {
        for (int what : NEITHER) {
            idle(call + " " + what, x -> asked.on(x, what), want);
        }
    }

    private static void noSuchShelf(String call, OfOne asked) {
        for (int d : NO_SHELF) {
            idle(call + " " + d, x -> asked.on(x, d), -1);
        }
        idle(call + " 3, bare", x -> asked.on(x, 3), -11);
    }

    // ---- 1

    private static void newObject() {
        promise("1: A new object", "`DealtByOpposite()`: Nobody.");
        DealtByOpposite x = new DealtByOpposite();
        for (int what = 0; what < 6; what++) {
            due("count " + what, x.count(what), 0);
        }
        for (int p = 0; p < 7; p++) {
            due("person " + p, x.person(p, 0), -1);
            due("orders " + p, x.orders(p), LONG_NO_SUCH);
        }
        for (int d = 0; d < 8; d++) {
            due("shelf " + d, x.toss(d), -11);
        }
        due("no image", x.restore(), -3);
        due("none told", x.told(-1), 0);
        due("the first day", x.days(1), 1);
    }

    // ---- 2

    private static void town() {
        promise("2: town", "The text in SHELF d: how many STATEMENTS; the FAULT. -1, -11, -12 (no ROW of bytes).");
        noSuchShelf("town", DealtByOpposite::town);
        idle("one", x -> x.town(0), -12);
        idle("shorts", x -> x.town(2), -12);
        idle("ints", x -> x.town(4), -12);
        idle("no bytes", x -> x.town(6), -1000);
        due("a text on shelf 1", some().town(1), 1);
        DealtByOpposite x = new DealtByOpposite();
        for (int d = 0; d < 8; d += 7) {
            Towns.row(x, d, 0, 'l', '0' + d, ';');
            due("a text on shelf " + d, x.town(d), 1);
            due("by it", x.count(2), d);
        }
    }

    /** Each fault stands behind much that could be done; nothing of that comes, and the image stays as it was. */
    private static void townFaults() {
        String done = "f019;f105;s02;t12;l9;d20;";
        String[] faults = {"p80;", "f000;", "s33;", "t11;", "d00;", "f031;", "p", "x", "l10;"};
        int[] wants = {-2025, -2025, -2025, -2025, -2025, -2025, -1026, -1025, -1027};
        for (int i = 0; i < faults.length; i++) {
            DealtByOpposite x = some();
            due("a fault " + faults[i], Towns.tell(x, done + faults[i]), wants[i]);
            DealtByOpposite y = some();
            Towns.row(y, Towns.TEXT_SHELF, 0, (done + faults[i]).chars().toArray());
            Check.holds("a fault " + faults[i] + " changes nothing", Twins.all(x).equals(Twins.all(y)));
        }
        due("an eighth by text", Towns.tell(full(), "l0;p00;"), -2003);
        due("a day above by text", Towns.tell(late(), "l0;d01;"), -2003);
        due("a seeing above by text", Towns.tell(late(), "s01;"), -2000);
        due("a turning above by text", Towns.tell(late(), "l9;t12;"), -2003);
        due("all turned by text", Towns.tell(whole(), "t20;"), -2000);
    }

    // ---- 3 to 10

    private static void person() {
        promise("3: person", "Of one: KIND (what 0), FIGURE (1), TURNED (2), GROWS (3), BEARS and 10 (4), TURNS (5). -1.");
        noSuchOne("person", (x, p) -> x.person(p, 0), -1);
        int[] no = {-1, 6, LEAST, GREATEST};
        for (int what : no) {
            idle("what " + what, x -> x.person(0, what), -1);
        }
        int[] last = {6, 7, 0, 2, 10, 4};
        int[] first = {0, 4, 0, 2, 10, 1};
        for (int what = 0; what < 6; what++) {
            int k = what;
            idleFull("the last, what " + what, x -> x.person(6, k), last[what]);
            idleFull("the first, what " + what, x -> x.person(0, k), first[what]);
        }
        idleFull("an enemy's BEARS", x -> x.person(4, 4), 9);
        idleWhole("all TURNED", x -> x.person(0, 2), 9);
    }

    private static void fond() {
        promise("4: fond", "How FOND p is of q. -1.");
        noSuchTwo("fond", DealtByOpposite::fond, -1);
        idleFull("the last of the first", x -> x.fond(6, 0), 2);
        idleFull("the first of the second", x -> x.fond(0, 1), 5);
        idleFull("the second of the first", x -> x.fond(1, 0), 0);
    }

    private static void comes() {
        promise("5: comes", "The one on SHELF d is one more: the number. -1, -11, -12 (a ROW), -2.");
        noSuchShelf("comes", DealtByOpposite::comes);
        for (int d = 1; d < 7; d++) {
            int shelf = d;
            idle("comes " + d, x -> x.comes(shelf), d == 3 ? -11 : -12);
            idleFull("comes " + d, x -> x.comes(shelf), d == 3 ? -11 : -12);
        }
        idleFull("comes 0", x -> x.comes(0), -2);
        idleFull("comes 8", x -> x.comes(8), -1);
        idleFull("comes -1", x -> x.comes(-1), -1);
        due("the first", none().comes(0), 0);
        due("the fourth", some().comes(0), 3);
        DealtByOpposite x = Towns.of("p00;".repeat(6));
        x.keep(7, 1, 7, 9);
        due("the seventh", x.comes(7), 6);
        due("the eighth", x.comes(7), -2);
    }

    private static void feels() {
        promise("6: feels", "FOND becomes v: what it was. -1.");
        noSuchTwo("feels", (x, p, q) -> x.feels(p, q, 5), -1);
        int[] no = {-1, 10, LEAST, GREATEST};
        for (int v : no) {
            idle("v " + v, x -> x.feels(0, 1, v), -1);
        }
        DealtByOpposite x = full();
        due("0", x.feels(6, 0, 0), 2);
        due("9", x.feels(6, 0, 9), 0);
        due("as it was", x.feels(6, 0, 9), 9);
        due("no day goes by", x.count(1), 41);
    }

    private static void limit() {
        promise("7: limit", "LIMIT becomes v: what it was. -1.");
        int[] no = {-1, 10, LEAST, GREATEST};
        for (int v : no) {
            idle("limit " + v, x -> x.limit(v), -1);
        }
        DealtByOpposite x = some();
        due("0", x.limit(0), 2);
        due("9", x.limit(9), 0);
        due("as it was", x.limit(9), 9);
    }

    private static void sees() {
        promise("8: sees", "A SEEING: FOND. -1, -3 DAY above 999.");
        noSuchTwo("sees", DealtByOpposite::sees, -1);
        idleLate("sees(0, 1)", x -> x.sees(0, 1), -3);
        idleLate("a child sees", x -> x.sees(1, 0), -3);
        idleLate("one twice comes first", x -> x.sees(0, 0), -1);
        idleLate("no such one comes first", x -> x.sees(0, 3), -1);
        DealtByOpposite x = some();
        due("day", x.count(1), 10);
        due("up to nine", x.sees(0, 1), 9);
        due("nine at most", x.sees(0, 1), 9);
        due("days", x.count(1), 12);
    }

    private static void turnsFor() {
        promise("9: turnsFor", "A TURNING of p for q: TURNED. -1, -3 (p may not, all TURNED, DAY above 999).");
        noSuchTwo("turnsFor", DealtByOpposite::turnsFor, -1);
        idle("p may not", x -> x.turnsFor(0, 1), -3);
        idleWhole("all TURNED", x -> x.turnsFor(1, 0), -3);
        idleWhole("all TURNED, one twice comes first", x -> x.turnsFor(0, 0), -1);
        idleLate("turnsFor(1, 0)", x -> x.turnsFor(1, 0), -3);
        idleLate("one twice comes first", x -> x.turnsFor(1, 1), -1);
        DealtByOpposite x = some();
        due("six", x.turnsFor(1, 0), 6);
        due("nine", x.turnsFor(1, 0), 9);
        due("no more", x.turnsFor(1, 0), -3);
        due("days", x.count(1), 12);
    }

    private static void days() {
        promise("10: days", "Days go by (1 .. 99): DAY. -1, -3 above 999.");
        int[] no = {0, -1, 100, LEAST, GREATEST};
        for (int n : no) {
            idle("days " + n, x -> x.days(n), -1);
            idleLate("days " + n, x -> x.days(n), -1);
        }
        idleLate("days 1", x -> x.days(1), -3);
        idleLate("days 99", x -> x.days(99), -3);
        due("one", some().days(1), 11);
        due("99", some().days(99), 109);
        DealtByOpposite x = Towns.of("d99;".repeat(9) + "d10;");
        due("901", x.count(1), 901);
        due("to 1000", x.days(99), -3);
        due("to 999", x.days(98), 999);
    }

    // ---- 11 to 22

    private static void fit() {
        promise("11: fit", "FIT for one (bits). -1.");
        noSuchOne("fit", DealtByOpposite::fit, -1);
        idle("fit 0", x -> x.fit(0), 6);
        idle("fit 1", x -> x.fit(1), 4);
        idle("fit 2", x -> x.fit(2), 3);
        idleFull("fit 6", x -> x.fit(6), 63);
        idleWhole("fit of one who is told whole", x -> x.fit(0), 6);
        idleLate("fit 0", x -> x.fit(0), 6);
    }

    private static void told() {
        promise("12: told", "TOLD: how many (i -1), the TURNER of the i-th (9). -1 (i below -1, no such one).");
        int[] no = {-2, 3, 7, 9, LEAST, GREATEST};
        for (int i : no) {
            idle("told " + i, x -> x.told(i), -1);
        }
        idleNone("told 0", x -> x.told(0), -1);
        idleNone("told -1", x -> x.told(-1), 0);
        idle("told -1", x -> x.told(-1), 3);
        idle("told 0", x -> x.told(0), 1);
        idle("told 1", x -> x.told(1), 2);
        idle("told 2", x -> x.told(2), 0);
        idleFull("told 6", x -> x.told(6), 5);
        idleFull("told 7", x -> x.told(7), -1);
    }

    private static void withoutNumbers() {
        promise("13: rings", "`int rings()`: RINGS.");
        idleNone("rings", DealtByOpposite::rings, 1);
        idle("rings", DealtByOpposite::rings, 1);
        promise("14: nobody", "`int nobody()`: NOBODY (bits).");
        idleNone("nobody", DealtByOpposite::nobody, 0);
        idleFull("nobody", DealtByOpposite::nobody, 0);
        promise("22: warmest", "`int warmest()`: WARMEST; -4.");
        idleNone("warmest", DealtByOpposite::warmest, -4);
        idle("warmest", DealtByOpposite::warmest, 20);
        idleFull("warmest", DealtByOpposite::warmest, 1);
    }

    private static void swaps() {
        promise("15: swaps", "SWAPS: how many (what 0), the first (1; -4). -1.");
        neither("swaps", DealtByOpposite::swaps, -1);
        idleNone("swaps 2", x -> x.swaps(2), -1);
        idleNone("swaps 0", x -> x.swaps(0), 0);
        idleNone("swaps 1", x -> x.swaps(1), -4);
        idle("swaps 0", x -> x.swaps(0), 2);
        idle("swaps 1", x -> x.swaps(1), 2);
    }

    private static void lasts() {
        promise("16: lasts", "`int lasts(int p, int q)`: LASTS. -1.");
        noSuchTwo("lasts", DealtByOpposite::lasts, -1);
        idle("none", x -> x.lasts(0, 1), 0);
        idle("one", x -> x.lasts(2, 0), 1);
        idle("without end", x -> x.lasts(1, 0), 99);
        idleLate("the day is no matter", x -> x.lasts(1, 0), 99);
        idleWhole("cards no matter", x -> x.lasts(1, 0), 99);
    }

    private static void soonest() {
        promise("17: soonest", "SOONEST (what 0; -4), WHO (1; -4). -1.");
        noSuchOne("soonest", (x, q) -> x.soonest(q, 0), -1);
        noSuchOne("who", (x, q) -> x.soonest(q, 1), -1);
        neither("soonest, what", (x, what) -> x.soonest(0, what), -1);
        idle("two", x -> x.soonest(0, 0), 2);
        idle("who", x -> x.soonest(0, 1), 1);
        idle("not at all", x -> x.soonest(1, 0), -4);
        idle("who, not at all", x -> x.soonest(1, 1), -4);
        idleWhole("none needed", x -> x.soonest(0, 0), 0);
        idleWhole("who, none needed", x -> x.soonest(0, 1), -4);
    }

    private static void hide() {
        promise("18: hide", "`int hide(int q)`: HIDE; -4. -1.");
        noSuchOne("hide", DealtByOpposite::hide, -1);
        idle("one who may and one who may not", x -> x.hide(1), 2);
        idle("a child may for ever", x -> x.hide(0), -4);
        idleLate("the day is no matter", x -> x.hide(1), 2);
    }

    private static void keeps() {
        promise("19: keeps", "KEEP; 99. -1, -3 not FIT.");
        noSuchTwo("keeps", DealtByOpposite::keeps, -1);
        idle("not FIT", x -> x.keeps(0, 1), -3);
        idle("none", x -> x.keeps(2, 0), 0);
        idle("one", x -> x.keeps(2, 1), 1);
        idle("99", x -> x.keeps(1, 0), 99);
        idleWhole("99, cards no matter", x -> x.keeps(1, 0), 99);
        idleLate("99, the day is no matter", x -> x.keeps(1, 0), 99);
    }

    private static void enough() {
        promise("20: enough", "ENOUGH: for TOLD (what 0; -4), for each (1; -4). -1.");
        neither("enough", DealtByOpposite::enough, -1);
        idleNone("enough 2", x -> x.enough(2), -1);
        idleNone("enough 0", x -> x.enough(0), 0);
        idleNone("enough 1", x -> x.enough(1), 0);
        idle("for told", x -> x.enough(0), 0);
        idle("for each", x -> x.enough(1), 0);
        Twins.idle(() -> Towns.of("p00;"), "one alone, told", x -> x.enough(0), -4);
        Twins.idle(() -> Towns.of("p00;"), "one alone, each", x -> x.enough(1), -4);
    }

    private static void loved() {
        promise("21: loved", "LOVED (what 0; -4), how much (1; -4). -1.");
        neither("loved", DealtByOpposite::loved, -1);
        idleNone("loved -1", x -> x.loved(-1), -1);
        idleNone("loved 0", x -> x.loved(0), -4);
        idleNone("loved 1", x -> x.loved(1), -4);
        idle("loved", x -> x.loved(0), 0);
        idle("how much", x -> x.loved(1), 5);
    }

    // ---- 23 to 28

    private static void orders() {
        promise("23: orders", "ORDERS of what is LEFT. Refused as told: -1.");
        noSuchOne("orders", DealtByOpposite::orders, LONG_NO_SUCH);
        idle("all left", x -> x.orders(1), 362880);
        idle("six left", x -> x.orders(0), 720);
        idleWhole("none left", x -> x.orders(0), 1);
    }

    private static void drawn() {
        promise("24: drawn", "DRAWN, p turning for q; part 0 above, 1 below the line. Refused as told: -1.");
        noSuchTwo("above", (x, p, q) -> x.drawn(p, q, 0), LONG_NO_SUCH);
        noSuchTwo("below", (x, p, q) -> x.drawn(p, q, 1), LONG_NO_SUCH);
        neither("part", (x, part) -> x.drawn(1, 0, part), LONG_NO_SUCH);
        idleWhole("none left, above", x -> x.drawn(1, 0, 0), 0);
        idleWhole("none left, below", x -> x.drawn(1, 0, 1), 1);
        Twins.idle(PromiseEdgesTest::whole, "none left, part 2", x -> x.drawn(1, 0, 2), LONG_NO_SUCH);
        idle("3 of 6, above", x -> x.drawn(1, 0, 0), 1);
        idle("3 of 6, below", x -> x.drawn(1, 0, 1), 2);
        idle("one who may not, above", x -> x.drawn(0, 1, 0), 2);
        idle("one who may not, below", x -> x.drawn(0, 1, 1), 9);
    }

    private static void await() {
        promise("25: await", "AWAIT; part likewise. Refused as told: -1.");
        int[] noTenths = {-1, 11, LEAST, GREATEST};
        int[] noDays = {-1, 13, LEAST, GREATEST};
        for (int s : noTenths) {
            idle("s " + s, x -> x.await(s, 1, 0), LONG_NO_SUCH);
        }
        for (int n : noDays) {
            idle("n " + n, x -> x.await(1, n, 1), LONG_NO_SUCH);
        }
        neither("part", (x, part) -> x.await(1, 1, part), LONG_NO_SUCH);
        idle("s 0, n 0, above", x -> x.await(0, 0, 0), 0);
        idle("s 0, n 0, below", x -> x.await(0, 0, 1), 1);
        idle("s 10, n 12, above", x -> x.await(10, 12, 0), 1);
        idle("s 10, n 12, below", x -> x.await(10, 12, 1), 1);
        idleNone("nobody is needed", x -> x.await(1, 12, 1), 1000000000000L);
    }

    private static void daysFor() {
        promise("26: daysFor", "DAYS; -4. -1.");
        int[] no = {-1, 11, LEAST, GREATEST};
        for (int s : no) {
            idle("s " + s, x -> x.daysFor(s), -1);
        }
        idle("s 0", x -> x.daysFor(0), -4);
        idle("s 1", x -> x.daysFor(1), 7);
        idleNone("s 10", x -> x.daysFor(10), 1);
    }

    private static void ask() {
        promise("27: ask", "ASK; -4. -1, -3 all TURNED.");
        noSuchOne("ask", DealtByOpposite::ask, -1);
        idleWhole("all TURNED", x -> x.ask(0), -3);
        idle("who stays FIT", x -> x.ask(0), 1);
        idle("of several the least", x -> x.ask(2), 1);
        idleLate("the day is no matter", x -> x.ask(0), 1);
        Twins.idle(() -> Towns.of("p00;p40;"), "none FIT", x -> x.ask(0), -4);
        Twins.idle(() -> Towns.of("p00;"), "one alone", x -> x.ask(0), -4);
    }

    private static void game() {
        promise("28: game", "GAME; -4. -1.");
        noSuchTwo("game", DealtByOpposite::game, -1);
        idle("both may", x -> x.game(0, 2), 0);
        idle("one may", x -> x.game(0, 1), 0);
        for (int p = 0; p < 8; p++) {
            for (int q = 0; q < 8; q++) {
                for (int limit = 0; limit < 10; limit += 9) {
                    DealtByOpposite x = Towns.of("p" + p + "0;p" + q + "9;l" + limit + ";");
                    due("kinds " + p + " " + q + " limit " + limit, x.game(0, 1), 0);
                }
            }
        }
    }

    // ---- 29 to 32

    /** What BLUSHES and FORGED refuse alike; four numbers are more than three people. */
    private static void refusedRows(String call, OfTwo asked) {
        noSuchOne(call, (x, q) -> asked.on(x, q, 5), -1);
        noSuchShelf(call + ", shelf", (x, d) -> asked.on(x, 0, d));
        noSuchOne(call + ", one comes ahead of nothing", (x, q) -> asked.on(x, q, 3), -1);
        noSuchOne(call + ", one comes ahead of another kind", (x, q) -> asked.on(x, q, 0), -1);
        idle(call + ", no ROW", x -> asked.on(x, 0, 0), -12);
    }

    private static long byFour(DealtByOpposite x, int q, OfTwo asked) {
        x.row(2, 1, 4);
        return asked.on(x, q, 2);
    }

    private static void blushes() {
        promise("29: blushes", "BLUSHES of one by the ROW in SHELF d: how many (what 0), the least (1; -4)."
            + " -1, -11, -12 (no ROW), -13 more numbers than PEOPLE.");
        refusedRows("many", (x, q, d) -> x.blushes(q, d, 0));
        refusedRows("least", (x, q, d) -> x.blushes(q, d, 1));
        neither("what", (x, what) -> x.blushes(0, 5, what), -1);
        neither("what, ahead of nothing", (x, what) -> x.blushes(0, 3, what), -1);
        neither("what, ahead of another kind", (x, what) -> x.blushes(0, 0, what), -1);
        due("four numbers", byFour(some(), 0, (x, q, d) -> x.blushes(q, d, 0)), -13);
        due("four numbers, least", byFour(some(), 0, (x, q, d) -> x.blushes(q, d, 1)), -13);
        due("four numbers, no such one", byFour(some(), 3, (x, q, d) -> x.blushes(q, d, 0)), -1);
        due("four numbers, what 2", byFour(some(), 0, (x, q, d) -> x.blushes(q, d, 2)), -1);
        idle("three numbers, none", x -> x.blushes(0, 2, 0), 0);
        idle("three numbers, no least", x -> x.blushes(0, 2, 1), -4);
        idle("no numbers", x -> x.blushes(0, 6, 0), 10);
        idle("no numbers, least", x -> x.blushes(0, 6, 1), 0);
        idle("two numbers, one seen wrong", x -> x.blushes(0, 5, 0), 0);
        idle("two numbers, one's own wrong", x -> x.blushes(1, 5, 1), 4);
        idle("one number, one's own", x -> x.blushes(0, 4, 0), 10);
        idleFull("text on shelf 7 has many bytes", x -> x.blushes(0, 7, 0), -13);
    }

    private static void forged() {
        promise("30: forged", "FORGED by the ROW in SHELF d; -4. -1, -11, -12, -13 likewise.");
        refusedRows("forged", DealtByOpposite::forged);
        due("four numbers", byFour(some(), 0, DealtByOpposite::forged), -13);
        due("four numbers, no such one", byFour(some(), 3, DealtByOpposite::forged), -1);
        idle("no numbers", x -> x.forged(0, 6), -4);
        idle("one number, one's own", x -> x.forged(0, 4), -4);
        idle("one number, not one's own", x -> x.forged(1, 4), 0);
        idle("two numbers", x -> x.forged(0, 5), 1);
    }

    private static void judge() {
        promise("31: judge", "JUDGED by the ROW in SHELF d; -4. -1, -11, -12.");
        refusedRows("judge", DealtByOpposite::judge);
        due("four numbers", byFour(some(), 1, DealtByOpposite::judge), 1);
        due("four numbers, no such one", byFour(some(), 3, DealtByOpposite::judge), -1);
        idle("no numbers", x -> x.judge(0, 6), -4);
        idle("place 0", x -> x.judge(0, 4), 0);
        idle("place 1", x -> {
            x.put(2, 0, 3);
            int wrong = x.judge(0, 2);
            x.put(2, 0, 300);
            return wrong;
        }, 1);
        DealtByOpposite x = some();
        Towns.row(x, 2, 1, 3, 6, 9);
        due("as it is", x.judge(0, 2), -4);
        Towns.row(x, 2, 1, 3, 6, 9, 9);
        due("behind the last", x.judge(0, 2), 3);
    }

    private static void months() {
        promise("32: months", "MONTHS: TURNED (what 0), TURNINGS (1). -1, -3 nobody.");
        int[] no = {0, -1, 21, LEAST, GREATEST};
        for (int n : no) {
            idle("n " + n, x -> x.months(n, 1, 0), -1);
            idleNone("n " + n, x -> x.months(n, 1, 0), -1);
        }
        neither("what", (x, what) -> x.months(1, 1, what), -1);
        idleNone("what 2", x -> x.months(1, 1, 2), -1);
        idleNone("nobody, cards", x -> x.months(1, 1, 0), -3);
        idleNone("nobody, turnings", x -> x.months(20, LEAST, 1), -3);
        Twins.idle(() -> Towns.of("p30;p30;"), "cards", x -> x.months(20, 12345, 0), 279);
        Twins.idle(() -> Towns.of("p30;p30;"), "turnings", x -> x.months(20, 12345, 1), 93);
        DealtByOpposite x = some();
        due("asked twice", x.months(20, 7, 0), x.months(20, 7, 0));
        due("no seed goes on to the next call", x.months(3, 8, 1), some().months(3, 8, 1));
    }

    // ---- 33 to 35

    private static void image() {
        promise("33: image", "THE IMAGE is taken: DAY.");
        due("of nobody", new DealtByOpposite().image(), 0);
        due("of some", some().image(), 10);
        due("on the last day", late().image(), 999);
        DealtByOpposite x = some();
        x.image();
        x.days(1);
        due("the later one stays", x.restore(), 10);
        due("and once more", x.restore(), 10);
    }

    private static void restore() {
        promise("34: restore", "THE IMAGE is RESTORED: DAY. -3 there is none.");
        idleNone("none", DealtByOpposite::restore, -3);
        idleWhole("none", DealtByOpposite::restore, -3);
        DealtByOpposite x = some();
        due("an earlier day", x.restore(), 6);
        due("fewer people", x.count(0), 2);
        x = new DealtByOpposite();
        x.image();
        Towns.tell(x, "p00;".repeat(7));
        due("nobody again", x.restore(), 0);
        due("nobody there", x.person(0, 0), -1);
        due("room for seven again", Towns.tell(x, "p00;".repeat(7)), 7);
    }

    private static void count() {
        promise("35: count", "5 who is told whole (bits); -1 for others.");
        int[] no = {-1, 6, LEAST, GREATEST};
        for (int what : no) {
            idle("count " + what, x -> x.count(what), -1);
        }
        int[] some = {3, 10, 2, 6, 9, 0};
        int[] full = {7, 41, 1, 3, 7, 0};
        int[] whole = {3, 3, 0, 9, 0, 1};
        for (int what = 0; what < 6; what++) {
            int k = what;
            idle("count " + what, x -> x.count(k), some[what]);
            idleFull("count " + what, x -> x.count(k), full[what]);
            idleWhole("count " + what, x -> x.count(k), whole[what]);
            idleNone("count " + what, x -> x.count(k), 0);
        }
        due("the last of seven, too", Towns.of("p30;".repeat(7) + "t06;t06;t06;").count(5), 64);
    }

    // ---- 36 to 42

    private static void keep() {
        promise("36: keep", "SHELF d gets: what = 0 nothing (the others do not matter);"
            + " 1 a KIND of PERSON of KIND k with a FIGURE: 0. -1.");
        for (int d : NO_SHELF) {
            idle("one to " + d, x -> x.keep(d, 1, 0, 0), -1);
            idle("nothing to " + d, x -> x.keep(d, 0, 0, 0), -1);
        }
        neither("what", (x, what) -> x.keep(0, what, 0, 0), -1);
        int[] noKind = {-1, 8, LEAST, GREATEST};
        int[] noFigure = {-1, 10, LEAST, GREATEST};
        for (int i = 0; i < 4; i++) {
            int k = noKind[i];
            int figure = noFigure[i];
            idle("kind " + k, x -> x.keep(0, 1, k, 0), -1);
            idle("figure " + figure, x -> x.keep(0, 1, 0, figure), -1);
            DealtByOpposite x = some();
            due("nothing, kind " + k, x.keep(0, 0, k, 0), 0);
            due("nothing is there", x.cost(0), -11);
            due("nothing, figure " + figure, x.keep(1, 0, 0, figure), 0);
            due("nothing is there, either", x.town(1), -11);
        }
        DealtByOpposite x = new DealtByOpposite();
        due("the last shelf, kind, figure", x.keep(7, 1, 7, 9), 0);
        due("the first shelf, kind, figure", x.keep(0, 1, 0, 0), 0);
        due("the last", x.toss(7), 9);
        due("the first", x.cost(0), 4);
    }

    private static void row() {
        promise("37: row", "SHELF d gets a ROW of a SORT: 0. -1 (n above 100); -14.");
        for (int d : NO_SHELF) {
            idle("to " + d, x -> x.row(d, 0, 1), -1);
            idle("to " + d + ", below 0", x -> x.row(d, 0, -1), -1);
        }
        int[] noSort = {-1, 3, LEAST, GREATEST};
        for (int sort : noSort) {
            idle("sort " + sort, x -> x.row(2, sort, 1), -1);
            idle("sort " + sort + ", below 0", x -> x.row(2, sort, -1), -1);
        }
        idle("101", x -> x.row(2, 1, 101), -1);
        idle("greatest", x -> x.row(2, 1, GREATEST), -1);
        idle("-1", x -> x.row(2, 1, -1), -14);
        idle("least", x -> x.row(2, 1, LEAST), -14);
        idle("-1 in place of one", x -> x.row(0, 1, -1), -14);
        DealtByOpposite x = some();
        due("0", x.row(2, 1, 0), 0);
        due("no place", x.put(2, 0, 1), -13);
        due("100", x.row(2, 1, 100), 0);
        due("0 at first, where numbers were", x.element(2, 0), 0);
        due("the last place", x.put(2, 99, 1), 0);
        due("no place 100", x.put(2, 100, 1), -13);
    }

    private static void put() {
        promise("38: put", "Element i of the ROW becomes v: 0. -1, -11, -12, -13.");
        noSuchShelf("put", (x, d) -> x.put(d, 0, 1));
        noSuchShelf("put, no place either", (x, d) -> x.put(d, -1, 1));
        idle("to one", x -> x.put(0, 0, 1), -12);
        idle("to one, no place either", x -> x.put(0, -1, 1), -12);
        int[] no = {-1, 3, 99, 100, LEAST, GREATEST};
        for (int i : no) {
            idle("place " + i, x -> x.put(2, i, 1), -13);
        }
        idle("place 0 of none", x -> x.put(6, 0, 1), -13);
        DealtByOpposite x = some();
        due("the last", x.put(2, 2, 9), 0);
        due("it is", x.element(2, 2), 9);
        due("the one ahead stays", x.element(2, 1), -1);
        due("the first", x.put(2, 0, 40000), 0);
        due("its lowest bits", x.element(2, 0), 40000 - 65536);
    }

    private static void element() {
        promise("39: element", "Element i of the ROW. IllegalArgumentException: no such SHELF;"
            + " IllegalStateException: no ROW, no such place.");
        for (int d : NO_SHELF) {
            idle("shelf " + d, x -> element(x, d, 0), -100);
            idle("shelf " + d + ", no place either", x -> element(x, d, -1), -100);
        }
        idle("nothing", x -> element(x, 3, 0), -200);
        idle("one", x -> element(x, 0, 0), -200);
        idle("place 0 of none", x -> element(x, 6, 0), -200);
        int[] no = {-1, 3, 99, 100, LEAST, GREATEST};
        for (int i : no) {
            idle("place " + i, x -> element(x, 2, i), -200);
        }
        idle("the first", x -> element(x, 2, 0), 300);
        idle("the last", x -> element(x, 2, 2), 0);
        idle("an int", x -> element(x, 4, 0), 70000);
    }

    /** -100 for just IllegalArgumentException, -200 for just IllegalStateException, -300 for any other. */
    private static long element(DealtByOpposite x, int d, int i) {
        try {
            return x.element(d, i);
        } catch (RuntimeException e) {
            return e.getClass() == IllegalArgumentException.class ? -100 : e.getClass() == IllegalStateException.class
                ? -200 : -300;
        }
    }

    private static void copy() {
        promise("40: copy", "n elements of the ROW in SHELF d from i on come to that in SHELF e from j on: n."
            + " -1, -11 (either), -12 (no ROWS of one SORT), -13.");
        for (int d : NO_SHELF) {
            idle("from " + d, x -> x.copy(d, 0, 5, 0, 1), -1);
            idle("to " + d, x -> x.copy(2, 0, d, 0, 1), -1);
            idle("from nothing to " + d, x -> x.copy(3, 0, d, 0, 1), -1);
            idle("from one to " + d, x -> x.copy(0, 0, d, 0, 1), -1);
        }
        idle("from nothing", x -> x.copy(3, 0, 5, 0, 1), -11);
        idle("to nothing", x -> x.copy(2, 0, 3, 0, 1), -11);
        idle("from one to nothing", x -> x.copy(0, 0, 3, 0, 1), -11);
        idle("from nothing to one", x -> x.copy(3, 0, 0, 0, 1), -11);
        idle("from one", x -> x.copy(0, 0, 5, 0, 1), -12);
        idle("to one", x -> x.copy(2, 0, 0, 0, 1), -12);
        idle("shorts to bytes", x -> x.copy(2, 0, 1, 0, 1), -12);
        idle("shorts to ints", x -> x.copy(2, 0, 4, 0, 1), -12);
        idle("none of shorts to ints", x -> x.copy(2, 0, 4, 0, 0), -12);
        idle("another sort, no place either", x -> x.copy(2, -1, 4, 0, 1), -12);
        int[][] no = {{-1, 0, 1}, {0, -1, 1}, {0, 0, -1}, {0, 0, 3}, {1, 0, 3}, {2, 0, 2}, {0, 1, 2}, {4, 0, 0}, {0, 3, 0},
            {LEAST, 0, 1}, {0, LEAST, 1}, {0, 0, LEAST}, {GREATEST, 0, 1}, {0, GREATEST, 1}, {0, 0, GREATEST},
            {GREATEST, GREATEST, GREATEST}, {1, 1, GREATEST}, {2, 2, LEAST}, {-1, 0, 0}, {0, -1, 0}};
        for (int[] ijn : no) {
            idle("from " + ijn[0] + " to " + ijn[1] + ": " + ijn[2], x -> x.copy(2, ijn[0], 5, ijn[1], ijn[2]), -13);
        }
        idle("none at either end", x -> x.copy(2, 3, 5, 2, 0), 0);
        idle("none of none", x -> x.copy(6, 0, 6, 0, 0), 0);
        idle("all of a row to itself", x -> x.copy(2, 0, 2, 0, 3), 3);
        DealtByOpposite x = some();
        due("as many as there is room for", x.copy(2, 1, 5, 0, 2), 2);
        due("came, the first", x.element(5, 0), -1);
        due("came, the last", x.element(5, 1), 0);
        due("stayed", x.element(2, 1), -1);
        due("one behind itself", x.copy(2, 0, 2, 1, 2), 2);
        due("as it was then", x.element(2, 2), -1);
    }

    private static void cost() {
        promise("41: cost", "-1, -11, -12 (a ROW).");
        noSuchShelf("cost", DealtByOpposite::cost);
        idle("a row", x -> x.cost(2), -12);
        idle("a row of none", x -> x.cost(6), -12);
        idle("one", x -> x.cost(0), 26);
        Sentence.says("CHILD half of a STRANGER's, cut");
        DealtByOpposite x = new DealtByOpposite();
        x.keep(0, 1, 3, 9);
        due("half of three", x.cost(0), 1);
        Sentence.says("DEAF twice a BLUSHER's; SAILOR a STRANGER's and 2.");
        x.keep(0, 1, 6, 0);
        due("a deaf one of 0", x.cost(0), 8);
        x.keep(0, 1, 7, 9);
        due("a sailor of 9", x.cost(0), 5);
    }

    private static void toss() {
        promise("42: toss", "-1, -11, -12 (a ROW); -15: CHILDREN, and any with FIGURE 0, have none.");
        noSuchShelf("toss", DealtByOpposite::toss);
        idle("a row", x -> x.toss(2), -12);
        idle("a row of none", x -> x.toss(6), -12);
        idle("one", x -> x.toss(0), 226);
        int[] ofOne = {1, 1, 101, -15, 1, 1, 210, 1};
        int[] ofNine = {9, 9, 109, -15, 9, 9, 226, 9};
        DealtByOpposite x = new DealtByOpposite();
        for (int kind = 0; kind < 8; kind++) {
            x.keep(7, 1, kind, 0);
            due("kind " + kind + " of 0", x.toss(7), -15);
            x.keep(7, 1, kind, 1);
            due("kind " + kind + " of 1", x.toss(7), ofOne[kind]);
            x.keep(7, 1, kind, 9);
            due("kind " + kind + " of 9", x.toss(7), ofNine[kind]);
            due("kind " + kind + " of 9, once more", x.toss(7), ofNine[kind]);
        }
    }
}

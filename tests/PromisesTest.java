/** Each promise by answers worked out by hand from the document: ordinary, at its edges, and refused. */
public final class PromisesTest {
    private static final int LEAST = Integer.MIN_VALUE;
    private static final int GREATEST = Integer.MAX_VALUE;
    private static final long LONG_NO_SUCH = 1000000001L;
    /** One of each kind but a sailor: persons by number are kinds by number. */
    private static final String SEVEN_KINDS = "p04;p13;p26;p30;p45;p58;p67;";

    private PromisesTest() {
    }

    public static void main(String[] args) {
        newObject();
        townForms();
        townStatements();
        townFaultsOfForm();
        townFaultsOfSense();
        townRefusals();
        person();
        kindsByFigure();
        fond();
        comes();
        feels();
        limit();
        sees();
        turnsFor();
        days();
        fit();
        told();
        rings();
        nobody();
        swaps();
        lasts();
        soonest();
        hide();
        keeps();
        enough();
        loved();
        warmest();
        orders();
        drawn();
        await();
        daysFor();
        ask();
        game();
        blushes();
        forged();
        judge();
        months();
        image();
        count();
        keep();
        row();
        put();
        element();
        copy();
        cost();
        toss();
        Check.end("PromisesTest");
    }

    private static void due(String call, long got, long want) {
        Check.due(call, got, want);
    }

    private static void tells(String text, int want) {
        due("town of \"" + text + "\"", Towns.tell(new DealtByOpposite(), text), want);
    }

    // ---- 1

    private static void newObject() {
        DealtByOpposite x = new DealtByOpposite();
        for (int what = 0; what < 6; what++) {
            due("new: count " + what, x.count(what), 0);
        }
        for (int d = 0; d < 8; d++) {
            due("new: cost " + d, x.cost(d), -11);
        }
        due("new: restore", x.restore(), -3);
        due("new: fit 0", x.fit(0), -1);
        x = Towns.of("p00;p00;");
        due("one who came has no cards turned", x.person(1, 2), 0);
        due("one who came is fond of nobody", x.fond(1, 0), 0);
        due("nobody is fond of one who came", x.fond(0, 1), 0);
    }

    // ---- 2

    private static void townForms() {
        tells("p00;", 1);
        tells("p99;", -2000);
        tells("l0;", 1);
        tells("l9;d01;d99;", 3);
        tells("p79;p00;s01;", 3);
        DealtByOpposite x = new DealtByOpposite();
        for (int sign = -128; sign < 128; sign++) {
            x.row(0, 0, 1);
            x.put(0, 0, sign);
            boolean letter = "pfstld".indexOf((char) (sign & 255)) >= 0;
            due("town of one byte " + sign, x.town(0), letter ? -1001 : -1000);
            x.row(0, 0, 2);
            x.put(0, 0, 'l');
            x.put(0, 1, sign);
            due("town of l and byte " + sign, x.town(0), sign >= '0' && sign <= '9' ? -1002 : -1001);
            x.row(0, 0, 3);
            x.put(0, 0, 'l');
            x.put(0, 1, '4');
            x.put(0, 2, sign);
            due("town of l4 and byte " + sign, x.town(0), sign == ';' ? 1 : -1002);
        }
        // A hundred bytes are the longest text: 25 statements.
        tells("p00;p00;" + "f011;".repeat(18) + "l1", -1100);
        tells("d01;".repeat(25), 25);
        tells("d01;".repeat(24) + "d01:", -1099);
    }

    private static void townStatements() {
        DealtByOpposite x = Towns.of("p30;p15;f013;s10;t10;l4;d07;");
        due("told town: people", x.count(0), 2);
        due("told town: kind", x.person(0, 0), 3);
        due("told town: figure", x.person(1, 1), 5);
        due("told town: fond", x.fond(0, 1), 3);
        due("told town: a stranger saw once and turned once", x.fond(1, 0), 2);
        due("told town: turned", x.person(0, 2), 1);
        due("told town: limit", x.count(2), 4);
        due("told town: day", x.count(1), 9);
        due("a second text goes on with what is there", Towns.tell(x, "p70;t20;f105;"), 3);
        due("a second text: people", x.count(0), 3);
        due("a second text: turned", x.person(0, 2), 4);
        due("a second text: fond", x.fond(1, 0), 5);
        due("a second text: day", x.count(1), 10);
        due("the row of a text stays", x.town(Towns.TEXT_SHELF), 3);
        due("the row of a text stays: people", x.count(0), 4);
        x = Towns.of("l9;");
        due("limit of a text holds for its turnings", Towns.tell(x, "p00;p40;t10;l0;"), 4);
        due("and is not kept beyond", Towns.tell(x, "t10;"), -2000);
    }

    private static void townFaultsOfForm() {
        tells("", -1000);
        tells(";", -1000);
        tells("p00;;", -1004);
        tells("p00", -1003);
        tells("p0;", -1002);
        tells("p000;", -1003);
        tells("f01;", -1003);
        tells("f0123;", -1004);
        tells("s0;", -1002);
        tells("s012;", -1003);
        tells("t1", -1002);
        tells("t010;", -1003);
        tells("l;", -1001);
        tells("l10;", -1002);
        tells("d5;", -1002);
        tells("d005;", -1003);
        tells("d-1;", -1001);
        tells("p00;x", -1004);
        tells("p00; l1;", -1004);
        tells("P00;", -1000);
        // The form of all of it is looked at first: what cannot be done, ahead of it, does not matter.
        tells("p80;t99;l", -1009);
        tells("d00;l1", -1006);
    }

    private static void townFaultsOfSense() {
        tells("p80;", -2000);
        tells("p90;", -2000);
        tells("l1;p80;", -2003);
        tells("f011;", -2000);
        tells("p00;f001;", -2004);
        tells("p00;f011;", -2004);
        tells("p00;f101;", -2004);
        tells("p00;p00;f019;f119;", -2013);
        tells("p00;s00;", -2004);
        tells("p00;s01;", -2004);
        tells("p00;t00;", -2004);
        tells("p00;t10;", -2004);
        tells("p00;p40;t10;", -2008);
        tells("p00;p00;t01;t01;", -2012);
        tells("p00;p30;t10;t10;t10;t10;", -2020);
        tells("d00;", -2000);
        tells("p00;".repeat(7), 7);
        tells("p00;".repeat(8), -2028);
        tells("d99;".repeat(10) + "d09;", 11);
        tells("d99;".repeat(10) + "d10;", -2040);
        tells("d99;".repeat(10) + "d09;p00;p00;s01;", -2052);
        tells("d99;".repeat(10) + "d09;p00;p00;t01;", -2052);
        tells("d99;".repeat(10) + "d08;p00;p00;t01;", 14);
        // The first that can not be done is told.
        tells("p00;l1;s07;p80;", -2007);
        DealtByOpposite x = Towns.of("p00;p20;f013;l1;d05;");
        due("a fault behind much that could be done", Towns.tell(x, "p10;f012;f109;l9;s01;t12;d50;p80;"), -2029);
        due("nothing of it came: people", x.count(0), 2);
        due("nothing of it came: fond", x.count(4), 3);
        due("nothing of it came: limit", x.count(2), 1);
        due("nothing of it came: day", x.count(1), 5);
        due("nothing of it came: turned", x.count(3), 0);
        due("a fault of form", Towns.tell(x, "p10;l9;l"), -1008);
        due("nothing of it came, either", x.count(0), 2);
        x = Towns.of("p00;".repeat(6));
        due("room for one more by text", Towns.tell(x, "p00;p00;"), -2004);
        due("no one more came", x.count(0), 6);
    }

    private static void townRefusals() {
        DealtByOpposite x = new DealtByOpposite();
        due("town -1", x.town(-1), -1);
        due("town 8", x.town(8), -1);
        due("town least", x.town(LEAST), -1);
        due("town of nothing", x.town(7), -11);
        x.keep(7, 1, 2, 3);
        due("town of a person", x.town(7), -12);
        x.row(7, 1, 4);
        due("town of shorts", x.town(7), -12);
        x.row(7, 2, 4);
        due("town of ints", x.town(7), -12);
        x.row(7, 0, 4);
        due("town of zeros", x.town(7), -1000);
    }

    // ---- 3

    private static void person() {
        DealtByOpposite x = Towns.of(SEVEN_KINDS + "t13;");
        int[][] want = {{0, 4, 0, 2, 10, 1}, {1, 3, 0, 1, 11, 1}, {2, 6, 0, 4, 10, 2}, {3, 0, 1, 0, 19, 3},
            {4, 5, 0, 2, 9, 1}, {5, 8, 0, 3, 12, 1}, {6, 7, 0, 2, 10, 4}};
        for (int p = 0; p < 7; p++) {
            for (int what = 0; what < 6; what++) {
                due("person(" + p + ", " + what + ")", x.person(p, what), want[p][what]);
            }
            due("person(" + p + ", -1)", x.person(p, -1), -1);
            due("person(" + p + ", 6)", x.person(p, 6), -1);
        }
        due("person(-1, 0)", x.person(-1, 0), -1);
        due("person(7, 0)", x.person(7, 0), -1);
        due("person(least, 0)", x.person(LEAST, 0), -1);
        due("person(greatest, greatest)", x.person(GREATEST, GREATEST), -1);
        due("person(0, least)", x.person(0, LEAST), -1);
        x = Towns.of("p74;");
        due("sailor grows", x.person(0, 3), 3);
        due("sailor bears", x.person(0, 4), 13);
        due("sailor turns", x.person(0, 5), 3);
        due("nobody by that number yet", x.person(1, 0), -1);
    }

    private static void kindsByFigure() {
        // By kind: grows, turns for figures 0 .. 9.
        int[][] grows = {{2, 2, 2, 2, 2, 2, 2, 2, 2, 2}, {1, 1, 1, 1, 1, 1, 1, 1, 1, 1},
            {2, 2, 2, 3, 3, 3, 4, 4, 4, 5}, {0, 0, 0, 0, 0, 0, 0, 0, 0, 0}, {0, 0, 1, 1, 2, 2, 3, 3, 4, 4},
            {1, 1, 1, 1, 2, 2, 2, 2, 3, 3}, {1, 1, 1, 1, 1, 1, 2, 2, 2, 2}, {3, 3, 3, 3, 3, 3, 3, 3, 3, 3}};
        int[][] turns = {{1, 1, 1, 1, 1, 1, 1, 1, 1, 1}, {1, 1, 1, 1, 1, 1, 1, 1, 1, 1},
            {2, 2, 2, 2, 2, 2, 2, 2, 2, 2}, {3, 3, 3, 3, 3, 3, 3, 3, 3, 3}, {1, 1, 1, 1, 1, 1, 1, 1, 1, 1},
            {1, 1, 1, 1, 1, 1, 1, 1, 1, 1}, {2, 2, 2, 3, 3, 3, 4, 4, 4, 5}, {3, 3, 3, 3, 3, 3, 3, 3, 3, 3}};
        int[] bears = {10, 11, 10, 19, 9, 12, 10, 13};
        for (int kind = 0; kind < 8; kind++) {
            for (int figure = 0; figure < 10; figure++) {
                DealtByOpposite x = Towns.of("p" + kind + figure + ";");
                String one = "kind " + kind + " figure " + figure;
                due(one + " is", x.person(0, 0), kind);
                due(one + " has", x.person(0, 1), figure);
                due(one + " grows", x.person(0, 3), grows[kind][figure]);
                due(one + " bears", x.person(0, 4), bears[kind]);
                due(one + " turns", x.person(0, 5), turns[kind][figure]);
            }
        }
    }

    // ---- 4 to 10

    private static void fond() {
        DealtByOpposite x = Towns.of("p00;p00;p00;f015;f109;f207;");
        due("fond(0, 1)", x.fond(0, 1), 5);
        due("fond(1, 0)", x.fond(1, 0), 9);
        due("fond(2, 0)", x.fond(2, 0), 7);
        due("fond(0, 2)", x.fond(0, 2), 0);
        due("fond(0, 0)", x.fond(0, 0), -1);
        due("fond(0, 3)", x.fond(0, 3), -1);
        due("fond(3, 0)", x.fond(3, 0), -1);
        due("fond(-1, 0)", x.fond(-1, 0), -1);
        due("fond(0, least)", x.fond(0, LEAST), -1);
        due("fond(greatest, 1)", x.fond(GREATEST, 1), -1);
    }

    private static void comes() {
        DealtByOpposite x = new DealtByOpposite();
        due("comes(-1)", x.comes(-1), -1);
        due("comes(8)", x.comes(8), -1);
        due("comes of nothing", x.comes(0), -11);
        x.row(0, 0, 3);
        due("comes of a row", x.comes(0), -12);
        x.keep(0, 1, 6, 9);
        for (int p = 0; p < 7; p++) {
            due("comes the " + p + "-th", x.comes(0), p);
            due("who came", x.person(p, 0) * 10 + x.person(p, 1), 69);
        }
        due("comes, no room", x.comes(0), -2);
        due("comes of nothing, no room either", x.comes(1), -11);
        due("comes of no shelf, no room either", x.comes(9), -1);
        due("still seven", x.count(0), 7);
        due("the one stays on the shelf", x.cost(0), 26);
        x.keep(0, 1, 3, 1);
        due("who came stays as that one was", x.person(0, 0), 6);
        due("the day did not go by", x.count(1), 0);
    }

    private static void feels() {
        DealtByOpposite x = Towns.of("p00;p00;");
        due("feels(0, 1, 9)", x.feels(0, 1, 9), 0);
        due("feels(0, 1, 4)", x.feels(0, 1, 4), 9);
        due("feels(0, 1, 10)", x.feels(0, 1, 10), -1);
        due("feels(0, 1, -1)", x.feels(0, 1, -1), -1);
        due("feels(0, 0, 1)", x.feels(0, 0, 1), -1);
        due("feels(0, 2, 1)", x.feels(0, 2, 1), -1);
        due("feels(-1, 1, 1)", x.feels(-1, 1, 1), -1);
        due("feels(0, 1, 0)", x.feels(0, 1, 0), 4);
        due("fond behind it", x.fond(0, 1), 0);
        due("the other feels as before", x.fond(1, 0), 0);
        due("no day went by", x.count(1), 0);
    }

    private static void limit() {
        DealtByOpposite x = new DealtByOpposite();
        due("limit(9)", x.limit(9), 0);
        due("limit(10)", x.limit(10), -1);
        due("limit(-1)", x.limit(-1), -1);
        due("limit(0)", x.limit(0), 9);
        due("limit(3)", x.limit(3), 0);
        due("limit is", x.count(2), 3);
    }

    private static void sees() {
        DealtByOpposite x = Towns.of("p00;p00;p30;d99;");
        due("sees(0, 1)", x.sees(0, 1), 2);
        due("sees(0, 1) again", x.sees(0, 1), 4);
        due("a child sees", x.sees(2, 0), 0);
        due("days by seeing", x.count(1), 102);
        due("one who may not turn sees", x.sees(0, 1), 6);
        x.feels(0, 1, 8);
        due("nine at most", x.sees(0, 1), 9);
        due("sees(0, 0)", x.sees(0, 0), -1);
        due("sees(0, 3)", x.sees(0, 3), -1);
        due("sees(-1, 0)", x.sees(-1, 0), -1);
        due("no day by refusals", x.count(1), 104);
        Towns.tell(x, "d99;".repeat(9) + "d03;");
        due("the last day but one", x.count(1), 998);
        due("sees then", x.sees(1, 0), 2);
        due("day 999", x.count(1), 999);
        due("sees no more", x.sees(1, 0), -3);
        due("and is no fonder", x.fond(1, 0), 2);
        due("one twice comes first", x.sees(1, 1), -1);
    }

    private static void turnsFor() {
        DealtByOpposite x = Towns.of("p00;p30;p40;p69;");
        due("turnsFor(0, 1)", x.turnsFor(0, 1), 1);
        due("who turned is fonder", x.fond(0, 1), 2);
        due("the other is not", x.fond(1, 0), 0);
        due("a day went by", x.count(1), 1);
        due("turnsFor again", x.turnsFor(0, 1), -3);
        due("an enemy may not", x.turnsFor(2, 1), -3);
        due("no day went by", x.count(1), 1);
        x.limit(1);
        due("an enemy may by limit", x.turnsFor(2, 1), 2);
        due("a deaf one turns five", x.turnsFor(3, 1), 7);
        x.limit(9);
        due("nine at most", x.turnsFor(3, 1), 9);
        due("all turned already", x.turnsFor(2, 1), -3);
        due("turnsFor(1, 1)", x.turnsFor(1, 1), -1);
        due("turnsFor(4, 1)", x.turnsFor(4, 1), -1);
        due("turnsFor(1, -1)", x.turnsFor(1, -1), -1);
        due("four turnings were days", x.count(1), 4);
        due("who is told whole still may turn", x.turnsFor(1, 0), 3);
        x = Towns.of("p30;p00;" + "d99;".repeat(10) + "d08;");
        due("on day 998", x.turnsFor(0, 1), 3);
        due("on day 999", x.turnsFor(0, 1), -3);
        due("nothing is turned then", x.person(1, 2), 3);
    }

    private static void days() {
        DealtByOpposite x = new DealtByOpposite();
        due("days(0)", x.days(0), -1);
        due("days(100)", x.days(100), -1);
        due("days(least)", x.days(LEAST), -1);
        due("days(1)", x.days(1), 1);
        due("days(99)", x.days(99), 100);
        Towns.tell(x, "d99;".repeat(9));
        due("days by text", x.count(1), 991);
        due("days(9)", x.days(9), -3);
        due("days(100) behind it", x.days(100), -1);
        due("days(8)", x.days(8), 999);
        due("days(1) at the end", x.days(1), -3);
    }

    // ---- 11 to 15

    private static void fit() {
        DealtByOpposite x = Towns.of(SEVEN_KINDS);
        due("fit(0): all but the enemy", x.fit(0), 0b1101110);
        due("fit(4)", x.fit(4), 0b1101111);
        x.feels(0, 1, 1);
        x.feels(2, 1, 1);
        x.feels(3, 1, 9);
        x.feels(5, 1, 3);
        due("fit(1): no more than one bears", x.fit(1), 0b1001000);
        x.feels(5, 1, 2);
        due("fit(1): just as much as one bears", x.fit(1), 0b1101000);
        x.limit(1);
        due("fit(1) by limit", x.fit(1), 0b1111101);
        due("fit(-1)", x.fit(-1), -1);
        due("fit(7)", x.fit(7), -1);
        x = Towns.of("p00;p30;t10;t10;t10;");
        due("fit for one told whole, too", x.fit(0), 2);
    }

    private static void told() {
        DealtByOpposite x = Towns.of("p00;p40;p40;");
        due("one turner for two", x.told(-1), 1);
        due("nobody turns for the turner", x.told(0), 9);
        due("the first is told", x.told(1), 0);
        due("a turner turns for one alone", x.told(2), 9);
        x = Towns.of("p00;p00;p00;");
        due("three in a ring", x.told(-1), 3);
        due("by the least", x.told(0), 1);
        due("none is free for the last but one", x.told(1), 2);
        due("the last has the first", x.told(2), 0);
        x.feels(2, 1, 5);
        x.feels(0, 2, 5);
        due("the least turner gives way for the most: many", x.told(-1), 3);
        due("gives way: 0", x.told(0), 2);
        due("gives way: 1", x.told(1), 0);
        due("gives way: 2", x.told(2), 1);
        x = Towns.of("p00;p40;p40;p00;f039;");
        due("most of four", x.told(-1), 2);
        due("0 by 3", x.told(0), 3);
        due("1 by 0", x.told(1), 0);
        due("2 by none", x.told(2), 9);
        due("3 by none", x.told(3), 9);
        due("told(4)", x.told(4), -1);
        due("told(-2)", x.told(-2), -1);
        due("told(least)", x.told(LEAST), -1);
        x = new DealtByOpposite();
        due("nobody is told", x.told(-1), 0);
        due("no such one", x.told(0), -1);
        x = Towns.of("p00;p00;p00;p00;p00;p00;p00;");
        due("seven told", x.told(-1), 7);
        int[] by = {1, 0, 3, 2, 5, 6, 4};
        for (int i = 0; i < 7; i++) {
            due("seven: told(" + i + ")", x.told(i), by[i]);
        }
        x.image();
        x = Towns.of("p00;p00;p00;p00;");
        x.told(-1);
        x.feels(1, 0, 1);
        due("what an earlier call counted is gone", x.told(0), 2);
        x.limit(1);
        due("limit matters", x.told(0), 1);
        x = Towns.of("p00;p40;");
        x.image();
        Towns.tell(x, "p00;p00;p00;p00;p00;");
        due("more came, and the enemy turns for none", x.told(-1), 6);
        x.restore();
        due("fewer are there again", x.told(-1), 1);
        due("fewer are there again: 0", x.told(0), 9);
        due("fewer are there again: 1", x.told(1), 0);
    }

    private static void rings() {
        int[] want = {1, 0, 1, 2, 9, 44, 265, 1854};
        for (int n = 0; n < 8; n++) {
            due("rings of " + n, Towns.of("p00;".repeat(n)).rings(), want[n]);
        }
        DealtByOpposite x = Towns.of("p00;p00;p00;f019;");
        due("one may not turn for one", x.rings(), 1);
        x.feels(0, 2, 9);
        due("one who may turn for nobody", x.rings(), 0);
        x.limit(9);
        due("all may by limit", x.rings(), 2);
    }

    private static void nobody() {
        due("nobody is there", new DealtByOpposite().nobody(), 0);
        due("one alone", Towns.of("p00;").nobody(), 1);
        due("two enemies", Towns.of("p40;p40;").nobody(), 3);
        due("an enemy and a person", Towns.of("p40;p00;").nobody(), 2);
        DealtByOpposite x = Towns.of("p00;p00;p00;f021;f121;");
        due("for the last", x.nobody(), 4);
        x.limit(1);
        due("for none", x.nobody(), 0);
    }

    private static void swaps() {
        DealtByOpposite x = Towns.of("p00;p00;p00;f011;f025;");
        due("swaps", x.swaps(0), 1);
        due("the first", x.swaps(1), 12);
        due("swaps(2)", x.swaps(2), -1);
        due("swaps(-1)", x.swaps(-1), -1);
        x.limit(1);
        due("more by limit", x.swaps(0), 2);
        due("the first then", x.swaps(1), 1);
        x = Towns.of("p00;p40;");
        due("both must", x.swaps(0), 0);
        due("no first", x.swaps(1), -4);
        x = new DealtByOpposite();
        due("nobody", x.swaps(1), -4);
        due("nobody, and no such number", x.swaps(2), -1);
    }

    // ---- 16 to 22

    private static void lasts() {
        DealtByOpposite x = Towns.of("p00;p10;p30;p70;p41;");
        due("a person", x.lasts(0, 1), 1);
        due("a stranger", x.lasts(1, 0), 2);
        due("a child never ends", x.lasts(2, 0), 99);
        due("a sailor", x.lasts(3, 0), 2);
        due("an enemy", x.lasts(4, 0), 0);
        x.limit(1);
        due("an enemy who never grows fonder", x.lasts(4, 0), 99);
        x.limit(7);
        due("a person by limit", x.lasts(0, 1), 4);
        due("a stranger by limit", x.lasts(1, 0), 9);
        x.limit(8);
        due("a stranger without end", x.lasts(1, 0), 99);
        due("a person up to nine", x.lasts(0, 1), 5);
        x.feels(0, 1, 8);
        due("just fit", x.lasts(0, 1), 1);
        x.feels(0, 1, 9);
        due("not fit", x.lasts(0, 1), 0);
        x.limit(9);
        due("all is borne", x.lasts(0, 1), 99);
        due("cards no matter", Towns.of("p00;p30;t10;t10;t10;").lasts(1, 0), 99);
        due("lasts(1, 1)", x.lasts(1, 1), -1);
        due("lasts(5, 1)", x.lasts(5, 1), -1);
        due("lasts(1, -1)", x.lasts(1, -1), -1);
        x = Towns.of("p00;p00;l5;");
        x.lasts(0, 1);
        due("nobody is fonder by it", x.fond(0, 1), 0);
    }

    private static void soonest() {
        DealtByOpposite x = Towns.of("p00;p00;p00;");
        due("nine cards, two turnings", x.soonest(0, 0), -4);
        due("who", x.soonest(0, 1), -4);
        x = Towns.of("p00;p20;p69;p00;l1;");
        // 5 by the deaf one, 2 by the blusher, 1 by the person: 8 of 9; the deaf one grows by 2 only.
        due("not enough together", x.soonest(0, 0), -4);
        x.limit(2);
        // The deaf one twice, 5 each.
        due("the most first", x.soonest(0, 0), 2);
        due("by the deaf one", x.soonest(0, 1), 2);
        due("by others", x.soonest(2, 0), -4);
        x = Towns.of("p00;p30;p70;p30;");
        due("three by three", x.soonest(0, 0), 3);
        due("of several the least", x.soonest(0, 1), 1);
        x.turnsFor(3, 0);
        due("two are left", x.soonest(0, 0), 2);
        x.turnsFor(3, 0);
        x.turnsFor(3, 0);
        due("none needed", x.soonest(0, 0), 0);
        due("nobody needed", x.soonest(0, 1), -4);
        due("soonest(4, 0)", x.soonest(4, 0), -1);
        due("soonest(0, 2)", x.soonest(0, 2), -1);
        due("soonest(0, -1)", x.soonest(0, -1), -1);
        due("soonest(-1, 0)", x.soonest(-1, 0), -1);
        due("nothing is turned by asking", x.count(3), 9);
        x = Towns.of("p69;p20;p10;p00;t03;");
        due("what is left by the next best", x.soonest(3, 0), 3);
        due("who is fit, not who would turn most", x.soonest(3, 1), 1);
        x = Towns.of("p30;p00;p20;t01;");
        due("one turning", x.soonest(1, 0), 2);
        x.turnsFor(0, 1);
        due("one turning is left", x.soonest(1, 0), 1);
        due("the first of all people", x.soonest(1, 1), 0);
        x = Towns.of("p00;p00;p30;t21;t21;t01;l9;");
        Towns.tell(x, "t01;");
        due("one card is left", x.soonest(1, 0), 1);
        x = Towns.of("p10;p00;l9;t01;t01;t01;t01;t01;t01;t01;");
        due("two by one who turns one", x.soonest(1, 0), 2);
        due("by one who turns one", x.soonest(1, 1), 0);
    }

    private static void hide() {
        DealtByOpposite x = Towns.of("p00;p00;p10;p70;p40;p29;");
        // A person 1, a stranger 2, a sailor 2, an enemy 0, a blusher 1.
        due("hide(0)", x.hide(0), 6);
        due("hide(4)", x.hide(4), 7);
        x.feels(1, 0, 1);
        due("one who may not needs none", x.hide(0), 5);
        x.limit(8);
        due("by limit: those who bear nine never", x.hide(0), -4);
        x = Towns.of("p00;p30;");
        due("a child stays fit", x.hide(0), -4);
        due("a person does not", x.hide(1), 1);
        due("one alone", Towns.of("p00;").hide(0), 0);
        due("hide(2)", x.hide(2), -1);
        due("hide(-1)", x.hide(-1), -1);
    }

    private static void keeps() {
        DealtByOpposite x = Towns.of("p00;p10;p30;p40;");
        due("a person", x.keeps(0, 1), 0);
        due("a stranger", x.keeps(1, 0), 1);
        due("a child", x.keeps(2, 0), 99);
        due("an enemy", x.keeps(3, 0), -3);
        x.limit(7);
        due("a person by limit", x.keeps(0, 1), 3);
        due("a stranger by limit", x.keeps(1, 0), 8);
        x.limit(9);
        due("without end", x.keeps(0, 1), 99);
        due("keeps(0, 0)", x.keeps(0, 0), -1);
        due("keeps(4, 0)", x.keeps(4, 0), -1);
        due("keeps(0, -1)", x.keeps(0, -1), -1);
    }

    private static void enough() {
        DealtByOpposite x = Towns.of("p00;p40;p40;f015;f023;f103;f127;f202;f218;");
        // 0: by 1 from limit 4, by 2 from 3. 1: by 0 from 5, by 2 from 9. 2: by 0 from 3, by 1 from 8.
        due("for each", x.enough(1), 5);
        due("all at once", x.enough(0), 8);
        x.limit(9);
        due("the limit that is does not matter", x.enough(0), 8);
        due("and stays", x.count(2), 9);
        due("none is needed", Towns.of("p00;p00;").enough(0), 0);
        x = Towns.of("p40;p40;f019;f109;");
        due("enemies never", x.enough(0), -4);
        due("nor for each", x.enough(1), -4);
        x = Towns.of("p00;p40;p40;f019;f029;f109;f209;f129;f219;");
        due("told one by one", x.enough(1), -4);
        due("enough(2)", x.enough(2), -1);
        due("enough(-1)", x.enough(-1), -1);
        due("nobody", new DealtByOpposite().enough(1), 0);
        due("a limit of nine", Towns.of("p00;p00;f019;f109;").enough(0), 9);
    }

    private static void loved() {
        DealtByOpposite x = Towns.of("p00;p00;p00;f013;f214;f025;f122;f107;");
        due("loved", x.loved(0), 0);
        due("how much", x.loved(1), 7);
        x.feels(2, 1, 5);
        due("all others together", x.loved(0), 1);
        due("together", x.loved(1), 8);
        x.feels(2, 1, 4);
        due("of several the least", x.loved(0), 0);
        due("loved(2)", x.loved(2), -1);
        due("loved(-1)", x.loved(-1), -1);
        x = new DealtByOpposite();
        due("nobody", x.loved(0), -4);
        due("nobody, how much", x.loved(1), -4);
        due("nobody, no such number", x.loved(2), -1);
        due("one alone", Towns.of("p00;").loved(0), 0);
        due("one alone, how much", Towns.of("p00;").loved(1), 0);
    }

    private static void warmest() {
        DealtByOpposite x = Towns.of("p00;p00;p00;");
        due("all alike", x.warmest(), 1);
        x.feels(2, 1, 1);
        due("the warmest", x.warmest(), 21);
        x.feels(1, 2, 1);
        due("of several the least", x.warmest(), 12);
        x.feels(2, 0, 2);
        due("the greatest", x.warmest(), 20);
        due("one alone", Towns.of("p00;").warmest(), -4);
        due("nobody", new DealtByOpposite().warmest(), -4);
    }

    // ---- 23 to 28

    private static void orders() {
        long[] want = {362880, 40320, 5040, 720, 120, 24, 6, 2, 1, 1};
        DealtByOpposite x = Towns.of("p00;p40;l9;");
        for (int turned = 0; turned < 10; turned++) {
            due("orders behind " + turned, x.orders(0), want[turned]);
            x.turnsFor(1, 0);
        }
        due("orders(2)", x.orders(2), LONG_NO_SUCH);
        due("orders(-1)", x.orders(-1), LONG_NO_SUCH);
    }

    private static void drawn() {
        DealtByOpposite x = Towns.of("p00;p30;p00;p69;p40;");
        due("3 of 9 above", x.drawn(1, 0, 0), 1);
        due("3 of 9 below", x.drawn(1, 0, 1), 3);
        due("5 of 9 above", x.drawn(3, 0, 0), 5);
        due("5 of 9 below", x.drawn(3, 0, 1), 9);
        due("one who may not turn, too", x.drawn(4, 0, 1), 9);
        Towns.tell(x, "t10;t20;");
        due("5 of 5 above", x.drawn(3, 0, 0), 1);
        due("5 of 5 below", x.drawn(3, 0, 1), 1);
        Towns.tell(x, "t10;");
        due("5 of 2 above", x.drawn(3, 0, 0), 1);
        due("5 of 2 below", x.drawn(3, 0, 1), 1);
        due("1 of 2 below", x.drawn(2, 0, 1), 2);
        Towns.tell(x, "t10;");
        due("none left above", x.drawn(3, 0, 0), 0);
        due("none left below", x.drawn(3, 0, 1), 1);
        due("drawn(0, 0, 0)", x.drawn(0, 0, 0), LONG_NO_SUCH);
        due("drawn(1, 0, 2)", x.drawn(1, 0, 2), LONG_NO_SUCH);
        due("drawn(1, 0, -1)", x.drawn(1, 0, -1), LONG_NO_SUCH);
        due("drawn(5, 0, 0)", x.drawn(5, 0, 0), LONG_NO_SUCH);
        due("drawn(1, -1, 0)", x.drawn(1, -1, 0), LONG_NO_SUCH);
    }

    private static void await() {
        DealtByOpposite x = new DealtByOpposite();
        due("one day, 5 tenths above", x.await(5, 1, 0), 1);
        due("one day, 5 tenths below", x.await(5, 1, 1), 2);
        due("two days, 4 tenths above", x.await(4, 2, 0), 16);
        due("two days, 4 tenths below", x.await(4, 2, 1), 25);
        due("twelve days, 1 tenth above", x.await(1, 12, 0), 717570463519L);
        due("twelve days, 1 tenth below", x.await(1, 12, 1), 1000000000000L);
        due("sure above", x.await(10, 12, 0), 1);
        due("sure below", x.await(10, 12, 1), 1);
        due("never above", x.await(0, 12, 0), 0);
        due("never below", x.await(0, 12, 1), 1);
        due("no day above", x.await(10, 0, 0), 0);
        due("no day below", x.await(10, 0, 1), 1);
        due("await(-1, 1, 0)", x.await(-1, 1, 0), LONG_NO_SUCH);
        due("await(11, 1, 0)", x.await(11, 1, 0), LONG_NO_SUCH);
        due("await(1, -1, 0)", x.await(1, -1, 0), LONG_NO_SUCH);
        due("await(1, 13, 0)", x.await(1, 13, 0), LONG_NO_SUCH);
        due("await(1, 1, 2)", x.await(1, 1, 2), LONG_NO_SUCH);
        due("await(1, 1, -1)", x.await(1, 1, -1), LONG_NO_SUCH);
    }

    private static void daysFor() {
        DealtByOpposite x = new DealtByOpposite();
        int[] want = {-4, 7, 4, 2, 2, 1, 1, 1, 1, 1, 1};
        for (int s = 0; s < 11; s++) {
            due("daysFor(" + s + ")", x.daysFor(s), want[s]);
        }
        due("daysFor(-1)", x.daysFor(-1), -1);
        due("daysFor(11)", x.daysFor(11), -1);
    }

    private static void ask() {
        DealtByOpposite x = Towns.of("p00;p00;p10;p30;");
        due("who stays fit", x.ask(0), 2);
        x.sees(2, 0);
        due("a stranger would no more", x.ask(0), 3);
        due("of several the least", x.ask(3), 2);
        x = Towns.of("p00;p00;p20;");
        due("none stays fit: the least", x.ask(2), 0);
        x.sees(0, 2);
        due("the least of those who are fit", x.ask(2), 1);
        x.sees(1, 2);
        due("none is fit", x.ask(2), -4);
        due("ask(3)", x.ask(3), -1);
        due("ask(-1)", x.ask(-1), -1);
        x = Towns.of("p00;p30;p00;t10;t10;t10;");
        due("all turned", x.ask(0), -3);
        due("asking turns nothing", x.count(3), 9);
        x.ask(1);
        due("asking makes none fonder", x.count(4), 0);
        x = Towns.of("p49;p00;p00;l9;f027;f129;");
        due("nine at most is borne by limit", x.ask(2), 1);
    }

    private static void game() {
        DealtByOpposite x = Towns.of("p00;p00;p30;p40;l3;");
        for (int p = 0; p < 4; p++) {
            for (int q = 0; q < 4; q++) {
                due("game(" + p + ", " + q + ")", x.game(p, q), p == q ? -1 : 0);
            }
        }
        due("game(0, 4)", x.game(0, 4), -1);
        due("game(-1, 0)", x.game(-1, 0), -1);
        due("game of those who may not", Towns.of("p40;p40;").game(0, 1), 0);
    }

    // ---- 29 to 32

    private static void blushes() {
        DealtByOpposite x = Towns.of("p00;p20;p60;p00;");
        Towns.row(x, 0, 0, 0, 5, 2, 0);
        due("one level", x.blushes(0, 0, 0), 1);
        due("which", x.blushes(0, 0, 1), 5);
        due("the blusher's own place is skipped", x.blushes(1, 0, 0), 2);
        due("the least of two", x.blushes(1, 0, 1), 4);
        due("the deaf one's own place is skipped", x.blushes(2, 0, 0), 1);
        Towns.row(x, 0, 0, 0, -128, 4, 0);
        due("the least byte is skipped", x.blushes(0, 0, 0), 2);
        due("the least byte is skipped: level", x.blushes(0, 0, 1), 8);
        Towns.row(x, 0, 1, 0, -128, 4, 0);
        due("of shorts it is not", x.blushes(0, 0, 0), 0);
        due("no level", x.blushes(0, 0, 1), -4);
        Towns.row(x, 0, 1, 0, -32768, 4, 0);
        due("the least short is", x.blushes(0, 0, 0), 2);
        Towns.row(x, 0, 2, 0, LEAST, 4, 0);
        due("the least int is", x.blushes(0, 0, 0), 2);
        Towns.row(x, 0, 2, 0, -32768, 4, 0);
        due("the least short of ints is not", x.blushes(0, 0, 0), 0);
        Towns.row(x, 0, 2, 0, 9, 4, 1);
        due("a person shows nothing", x.blushes(0, 0, 0), 0);
        due("but for the own place", x.blushes(3, 0, 0), 1);
        Towns.row(x, 0, 2, 0, 9);
        due("fewer numbers than people", x.blushes(0, 0, 1), 9);
        Towns.row(x, 0, 2, 0, 10);
        due("no level of ten", x.blushes(0, 0, 0), 0);
        Towns.row(x, 0, 2);
        due("no numbers", x.blushes(0, 0, 0), 10);
        due("no numbers: the least", x.blushes(0, 0, 1), 0);
        Towns.row(x, 0, 2, 0, 0, 0, 0, 0);
        due("more numbers", x.blushes(0, 0, 0), -13);
        due("what 2", x.blushes(0, 0, 2), -1);
        due("what -1", x.blushes(0, 1, -1), -1);
        due("no such one", x.blushes(4, 1, 0), -1);
        due("no such shelf", x.blushes(0, 8, 0), -1);
        due("nothing", x.blushes(0, 1, 0), -11);
        x.keep(1, 1, 2, 3);
        due("no row", x.blushes(0, 1, 0), -12);
        DealtByOpposite y = Towns.of("p30;p10;p70;p50;p40;p00;");
        Towns.row(y, 0, 0, 0, 0, 0, 0, 0, 0);
        due("others show nothing", y.blushes(5, 0, 0), 10);
    }

    private static void forged() {
        DealtByOpposite x = Towns.of("p00;p20;p60;p00;");
        Towns.row(x, 0, 0, 0, 5, 2, 0);
        due("none", x.forged(0, 0), -4);
        Towns.row(x, 0, 0, 0, 0, 0, 0);
        due("none by level 0 alone", x.forged(0, 0), -4);
        Towns.row(x, 0, 0, 0, 9, 4, 0);
        due("none by level 9 alone", x.forged(0, 0), -4);
        Towns.row(x, 0, 0, 0, 5, 2, 0);
        Towns.row(x, 0, 0, 0, 5, 3, 1);
        due("the first that fits none of all up to it", x.forged(0, 0), 2);
        due("the own place is skipped", x.forged(2, 0), 3);
        Towns.row(x, 0, 0, 1, 5, 3, 1);
        due("place 0", x.forged(1, 0), 0);
        Towns.row(x, 0, 0, 0, -128, 5, -128);
        due("half of nine is four", x.forged(0, 0), 2);
        Towns.row(x, 0, 0, 0, -128, 4, -128);
        due("skipped", x.forged(0, 0), -4);
        Towns.row(x, 0, 1);
        due("no numbers", x.forged(0, 0), -4);
        Towns.row(x, 0, 1, 0, 0, 0, 0, 0);
        due("more numbers", x.forged(0, 0), -13);
        due("no such one", x.forged(4, 0), -1);
        due("no such one, nothing", x.forged(-1, 1), -1);
        due("no such shelf", x.forged(0, -1), -1);
        due("nothing", x.forged(0, 1), -11);
        x.keep(1, 1, 2, 3);
        due("no row", x.forged(0, 1), -12);
    }

    private static void judge() {
        DealtByOpposite x = Towns.of("p00;p00;p70;p29;");
        // For 3: person 0 once, person 1 once, sailor 2 twice: 1, 2, 5, 8, and no more.
        Towns.row(x, 0, 0, 0, 1, 2, 5, 8);
        due("as it is", x.judge(3, 0), -4);
        Towns.row(x, 0, 0, 0, 1, 2, 5, 8, 8);
        due("behind the last that can be", x.judge(3, 0), 5);
        Towns.row(x, 0, 0, 0, 1, 2, 5, 8, -128);
        due("skipped behind the last", x.judge(3, 0), -4);
        Towns.row(x, 0, 0, 0, -128, 2, 5, 9);
        due("skipped amid, wrong at last", x.judge(3, 0), 4);
        Towns.row(x, 0, 0, 1);
        due("place 0 is now", x.judge(3, 0), 0);
        Towns.row(x, 0, 0, -128);
        due("place 0 skipped", x.judge(3, 0), -4);
        Towns.row(x, 0, 0);
        due("no numbers", x.judge(3, 0), -4);
        due("judging turns nothing", x.count(3), 0);
        due("judging makes none fonder", x.count(4), 0);
        due("judging lasts no day", x.count(1), 0);
        Towns.row(x, 0, 2, 0, -128);
        due("skipped is the least of the sort alone", x.judge(3, 0), 1);
        Towns.row(x, 0, 2, 0, LEAST, 2);
        due("the least int", x.judge(3, 0), -4);
        // More numbers than people are no matter, and neither is the day.
        x = Towns.of("p30;p00;" + "d99;".repeat(10) + "d09;");
        Towns.row(x, 0, 1, 0, 3, 6, 9);
        due("on the last day", x.judge(1, 0), -4);
        Towns.row(x, 0, 1, 0, 3, 6, 9, 9);
        due("all are turned already", x.judge(1, 0), 4);
        Towns.row(x, 0, 1, 0, 3, 6, 9, -32768, -32768, 9);
        due("all are turned, some skipped", x.judge(1, 0), 6);
        due("no such one", x.judge(2, 0), -1);
        due("no such shelf", x.judge(0, 8), -1);
        due("nothing", x.judge(0, 1), -11);
        x.keep(1, 1, 2, 3);
        due("no row", x.judge(0, 1), -12);
    }

    private static void months() {
        DealtByOpposite x = new DealtByOpposite();
        due("nobody", x.months(1, 1, 0), -3);
        due("no month, nobody", x.months(0, 1, 0), -1);
        due("nobody, what 2", x.months(1, 1, 2), -1);
        x = Towns.of("p00;");
        due("one alone: cards", x.months(20, 7, 0), 0);
        due("one alone: turnings", x.months(20, 7, 1), 0);
        due("months(21)", x.months(21, 7, 1), -1);
        due("months(what -1)", x.months(1, 7, -1), -1);
        // Two children: each try of two different ones turns three cards, until all nine are turned.
        x = Towns.of("p30;p30;");
        for (int seed = -3; seed < 4; seed++) {
            for (int n = 1; n <= 20; n += 19) {
                int[] want = monthsOfTwoChildren(n, seed * 1000003);
                due("two children: cards by " + seed, x.months(n, seed * 1000003, 0), want[0]);
                due("two children: turnings by " + seed, x.months(n, seed * 1000003, 1), want[1]);
            }
        }
        due("now is as it was", x.count(3), 0);
        due("no day went by", x.count(1), 0);
        // Two persons: a turning each way, then only seeings.
        x = Towns.of("p00;p00;" + "d99;".repeat(10) + "d09;");
        due("the day is no matter: cards", x.months(20, 12345, 0), x.months(20, 12345, 1));
        due("two persons turn about twice a month", x.months(20, 12345, 1) > 30 ? 1 : 0, 1);
        due("and no more than that", x.months(20, 12345, 1) <= 40 ? 1 : 0, 1);
        Towns.tell(x, "f019;f109;");
        due("one who may not turns nothing", x.months(20, 12345, 1), 0);
        x = Towns.of("p30;p40;");
        due("three cards each time", x.months(20, 99, 0), 3 * x.months(20, 99, 1));
        due("nine at most", x.months(20, 99, 1) <= 60 ? 1 : 0, 1);
        // By seed 1 the draws below three are 2 1, 0 1, 1 2, 0 0, 0 0, 1 2, 0 0, 2 2, 0 0, 0 0: the child turns once.
        x = Towns.of("p30;p40;p40;");
        due("who is drawn first turns", x.months(1, 1, 1), 1);
        due("three cards", x.months(1, 1, 0), 3);
        // From now on each month, so that what is turned now counts each month.
        Towns.tell(x, "t01;t01;t02;");
        due("what is turned now counts", x.months(1, 1, 0), 12);
    }

    private static int[] monthsOfTwoChildren(int n, int seed) {
        int z = seed;
        int cards = 0;
        int turnings = 0;
        for (int month = 0; month < n; month++) {
            int[] turned = new int[2];
            for (int k = 0; k < 10; k++) {
                z = z * 1103515245 + 12345;
                int p = (z & 0x7fffffff) / 65536 % 2;
                z = z * 1103515245 + 12345;
                int q = (z & 0x7fffffff) / 65536 % 2;
                if (p != q && turned[q] < 9) {
                    turned[q] += 3;
                    turnings++;
                }
            }
            cards += turned[0] + turned[1];
        }
        return new int[] {cards, turnings};
    }

    // ---- 33 to 35

    private static void image() {
        DealtByOpposite x = Towns.of("p00;p30;f012;t10;l3;d20;");
        due("no image", x.restore(), -3);
        due("image", x.image(), 21);
        Towns.tell(x, "p70;f109;f206;t20;t10;l8;d09;s01;");
        x.keep(0, 1, 7, 3);
        due("much has changed", x.count(0), 3);
        due("restore", x.restore(), 21);
        due("people", x.count(0), 2);
        due("day", x.count(1), 21);
        due("limit", x.count(2), 3);
        due("turned", x.count(3), 3);
        due("fond", x.fond(0, 1), 2);
        due("all fond", x.count(4), 2);
        due("kind", x.person(1, 0), 3);
        due("shelves stay", x.cost(0), 5);
        due("one more behind it", x.comes(0), 2);
        due("that one is fond of nobody", x.fond(2, 0), 0);
        due("that one has none turned", x.person(2, 2), 0);
        due("nobody is fond of that one", x.fond(1, 2), 0);
        x.days(5);
        due("restored twice", x.restore(), 21);
        due("the image stays", x.count(0), 2);
        x.days(1);
        due("a later image", x.image(), 22);
        x.days(1);
        due("restored to the later one", x.restore(), 22);
        x = new DealtByOpposite();
        due("an image of nobody", x.image(), 0);
        Towns.tell(x, "p00;d05;");
        due("restored to nobody", x.restore(), 0);
        due("nobody there", x.count(0), 0);
    }

    private static void count() {
        DealtByOpposite x = Towns.of("p00;p30;p00;t10;t10;t10;t12;f015;f207;l4;d10;");
        int[] want = {3, 14, 4, 12, 12, 1};
        for (int what = 0; what < 6; what++) {
            due("count(" + what + ")", x.count(what), want[what]);
        }
        due("count(-1)", x.count(-1), -1);
        due("count(6)", x.count(6), -1);
        Towns.tell(x, "t12;t12;");
        due("two are told whole", x.count(5), 5);
    }

    // ---- 36 to 42

    private static void keep() {
        DealtByOpposite x = new DealtByOpposite();
        due("keep one", x.keep(7, 1, 7, 9), 0);
        due("one is kept", x.cost(7), 5);
        due("keep(-1)", x.keep(-1, 1, 0, 0), -1);
        due("keep(8)", x.keep(8, 1, 0, 0), -1);
        due("keep what -1", x.keep(7, -1, 0, 0), -1);
        due("keep what 2", x.keep(7, 2, 0, 0), -1);
        due("keep kind -1", x.keep(7, 1, -1, 0), -1);
        due("keep kind 8", x.keep(7, 1, 8, 0), -1);
        due("keep figure -1", x.keep(7, 1, 0, -1), -1);
        due("keep figure 10", x.keep(7, 1, 0, 10), -1);
        due("the one stays", x.cost(7), 5);
        due("nothing, the others do not matter", x.keep(7, 0, LEAST, GREATEST), 0);
        due("nothing is held", x.cost(7), -11);
        x.row(7, 0, 1);
        due("one in place of a row", x.keep(7, 1, 0, 1), 0);
        due("no row any more", x.put(7, 0, 1), -12);
        x.row(7, 0, 1);
        due("nothing in place of a row", x.keep(7, 0, 0, 0), 0);
        due("nothing there", x.put(7, 0, 1), -11);
        due("nothing of no shelf", x.keep(8, 0, 0, 0), -1);
    }

    private static void row() {
        DealtByOpposite x = new DealtByOpposite();
        due("row(-1)", x.row(-1, 0, 1), -1);
        due("row(8)", x.row(8, 0, 1), -1);
        due("sort -1", x.row(0, -1, 1), -1);
        due("sort 3", x.row(0, 3, 1), -1);
        due("above a hundred", x.row(0, 0, 101), -1);
        due("below 0", x.row(0, 0, -1), -14);
        due("least", x.row(0, 2, LEAST), -14);
        due("below 0 of no sort", x.row(0, 3, -1), -1);
        due("below 0 of no shelf", x.row(8, 0, -1), -1);
        due("nothing came of it", x.put(0, 0, 1), -11);
        due("a hundred", x.row(0, 2, 100), 0);
        due("its last", x.put(0, 99, 5), 0);
        due("behind its last", x.put(0, 100, 5), -13);
        due("anew", x.row(0, 2, 100), 0);
        due("all are 0 again", element(x, 0, 99), 0);
        x.put(0, 0, 7);
        x.row(0, 2, 1);
        due("the first is 0 again", element(x, 0, 0), 0);
        due("none", x.row(0, 1, 0), 0);
        due("no place in it", x.put(0, 0, 1), -13);
        x.keep(1, 1, 2, 3);
        due("a row in place of one", x.row(1, 0, 1), 0);
        due("no one any more", x.cost(1), -12);
    }

    private static void put() {
        DealtByOpposite x = new DealtByOpposite();
        due("put(-1)", x.put(-1, 0, 1), -1);
        due("put(8)", x.put(8, 0, 1), -1);
        due("put of nothing", x.put(0, 0, 1), -11);
        x.keep(0, 1, 0, 0);
        due("put of one", x.put(0, 0, 1), -12);
        int[] numbers = {0, 1, -1, 127, 128, 255, 256, -128, -129, 32767, 32768, 65535, 65536, 70000, -32768, -32769,
            GREATEST, LEAST, LEAST + 1};
        for (int v : numbers) {
            long[] want = {(byte) v, (short) v, v};
            for (int sort = 0; sort < 3; sort++) {
                x.row(sort, sort, 2);
                due("put " + v, x.put(sort, 1, v), 0);
                due("kept of " + v + " by sort " + sort, element(x, sort, 1), want[sort]);
                due("the other stays", element(x, sort, 0), 0);
            }
        }
        due("place -1", x.put(0, -1, 1), -13);
        due("place 2", x.put(0, 2, 1), -13);
        due("place least", x.put(0, LEAST, 1), -13);
        due("place greatest", x.put(0, GREATEST, 1), -13);
    }

    /** The element, or 10000000001 for IllegalArgumentException, 10000000002 for IllegalStateException. */
    private static long element(DealtByOpposite x, int d, int i) {
        try {
            return x.element(d, i);
        } catch (IllegalArgumentException e) {
            return 10000000001L;
        } catch (IllegalStateException e) {
            return 10000000002L;
        }
    }

    private static void element() {
        DealtByOpposite x = new DealtByOpposite();
        due("no shelf -1", element(x, -1, 0), 10000000001L);
        due("no shelf 8", element(x, 8, 0), 10000000001L);
        due("no shelf, no place", element(x, LEAST, LEAST), 10000000001L);
        due("nothing", element(x, 7, 0), 10000000002L);
        x.keep(7, 1, 0, 0);
        due("one", element(x, 7, 0), 10000000002L);
        Towns.row(x, 7, 2, 5, 6, LEAST);
        due("first", element(x, 7, 0), 5);
        due("last", element(x, 7, 2), LEAST);
        due("place -1", element(x, 7, -1), 10000000002L);
        due("place 3", element(x, 7, 3), 10000000002L);
        due("place greatest", element(x, 7, GREATEST), 10000000002L);
    }

    private static void copy() {
        DealtByOpposite x = new DealtByOpposite();
        Towns.row(x, 0, 1, 1, 2, 3, 4, 5);
        Towns.row(x, 1, 1, 0, 0, 0);
        due("copy two", x.copy(0, 1, 1, 1, 2), 2);
        dueRow("came", x, 1, 0, 2, 3);
        dueRow("stayed", x, 0, 1, 2, 3, 4, 5);
        due("copy up in one row", x.copy(0, 0, 0, 1, 4), 4);
        dueRow("as if aside first", x, 0, 1, 1, 2, 3, 4);
        due("copy down in one row", x.copy(0, 1, 0, 0, 4), 4);
        dueRow("as if aside first, down", x, 0, 1, 2, 3, 4, 4);
        due("none at the end", x.copy(0, 5, 1, 3, 0), 0);
        due("none behind the end", x.copy(0, 6, 1, 3, 0), -13);
        due("none behind the other end", x.copy(0, 5, 1, 4, 0), -13);
        due("too many of the first", x.copy(1, 0, 0, 0, 4), -13);
        due("too many of the second", x.copy(0, 0, 1, 0, 4), -13);
        due("from -1", x.copy(0, -1, 1, 0, 1), -13);
        due("to -1", x.copy(0, 0, 1, -1, 1), -13);
        due("below none", x.copy(0, 0, 1, 0, -1), -13);
        due("far off", x.copy(0, GREATEST, 1, 0, GREATEST), -13);
        due("far off, least", x.copy(0, 0, 1, LEAST, LEAST), -13);
        due("no shelf", x.copy(8, 0, 1, 0, 1), -1);
        due("no other shelf", x.copy(0, 0, -1, 0, 1), -1);
        due("no shelf ahead of nothing", x.copy(2, 0, 8, 0, 1), -1);
        due("nothing", x.copy(2, 0, 1, 0, 1), -11);
        due("nothing there", x.copy(0, 0, 2, 0, 1), -11);
        x.keep(3, 1, 0, 0);
        due("one", x.copy(3, 0, 1, 0, 1), -12);
        due("one there", x.copy(0, 0, 3, 0, 1), -12);
        due("nothing ahead of one", x.copy(3, 0, 2, 0, 1), -11);
        x.row(4, 2, 5);
        due("another sort", x.copy(0, 0, 4, 0, 1), -12);
        due("another sort ahead of places", x.copy(0, 9, 4, 0, 1), -12);
        dueRow("nothing came by refusals", x, 1, 0, 2, 3);
    }

    private static void dueRow(String what, DealtByOpposite x, int d, long... want) {
        for (int i = 0; i < want.length; i++) {
            due(what + ", element " + i, element(x, d, i), want[i]);
        }
    }

    private static void cost() {
        DealtByOpposite x = new DealtByOpposite();
        int[] atNone = {4, 3, 4, 1, 12, 3, 8, 5};
        int[] byFigure = {0, 0, 1, 0, 0, 1, 2, 0};
        for (int kind = 0; kind < 8; kind++) {
            for (int figure = 0; figure < 10; figure++) {
                x.keep(0, 1, kind, figure);
                due("cost of " + kind + " " + figure, x.cost(0), atNone[kind] + byFigure[kind] * figure);
            }
        }
        due("cost(-1)", x.cost(-1), -1);
        due("cost(8)", x.cost(8), -1);
        due("cost of nothing", x.cost(1), -11);
        x.row(1, 0, 0);
        due("cost of a row", x.cost(1), -12);
    }

    private static void toss() {
        DealtByOpposite x = new DealtByOpposite();
        for (int figure = 1; figure < 10; figure++) {
            int[] want = {figure, figure, 100 + figure, -15, figure, figure, 208 + 2 * figure, figure};
            for (int kind = 0; kind < 8; kind++) {
                x.keep(0, 1, kind, figure);
                due("toss of " + kind + " " + figure, x.toss(0), want[kind]);
                x.keep(0, 1, kind, 0);
                due("toss of " + kind + " 0", x.toss(0), -15);
            }
        }
        due("toss(-1)", x.toss(-1), -1);
        due("toss(8)", x.toss(8), -1);
        due("toss of nothing", x.toss(1), -11);
        x.row(1, 0, 0);
        due("toss of a row", x.toss(1), -12);
    }
}

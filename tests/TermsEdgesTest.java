/** Each sentence of the document's Terms that names an edge: what it says just at the edge, and just beyond. */
public final class TermsEdgesTest {
    private static final int LEAST = Integer.MIN_VALUE;
    private static final int GREATEST = Integer.MAX_VALUE;
    private static final String SEVEN = "p00;".repeat(7);
    /** Day 999, by ten statements of 99 days and one of 9. */
    private static final String LAST_DAY = "d99;".repeat(10) + "d09;";

    private TermsEdgesTest() {
    }

    public static void main(String[] args) {
        Sentence.in("What it is");
        calls();
        Sentence.in("Terms");
        people();
        figures();
        cardsAndFeelings();
        limitAndDay();
        kinds();
        grows();
        bears();
        turns();
        shows();
        turning();
        seeing();
        textStatements();
        textForm();
        textSense();
        textWhole();
        mayTurn();
        told();
        ringsAndSwaps();
        lastsAndKeep();
        soonest();
        hideAndEnough();
        lovedAndWarmest();
        cards();
        strangers();
        askAndGame();
        blushes();
        forged();
        judged();
        months();
        draws();
        shelves();
        rows();
        image();
        saidOnceMore();
        Check.end("TermsEdgesTest");
    }

    private static void says(String words) {
        Sentence.says(words);
    }

    private static void due(String call, long got, long want) {
        Sentence.due(call, got, want);
    }

    private static void tells(String text, int want) {
        due("town of \"" + text + "\"", Towns.tell(new DealtByOpposite(), text), want);
    }

    private static DealtByOpposite one(int kind, int figure) {
        return Towns.of("p" + kind + figure + ";p00;");
    }

    // ---- the object

    private static void calls() {
        says("An object is used for at most 512 calls after it has been made");
        DealtByOpposite x = new DealtByOpposite();
        Towns.tell(x, "p30;l9;");
        int made = 9;
        while (made < 511) {
            x.town(Towns.TEXT_SHELF);
            made++;
        }
        due("the 512th: people", x.count(0), 7);
        x = new DealtByOpposite();
        for (int call = 1; call < 512; call++) {
            due("call " + call + ": limit", x.limit(call % 10), (call - 1) % 10);
        }
        due("the 512th: limit", x.count(2), 1);
    }

    // ---- I

    private static void people() {
        says("PEOPLE 0 .. 6 as they come (7 at most)");
        DealtByOpposite x = new DealtByOpposite();
        x.keep(0, 1, 3, 0);
        due("none: count", x.count(0), 0);
        due("none: person 0", x.person(0, 0), -1);
        for (int p = 0; p < 7; p++) {
            due("comes", x.comes(0), p);
            due("there: " + p, x.person(p, 0), 3);
            due("not there: " + (p + 1), x.person(p + 1, 0), -1);
            due("count", x.count(0), p + 1);
        }
        due("an eighth", x.comes(0), -2);
        due("seven still", x.count(0), 7);
        due("person 6", x.person(6, 0), 3);
        due("person 7", x.person(7, 0), -1);
        due("person -1", x.person(-1, 0), -1);
    }

    private static void figures() {
        says("each with a FIGURE (0 .. 9)");
        DealtByOpposite x = new DealtByOpposite();
        due("figure -1", x.keep(0, 1, 0, -1), -1);
        due("figure 10", x.keep(0, 1, 0, 10), -1);
        due("neither is kept", x.comes(0), -11);
        due("figure 0", x.keep(0, 1, 0, 0), 0);
        x.comes(0);
        due("figure 9", x.keep(0, 1, 0, 9), 0);
        x.comes(0);
        Towns.tell(x, "p00;p09;");
        due("by shelf, 0", x.person(0, 1), 0);
        due("by shelf, 9", x.person(1, 1), 9);
        due("by text, 0", x.person(2, 1), 0);
        due("by text, 9", x.person(3, 1), 9);
    }

    private static void cardsAndFeelings() {
        says("TURNED cards (0 .. 9; 0 at first; 9 are all)");
        DealtByOpposite x = Towns.of("p00;p30;p20;");
        due("at first", x.person(0, 2), 0);
        due("at first, whole", x.count(5), 0);
        Towns.tell(x, "t10;t10;t20;");
        due("eight", x.person(0, 2), 8);
        due("eight are not all", x.count(5), 0);
        x.turnsFor(1, 0);
        due("nine", x.person(0, 2), 9);
        due("nine are all", x.count(5), 1);
        due("none above", x.turnsFor(1, 0), -3);

        says("FOND of each other one by 0 .. 9 (0 at first)");
        x = Towns.of(SEVEN);
        for (int p = 0; p < 7; p++) {
            for (int q = 0; q < 7; q++) {
                due("at first " + p + " " + q, x.fond(p, q), p == q ? -1 : 0);
            }
        }
        due("-1", x.feels(6, 5, -1), -1);
        due("10", x.feels(6, 5, 10), -1);
        due("9", x.feels(6, 5, 9), 0);
        due("9 it is", x.fond(6, 5), 9);
        due("0", x.feels(6, 5, 0), 9);
        due("0 it is", x.fond(6, 5), 0);
        due("of oneself", x.feels(6, 6, 0), -1);
    }

    private static void limitAndDay() {
        says("LIMIT (0 .. 9; 0 at first)");
        DealtByOpposite x = new DealtByOpposite();
        due("at first", x.count(2), 0);
        due("-1", x.limit(-1), -1);
        due("10", x.limit(10), -1);
        due("9", x.limit(9), 0);
        due("9 it is", x.count(2), 9);
        due("0", x.limit(0), 9);
        due("0 it is", x.count(2), 0);

        says("DAY (0 .. 999; 0 at first)");
        x = new DealtByOpposite();
        due("at first", x.count(1), 0);
        due("at first, by image", x.image(), 0);
        for (int k = 1; k <= 10; k++) {
            due("99 more", x.days(99), 99 * k);
        }
        due("1000", x.days(10), -3);
        due("999", x.days(9), 999);
        due("1000 by one", x.days(1), -3);
        due("999 still", x.count(1), 999);
    }

    private static void kinds() {
        says("KINDS: 0 PERSON; 1 STRANGER under PERSON");
        DealtByOpposite x = new DealtByOpposite();
        due("kind -1", x.keep(0, 1, -1, 0), -1);
        due("kind 8", x.keep(0, 1, 8, 0), -1);
        due("kind 0", x.keep(0, 1, 0, 0), 0);
        due("comes 0", x.comes(0), 0);
        says("6 DEAF under BLUSHER; 7 SAILOR under STRANGER");
        due("kind 7", x.keep(0, 1, 7, 0), 0);
        due("comes 7", x.comes(0), 1);
        due("the first is 0", x.person(0, 0), 0);
        due("the last is 7", x.person(1, 0), 7);
        tells("p70;", 1);
        tells("p80;", -2000);
    }

    private static void grow(int kind, int figure, int want) {
        due("kind " + kind + " figure " + figure, one(kind, figure).person(0, 3), want);
    }

    private static void grows() {
        says("GROWS (fonder by one seeing): PERSON 2; STRANGER 1 less");
        grow(0, 0, 2);
        grow(0, 9, 2);
        grow(1, 0, 1);
        grow(1, 9, 1);
        says("BLUSHER FIGURE by 3, cut, more");
        grow(2, 0, 2);
        grow(2, 2, 2);
        grow(2, 3, 3);
        grow(2, 8, 4);
        grow(2, 9, 5);
        says("CHILD 0");
        grow(3, 0, 0);
        grow(3, 9, 0);
        says("ENEMY FIGURE by 2, cut");
        grow(4, 0, 0);
        grow(4, 1, 0);
        grow(4, 2, 1);
        grow(4, 9, 4);
        says("OLD FIGURE by 4, cut, more than a STRANGER's");
        grow(5, 0, 1);
        grow(5, 3, 1);
        grow(5, 4, 2);
        grow(5, 7, 2);
        grow(5, 8, 3);
        grow(5, 9, 3);
        says("DEAF half of a BLUSHER's, cut");
        grow(6, 0, 1);
        grow(6, 3, 1);
        grow(6, 5, 1);
        grow(6, 6, 2);
        grow(6, 9, 2);
        says("SAILOR 3 times a STRANGER's");
        grow(7, 0, 3);
        grow(7, 9, 3);
    }

    private static void bears() {
        says("BEARS (how fond one may be, LIMIT aside): PERSON 0; STRANGER 1 more; CHILD 8 more than a STRANGER's;"
            + " ENEMY -1; OLD 1 more than a STRANGER's; SAILOR 2 more than a STRANGER's; others as what they are under");
        int[] bears = {0, 1, 0, 9, -1, 2, 0, 3};
        for (int kind = 0; kind < 8; kind++) {
            for (int limit = 0; limit < 10; limit++) {
                DealtByOpposite x = one(kind, 9);
                x.limit(limit);
                for (int fond = 0; fond < 10; fond++) {
                    x.feels(0, 1, fond);
                    int may = fond <= bears[kind] + limit ? 1 : 0;
                    due("kind " + kind + " limit " + limit + " fond " + fond, x.fit(1) & 1, may);
                }
            }
        }
    }

    private static void turn(int kind, int figure, int want) {
        due("kind " + kind + " figure " + figure, one(kind, figure).person(0, 5), want);
        DealtByOpposite x = one(kind, figure);
        x.limit(1);
        due("by one turning of kind " + kind + " figure " + figure, x.turnsFor(0, 1), want);
    }

    private static void turns() {
        says("TURNS (cards by one turning): PERSON 1; BLUSHER 1 more; CHILD 2 more; OLD 1");
        turn(0, 9, 1);
        turn(2, 9, 2);
        turn(3, 9, 3);
        turn(5, 9, 1);
        says("DEAF FIGURE by 3, cut, more than a BLUSHER's");
        turn(6, 0, 2);
        turn(6, 2, 2);
        turn(6, 3, 3);
        turn(6, 8, 4);
        turn(6, 9, 5);
        says("SAILOR 3; others as what they are under. SHOWS");
        turn(7, 9, 3);
        turn(1, 9, 1);
        turn(4, 9, 1);
    }

    private static void shows() {
        says("SHOWS (how fond one seems when one is so by f): PERSON 0; BLUSHER f; DEAF f by 2, cut;"
            + " others as what they are under");
        for (int kind = 0; kind < 8; kind++) {
            DealtByOpposite x = one(kind, 5);
            for (int seen = -1; seen < 11; seen++) {
                Towns.row(x, 0, 0, seen);
                boolean blusher = kind == 2 && seen >= 0 && seen < 10;
                boolean deaf = kind == 6 && seen >= 0 && seen < 5;
                boolean other = kind != 2 && kind != 6 && seen == 0;
                due("kind " + kind + " seems " + seen, x.blushes(1, 0, 0), blusher ? 1 : deaf ? 2 : other ? 10 : 0);
                due("kind " + kind + " seems " + seen + ": least", x.blushes(1, 0, 1),
                    blusher ? seen : deaf ? 2 * seen : other ? 0 : -4);
            }
        }
    }

    private static void turning() {
        says("A TURNING: TURNED is as many more as TURNS (9 at most)");
        DealtByOpposite x = Towns.of("p00;p30;p20;p69;l9;t10;t10;");
        due("8", x.turnsFor(2, 0), 8);
        due("9 of 13", x.turnsFor(3, 0), 9);
        x = Towns.of("p00;p30;p20;p69;l9;t20;t20;");
        due("9 of 9", x.turnsFor(3, 0), 9);
        says("who turned is fonder of that one by GROWS (9 at most)");
        int[][] wants = {{6, 8}, {7, 9}, {8, 9}, {9, 9}};
        for (int[] want : wants) {
            x = Towns.of("p00;p00;l9;");
            x.feels(0, 1, want[0]);
            x.turnsFor(0, 1);
            due("turned, fond by " + want[0], x.fond(0, 1), want[1]);
        }
        x = Towns.of("p30;p00;f019;t01;");
        due("a child, at nine", x.fond(0, 1), 9);
    }

    private static void seeing() {
        says("A SEEING: who sees is fonder by GROWS (9 at most)");
        int[][] wants = {{6, 8}, {7, 9}, {8, 9}, {9, 9}};
        for (int[] want : wants) {
            DealtByOpposite x = Towns.of("p00;p00;");
            x.feels(0, 1, want[0]);
            due("sees, fond by " + want[0], x.sees(0, 1), want[1]);
            due("the other one is not", x.fond(1, 0), 0);
        }
        due("a child sees", Towns.of("p30;p00;").sees(0, 1), 0);
        says("DAY is 1 more with each of both");
        DealtByOpposite x = Towns.of("p30;p30;" + "d99;".repeat(10) + "d07;");
        x.sees(0, 1);
        due("behind a seeing", x.count(1), 998);
        x.turnsFor(0, 1);
        due("behind a turning", x.count(1), 999);
        due("no seeing more", x.sees(0, 1), -3);
        due("no turning more", x.turnsFor(0, 1), -3);
        due("day 999", x.count(1), 999);
    }

    // ---- the text

    private static void textStatements() {
        says("STATEMENTS, each with \";\" behind, one at least");
        tells("", -1000);
        tells(";", -1000);
        tells("l0", -1002);
        tells("l0;", 1);
        tells("l0;;", -1003);
        tells("l0;".repeat(33), 33);
        tells("l0;".repeat(32) + "d01;", 33);
        says("\"p\" KIND, FIGURE (a digit each): one more");
        tells("p79;p00;", 2);
        due("figure and kind", Towns.of("p79;").person(0, 0) * 10 + Towns.of("p79;").person(0, 1), 79);
        says("\"f\" one, another one, how FOND (a digit each): so it is");
        due("f659", Towns.of(SEVEN + "f659;").fond(6, 5), 9);
        due("f650", Towns.of(SEVEN + "f659;f650;").fond(6, 5), 0);
        tells(SEVEN + "f679;", -2028);
        tells(SEVEN + "f769;", -2028);
        says("\"s\" one, another one (a digit each): a SEEING of the first");
        due("s65", Towns.of(SEVEN + "s65;").fond(6, 5), 2);
        tells(SEVEN + "s67;", -2028);
        tells(SEVEN + "s76;", -2028);
        says("\"t\" one, another one (a digit each): the first TURNS for the other");
        due("t65", Towns.of(SEVEN + "t65;").person(5, 2), 1);
        tells(SEVEN + "t67;", -2028);
        tells(SEVEN + "t76;", -2028);
        says("\"l\" LIMIT (a digit)");
        due("l9", Towns.of("l9;").count(2), 9);
        due("l0", Towns.of("l9;l0;").count(2), 0);
        says("\"d\" days (2 digits, 1 .. 99): so many go by");
        tells("d00;", -2000);
        due("d01", Towns.of("d01;").count(1), 1);
        due("d10", Towns.of("d10;").count(1), 10);
        due("d99", Towns.of("d99;").count(1), 99);
    }

    /** In each form of a statement, behind a first one: each place cut off, and each byte there that does not belong. */
    private static void textForm() {
        says("FAULT: kind 1 the place of the first byte with which no TOWN can go on (the end, if something lacks):"
            + " -1000 less the place");
        String[] forms = {"p00;", "f010;", "s01;", "t01;", "l0;", "d01;"};
        for (String form : forms) {
            for (int i = 0; i < form.length(); i++) {
                if (i > 0) {
                    tells("l0;" + form.substring(0, i), -1003 - i);
                }
                tellsWithEachByte("l0;" + form, 3 + i);
            }
        }
        tells("d01;".repeat(24) + "d01", -1099);
        tells("d01;".repeat(24) + "d011", -1099);
        tells("l0;".repeat(33) + "l", -1100);
        tells("f011;".repeat(19) + "f0111", -1099);
        tells("x" + "l0;".repeat(33), -1000);
    }

    private static void tellsWithEachByte(String text, int place) {
        char is = text.charAt(place);
        DealtByOpposite x = new DealtByOpposite();
        x.row(0, 0, text.length());
        for (int i = 0; i < text.length(); i++) {
            x.put(0, i, text.charAt(i));
        }
        for (int sign = -128; sign < 128; sign++) {
            boolean digit = is >= '0' && is <= '9' && sign >= '0' && sign <= '9';
            boolean letter = place == 3 && "pfstld".indexOf((char) (sign & 255)) >= 0;
            if (sign != is && !digit && !letter) {
                x.put(0, place, sign);
                due("town of \"" + text + "\" with byte " + sign + " at " + place, x.town(0), -1000 - place);
            }
        }
    }

    private static void textSense() {
        says("else kind 2 the place of the letter of the first STATEMENT that is not as it must be");
        tells("d00;l", -1005);
        tells("p80;s00;t00;f000;d00;x", -1021);
        tells("d01;".repeat(24) + "d00;", -2096);
        tells("p80;d00;", -2000);
        tells("l0;d00;p80;", -2003);
        says("a number out of range");
        tells("l0;p80;", -2003);
        tells("l0;p90;", -2003);
        tells("l0;d00;", -2003);
        says("no such one, one twice, one who may not TURN");
        tells("p00;f010;", -2004);
        tells("p00;f100;", -2004);
        tells("p00;s01;", -2004);
        tells("p00;s10;", -2004);
        tells("p00;t01;", -2004);
        tells("p00;t10;", -2004);
        tells("f000;", -2000);
        tells("p00;f000;", -2004);
        tells("p00;s00;", -2004);
        tells("p00;t00;", -2004);
        tells("p00;p00;f010;t01;", 4);
        tells("p00;p00;f011;t01;", -2013);
        tells("p40;p00;t01;", -2008);
        tells("p40;p00;l1;t01;", 4);
        says("all TURNED already");
        tells("p30;p00;t01;t01;t01;", 5);
        tells("p30;p00;t01;t01;t01;t01;", -2020);
        says("DAY above 999");
        tells(LAST_DAY, 11);
        tells(LAST_DAY + "d01;", -2044);
        tells(LAST_DAY + "p30;p30;", 13);
        tells(LAST_DAY + "p30;p30;s01;", -2052);
        tells(LAST_DAY + "p30;p30;t01;", -2052);
        tells("d99;".repeat(10) + "d08;p30;p30;s01;", 14);
        tells("d99;".repeat(10) + "d08;p30;p30;t01;", 14);
        tells("d99;".repeat(10) + "d99;", -2040);
        says("no room): -2000 less the place");
        tells(SEVEN, 7);
        tells(SEVEN + "p00;", -2028);
        tells("l0;" + SEVEN + "l0;p00;", -2034);
    }

    private static void textWhole() {
        says("Without FAULT all of it comes, with one nothing");
        String all = "p30;p00;f105;s01;t01;l3;d07;";
        DealtByOpposite x = Towns.of(all);
        due("people", x.count(0), 2);
        due("day", x.count(1), 9);
        due("limit", x.count(2), 3);
        due("turned", x.count(3), 3);
        due("fond", x.count(4), 5);
        String[] faults = {"x", "p0", "d00;", "t11;"};
        int[] wants = {-1028, -1030, -2028, -2028};
        for (int i = 0; i < faults.length; i++) {
            x = new DealtByOpposite();
            due("with " + faults[i], Towns.tell(x, all + faults[i]), wants[i]);
            for (int what = 0; what < 6; what++) {
                due("nothing came, count " + what, x.count(what), 0);
            }
        }
    }

    // ---- II

    private static void mayTurn() {
        says("One MAY TURN for another one, if FOND of that one by no more than BEARS and LIMIT together");
        DealtByOpposite x = Towns.of("p50;p00;l4;f016;");
        due("just as much", x.turnsFor(0, 1), 1);
        x.feels(0, 1, 7);
        due("one more", x.turnsFor(0, 1), -3);
        says("FIT for one: others (bits) who MAY TURN");
        x = Towns.of("p00;");
        due("one alone", x.fit(0), 0);
        x = Towns.of(SEVEN);
        for (int q = 0; q < 7; q++) {
            due("all others of seven", x.fit(q), 127 - (1 << q));
        }
        x.feels(0, 6, 1);
        x.feels(5, 6, 1);
        due("but the first and the last", x.fit(6), 30);
    }

    private static void told() {
        says("TOLD: the most PEOPLE who can each have a TURNER of one's own at once (a TURNER turns for one alone)");
        due("nobody", new DealtByOpposite().told(-1), 0);
        due("one alone", Towns.of("p00;").told(-1), 0);
        due("seven", Towns.of(SEVEN).told(-1), 7);
        due("seven enemies", Towns.of("p40;".repeat(7)).told(-1), 0);
        due("one turner for six", Towns.of("p00;" + "p40;".repeat(6)).told(-1), 1);
        says("the TURNER of the i-th by the first such (0 the least TURNER, and so on; none last: 9)");
        dueTold("p00;p00;p40;", 1, 0, 9);
        dueTold("p40;p00;p00;", 1, 2, 9);
        dueTold("p40;p40;", 9, 9);
        dueTold("p00;", 9);
        dueTold("p40;p40;p00;", 2, 9, 9);
        dueTold("p40;p40;p00;f201;", 9, 2, 9);
        dueTold("p00;p00;p00;p40;", 1, 0, 9, 2);
        dueTold("p00;p00;p00;p40;f102;f232;", 2, 0, 1, 9);
        dueTold(SEVEN, 1, 0, 3, 2, 5, 6, 4);
    }

    private static void dueTold(String text, int... want) {
        DealtByOpposite x = Towns.of(text);
        int many = 0;
        for (int i = 0; i < want.length; i++) {
            due("turner of " + i + " in " + text, x.told(i), want[i]);
            many += want[i] == 9 ? 0 : 1;
        }
        due("many in " + text, x.told(-1), many);
        due("no such one in " + text, x.told(want.length), -1);
    }

    private static void ringsAndSwaps() {
        says("RINGS: in how many ways all have a TURNER of one's own (1, if nobody is there)");
        due("nobody", new DealtByOpposite().rings(), 1);
        due("one alone", Towns.of("p00;").rings(), 0);
        due("two", Towns.of("p00;p00;").rings(), 1);
        due("two, one an enemy", Towns.of("p00;p40;").rings(), 0);
        due("seven", Towns.of(SEVEN).rings(), 1854);
        says("NOBODY: those (bits) for whom nobody MAY TURN");
        due("nobody is there", new DealtByOpposite().nobody(), 0);
        due("one alone", Towns.of("p00;").nobody(), 1);
        due("seven", Towns.of(SEVEN).nobody(), 0);
        due("seven enemies", Towns.of("p40;".repeat(7)).nobody(), 127);
        due("the last alone may", Towns.of("p40;".repeat(6) + "p00;").nobody(), 64);
        says("SWAPS: twos who MAY TURN for each other: how many; the first (10 the lesser and the other); -4");
        due("nobody: first", new DealtByOpposite().swaps(1), -4);
        due("nobody: many", new DealtByOpposite().swaps(0), 0);
        due("one alone: first", Towns.of("p00;").swaps(1), -4);
        due("seven: many", Towns.of(SEVEN).swaps(0), 21);
        due("seven: first", Towns.of(SEVEN).swaps(1), 1);
        DealtByOpposite x = Towns.of("p40;".repeat(5) + "p00;p00;");
        due("the last two: many", x.swaps(0), 1);
        due("the last two: first", x.swaps(1), 56);
        x.feels(6, 5, 1);
        due("one of them not: many", x.swaps(0), 0);
        due("one of them not: first", x.swaps(1), -4);
    }

    private static void lastsAndKeep() {
        says("LASTS: how many TURNINGS one could make for another one, one behind the other, till one MAY no more"
            + " (99 if 99 or more; cards no matter)");
        due("none", Towns.of("p00;p00;f011;").lasts(0, 1), 0);
        due("one", Towns.of("p00;p00;").lasts(0, 1), 1);
        due("nine", Towns.of("p10;p00;l7;").lasts(0, 1), 9);
        due("without end, as nine is borne", Towns.of("p10;p00;l8;f019;").lasts(0, 1), 99);
        due("without end, as nobody is fonder", Towns.of("p30;p00;f019;").lasts(0, 1), 99);
        due("an enemy who grows by 1", Towns.of("p43;p00;l9;").lasts(0, 1), 9);
        due("an enemy who does not", Towns.of("p41;p00;l9;f018;").lasts(0, 1), 99);
        due("an enemy who does not, too fond", Towns.of("p41;p00;l9;f019;").lasts(0, 1), 0);
        due("all turned already", Towns.of("p30;p00;t01;t01;t01;").lasts(0, 1), 99);
        says("KEEP: SEEINGS that one could still have of another one and be FIT (99 at most)");
        due("none", Towns.of("p00;p00;").keeps(0, 1), 0);
        due("eight", Towns.of("p10;p00;l7;").keeps(0, 1), 8);
        due("at its edge", Towns.of("p10;p00;l7;f018;").keeps(0, 1), 0);
        due("not fit", Towns.of("p10;p00;l7;f019;").keeps(0, 1), -3);
        due("without end", Towns.of("p10;p00;l8;f019;").keeps(0, 1), 99);
        due("all turned already", Towns.of("p30;p00;t01;t01;t01;").keeps(0, 1), 99);
    }

    private static void soonest() {
        says("SOONEST: the fewest TURNINGS by anybody so that all 9 of one are TURNED; -4");
        due("one alone", Towns.of("p00;").soonest(0, 0), -4);
        due("none needed", Towns.of("p00;p30;t10;t10;t10;").soonest(0, 0), 0);
        due("one card short", Towns.of("p00;p20;p20;p20;p20;").soonest(0, 0), -4);
        due("nine just so", Towns.of("p00;p20;p20;p20;p20;p00;").soonest(0, 0), 5);
        due("more than nine", Towns.of("p00;p20;p20;p20;p20;p20;").soonest(0, 0), 5);
        due("six persons", Towns.of(SEVEN).soonest(6, 0), -4);
        due("nine by one", Towns.of("p10;p00;l7;").soonest(1, 0), 9);
        due("nine by one, too fond", Towns.of("p10;p00;l7;f011;").soonest(1, 0), -4);
        due("by a deaf one", Towns.of("p69;p00;l2;").soonest(1, 0), 2);
        due("by two of 5 and 4", Towns.of("p69;p66;p00;").soonest(2, 0), 2);
        says("WHO turns first by that (TURNS most, of several the least); -4 none needed or it can not be");
        due("none needed", Towns.of("p00;p30;t10;t10;t10;").soonest(0, 1), -4);
        due("it can not be", Towns.of("p00;p20;p20;p20;p20;").soonest(0, 1), -4);
        due("one alone", Towns.of("p00;").soonest(0, 1), -4);
        due("of several the least", Towns.of("p00;p00;p20;p20;p20;p20;").soonest(0, 1), 2);
        due("the last", Towns.of("p30;".repeat(6) + "p69;").soonest(0, 1), 6);
        due("of others", Towns.of("p69;p30;p30;").soonest(0, 1), 1);
        due("the most may not", Towns.of("p00;p69;p30;f101;").soonest(0, 1), 2);
    }

    private static void hideAndEnough() {
        says("HIDE: the fewest SEEINGS (by others, of one) so that nobody MAY TURN for that one; -4");
        due("one alone", Towns.of("p00;").hide(0), 0);
        due("nobody may already", Towns.of("p40;".repeat(7)).hide(3), 0);
        due("one each", Towns.of(SEVEN).hide(6), 6);
        due("up to nine", Towns.of("p10;p00;l7;").hide(1), 9);
        due("nine is borne", Towns.of("p10;p00;l8;").hide(1), -4);
        due("nobody is fonder", Towns.of("p30;p00;").hide(1), -4);
        due("one of many never", Towns.of("p00;p00;p30;").hide(0), -4);
        due("an enemy of 1 who may not yet", Towns.of("p41;p00;").hide(1), 0);
        due("an enemy of 1 who may", Towns.of("p41;p00;l1;").hide(1), -4);
        says("ENOUGH: the least LIMIT (0 .. 9) by which TOLD is all; -4; by which nobody is for whom nobody MAY");
        due("nobody there, told", new DealtByOpposite().enough(0), 0);
        due("nobody there, each", new DealtByOpposite().enough(1), 0);
        due("one alone, told", Towns.of("p00;").enough(0), -4);
        due("one alone, each", Towns.of("p00;").enough(1), -4);
        due("two, told", Towns.of("p00;p00;").enough(0), 0);
        due("two enemies, told", Towns.of("p40;p40;").enough(0), 1);
        due("two enemies, each", Towns.of("p40;p40;").enough(1), 1);
        due("nine, told", Towns.of("p40;p40;f018;f108;").enough(0), 9);
        due("nine, each", Towns.of("p40;p40;f018;f108;").enough(1), 9);
        due("ten, told", Towns.of("p40;p40;f019;f108;").enough(0), -4);
        due("ten, each", Towns.of("p40;p40;f019;f108;").enough(1), -4);
        due("each by one, told", Towns.of("p30;p40;p40;f109;f209;f129;f219;").enough(0), -4);
        due("two by one, for those at least", Towns.of("p30;p40;p40;f109;f208;f129;f219;").enough(1), 9);
    }

    private static void lovedAndWarmest() {
        says("LOVED: who is loved most (FOND of one, of all others together), of several the least; -4; how much");
        due("nobody", new DealtByOpposite().loved(0), -4);
        due("nobody, how much", new DealtByOpposite().loved(1), -4);
        due("one alone", Towns.of("p00;").loved(0), 0);
        due("one alone, how much", Towns.of("p00;").loved(1), 0);
        due("all alike", Towns.of(SEVEN).loved(0), 0);
        DealtByOpposite x = Towns.of(SEVEN + "f069;f169;f269;f369;f469;f569;");
        due("the last, as much as can be", x.loved(0), 6);
        due("the last, how much", x.loved(1), 54);
        due("alike, of several the least", Towns.of("p00;p00;p00;f013;f123;").loved(0), 1);
        says("WARMEST: the two (10 who is fond and of whom) with the greatest FOND, of several the least;"
            + " -4 fewer than two");
        due("nobody", new DealtByOpposite().warmest(), -4);
        due("one", Towns.of("p00;").warmest(), -4);
        due("two", Towns.of("p00;p00;").warmest(), 1);
        due("the last two", Towns.of(SEVEN + "f651;").warmest(), 65);
        due("the last of the last two", Towns.of(SEVEN + "f561;f651;").warmest(), 56);
        due("the greatest", Towns.of(SEVEN + "f018;f659;").warmest(), 65);
    }

    private static void cards() {
        says("LEFT: cards of one that are not TURNED; ORDERS: in how many orders these can lie");
        due("nine left", Towns.of("p00;p30;").orders(0), 362880);
        due("three left", Towns.of("p00;p30;t10;t10;").orders(0), 6);
        due("one left", Towns.of("p00;p30;p20;t10;t10;t20;").orders(0), 1);
        due("none left", Towns.of("p00;p30;t10;t10;t10;").orders(0), 1);
        says("DRAWN: how likely a told one of these is among the next TURNS of one who turns: a fraction in least terms"
            + " (0 by 1, if none is left)");
        dueFraction("1 of 9", Towns.of("p00;p00;"), 1, 0, 1, 9);
        dueFraction("3 of 9", Towns.of("p00;p30;"), 1, 0, 1, 3);
        dueFraction("2 of 6", Towns.of("p00;p30;p20;t10;"), 2, 0, 1, 3);
        dueFraction("2 of 3", Towns.of("p00;p30;p20;t10;t10;"), 2, 0, 2, 3);
        dueFraction("3 of 3", Towns.of("p00;p30;p20;t10;t10;"), 1, 0, 1, 1);
        dueFraction("5 of 1", Towns.of("p00;p30;p20;p69;t10;t10;t20;"), 3, 0, 1, 1);
        dueFraction("none left", Towns.of("p00;p30;t10;t10;t10;"), 1, 0, 0, 1);
    }

    private static void dueFraction(String what, DealtByOpposite x, int p, int q, long above, long below) {
        due(what + ", above", x.drawn(p, q, 0), above);
        due(what + ", below", x.drawn(p, q, 1), below);
    }

    private static void strangers() {
        says("AWAIT: each day a stranger comes, who is fit with s tenths (0 .. 10): how likely one has come in n days"
            + " (0 .. 12): a fraction in least terms");
        DealtByOpposite x = new DealtByOpposite();
        long[][] wants = {{0, 0, 0, 1}, {0, 12, 0, 1}, {10, 0, 0, 1}, {10, 1, 1, 1}, {10, 12, 1, 1}, {5, 0, 0, 1},
            {1, 1, 1, 10}, {2, 1, 1, 5}, {5, 12, 4095, 4096}, {9, 1, 9, 10}, {9, 12, 999999999999L, 1000000000000L},
            {8, 12, 244140624, 244140625}, {5, 2, 3, 4}, {4, 12, 243609184, 244140625}};
        for (long[] want : wants) {
            int s = (int) want[0];
            int n = (int) want[1];
            due("s " + s + " n " + n + ", above", x.await(s, n, 0), want[2]);
            due("s " + s + " n " + n + ", below", x.await(s, n, 1), want[3]);
        }
        int[][] beyond = {{-1, 0}, {11, 0}, {0, -1}, {0, 13}, {LEAST, 0}, {0, LEAST}, {GREATEST, 0}, {0, GREATEST}};
        for (int[] sn : beyond) {
            due("s " + sn[0] + " n " + sn[1], x.await(sn[0], sn[1], 0), 1000000001L);
        }
        says("DAYS: the fewest days (0 .. 12) with odds 1 by 2 or more; -4");
        due("never", x.daysFor(0), -4);
        due("the slowest", x.daysFor(1), 7);
        due("just above a half in two", x.daysFor(3), 2);
        due("not yet in one", x.daysFor(4), 2);
        due("just a half", x.daysFor(5), 1);
        due("sure, but not in none", x.daysFor(10), 1);
    }

    private static void askAndGame() {
        says("ASK: whom (of those who are FIT for one) to ask, so that, turning once, most are FIT for all"
            + " (sum over PEOPLE) behind it, of several the least; -4");
        due("one alone", Towns.of("p00;").ask(0), -4);
        due("none fit", Towns.of("p00;p40;").ask(0), -4);
        due("one fit", Towns.of("p00;p00;p40;").ask(0), 1);
        due("all alike, the least", Towns.of(SEVEN).ask(0), 1);
        due("all alike, the least, of the last", Towns.of(SEVEN).ask(6), 0);
        due("one stays fit, the last", Towns.of("p00;".repeat(6) + "p10;").ask(0), 6);
        due("two stay fit, the least", Towns.of("p00;p00;p10;p30;").ask(0), 2);
        due("a stranger at the edge", Towns.of("p00;p00;p10;p30;f201;").ask(0), 3);
        due("all turned", Towns.of("p00;p30;t10;t10;t10;").ask(0), -3);
        due("one card left", Towns.of("p00;p30;p20;t10;t10;t20;").ask(0), 1);
        says("the first pair (10 the one's and the other's) by which neither has more by another choice alone; -4");
        // To turn never makes one's own more, so that nobody turns: by GROWS 0, too, where it makes it no less.
        due("both may", Towns.of("p00;p00;").game(0, 1), 0);
        due("neither may", Towns.of("p40;p40;").game(0, 1), 0);
        due("one may", Towns.of("p00;p40;").game(0, 1), 0);
        due("the other may", Towns.of("p40;p00;").game(0, 1), 0);
        due("turning is no loss to either", Towns.of("p30;p30;").game(1, 0), 0);
    }

    private static void blushes() {
        says("a ROW tells how fond PEOPLE 0, 1, .. seemed of one");
        DealtByOpposite x = Towns.of("p20;p60;p00;p20;");
        Towns.row(x, 0, 0);
        due("no numbers", x.blushes(0, 0, 0), 10);
        due("no numbers, least", x.blushes(0, 0, 1), 0);
        Towns.row(x, 0, 0, 0, 0, 0, 0, 0);
        due("a number too many", x.blushes(0, 0, 0), -13);
        says("(that one's own place is skipped, the least number of the SORT, too)");
        int[] least = {-128, -32768, LEAST};
        for (int sort = 0; sort < 3; sort++) {
            Towns.row(x, 0, sort, 77, least[sort], least[sort], least[sort]);
            due("all skipped by sort " + sort, x.blushes(0, 0, 0), 10);
            due("one's own alone by sort " + sort, x.blushes(3, 0, 0), 0);
            Towns.row(x, 0, sort, 77, least[sort] + 1, least[sort], least[sort]);
            due("one above the least by sort " + sort, x.blushes(0, 0, 0), 0);
            Towns.row(x, 0, sort, 9, 4, 0, 77);
            due("one's own at the end by sort " + sort, x.blushes(3, 0, 1), 9);
        }
        Towns.row(x, 0, 0, 9, 127, 0, 9);
        x.put(0, 1, 128);
        due("128 as a byte is the least", x.blushes(2, 0, 1), 9);
        says("LEVELS f (0 .. 9) at which all could be alike fond: how many; the least; -4");
        due("level 0", seem(0, 0, 1), 0);
        due("level 9", seem(9, 4, 1), 9);
        due("level 10", seem(10, 5, 1), -4);
        due("level -1", seem(-1, 0, 1), -4);
        due("no level", seem(9, 3, 0), 0);
        due("no level, least", seem(9, 3, 1), -4);
    }

    /** A blusher and a deaf one, seen by a person. */
    private static int seem(int blusher, int deaf, int what) {
        DealtByOpposite x = Towns.of("p20;p60;p00;");
        Towns.row(x, 0, 1, blusher, deaf);
        return x.blushes(2, 0, what);
    }

    private static void forged() {
        says("FORGED: the first place at which no level fits all up to it; -4");
        DealtByOpposite x = Towns.of("p20;p60;p20;p00;");
        int[][] rows = {{-4}, {-4, 9}, {0, 10}, {0, -1}, {-4, 9, 4, 9}, {1, 9, 3, 9}, {2, 9, 4, 8}, {2, 8, 4, 9},
            {-4, 9, 4, 9, 1}, {0, 10, 3, 8, 1}, {-4, 0, 0, 0, 0}};
        for (int[] row : rows) {
            Towns.row(x, 0, 0, java.util.Arrays.copyOfRange(row, 1, row.length));
            due("row " + java.util.Arrays.toString(row), x.forged(3, 0), row[0]);
        }
        Towns.row(x, 0, 0, 0, 0, 0, 1);
        due("the last place", x.forged(0, 0), 3);
        Towns.row(x, 0, 0, 10, 0, 0, 0);
        due("the first place is one's own", x.forged(0, 0), -4);
        Towns.row(x, 0, 0, -128, -128, -128, -128);
        due("all skipped", x.forged(3, 0), -4);
    }

    private static void judged() {
        says("each by the least who MAY then (place 0: now; DAY no matter)");
        DealtByOpposite x = Towns.of("p00;p30;t10;" + "d99;".repeat(10) + "d08;");
        Towns.row(x, 0, 0, 3);
        due("now", x.judge(0, 0), -4);
        Towns.row(x, 0, 0, 0);
        due("not now", x.judge(0, 0), 0);
        Towns.row(x, 0, 0, 3, 6, 9);
        due("on day 999", x.judge(0, 0), -4);
        x = Towns.of("p00;p00;p30;");
        Towns.row(x, 0, 0, 0, 1, 4, 7, 9);
        due("the least first, while that one may", x.judge(0, 0), -4);
        Towns.row(x, 0, 0, 0, 3, 6, 9);
        due("not the strongest first", x.judge(0, 0), 1);
        says("the first that is not so (behind the last that can be, too; the least number is skipped); -4");
        Towns.row(x, 0, 0, 0, 1, 4, 7, 9, 9);
        due("behind the last, as all are turned", x.judge(0, 0), 5);
        x = Towns.of("p00;p00;");
        Towns.row(x, 0, 0, 0, 1);
        due("the last that can be", x.judge(0, 0), -4);
        Towns.row(x, 0, 0, 0, 1, 1);
        due("behind the last, as nobody may", x.judge(0, 0), 2);
        Towns.row(x, 0, 0, 0, 1, 2);
        due("one more than can be", x.judge(0, 0), 2);
        x = Towns.of("p00;");
        Towns.row(x, 0, 0, 0, 0);
        due("one alone", x.judge(0, 0), 1);
        Towns.row(x, 0, 0);
        due("no numbers", x.judge(0, 0), -4);
        int[] least = {-128, -32768, LEAST};
        for (int sort = 0; sort < 3; sort++) {
            x = Towns.of("p00;p30;");
            Towns.row(x, 0, sort, least[sort], least[sort], 6, least[sort]);
            due("skipped by sort " + sort, x.judge(0, 0), -4);
            Towns.row(x, 0, sort, 0, least[sort] + 1, 6, 9);
            due("one above the least by sort " + sort, x.judge(0, 0), 1);
        }
        x = Towns.of("p30;p00;");
        x.row(0, 0, 100);
        for (int i = 0; i < 100; i++) {
            x.put(0, i, i == 99 ? 9 : -128);
        }
        due("a hundred numbers, the last of them wrong", x.judge(1, 0), 99);
    }

    private static void months() {
        says("MONTHS with a seed z: n months (1 .. 20), each from now, of 10 tries");
        DealtByOpposite x = Towns.of("p04;p13;p26;p30;p45;p58;p67;");
        due("n 0", x.months(0, 1, 0), -1);
        due("n 21", x.months(21, 1, 0), -1);
        dueMonths(x, 1, 1, 8, 6);
        dueMonths(x, 2, 1, 27, 15);
        dueMonths(x, 20, 1, 295, 148);
        x.limit(1);
        dueMonths(x, 1, 1, 10, 8);
        dueMonths(x, 20, 1, 314, 167);
        x = Towns.of("p30;p70;p29;");
        dueMonths(x, 1, 12345, 20, 7);
        dueMonths(x, 20, 12345, 308, 113);
        says("one who MAY TURN (all not TURNED) does, else the first sees the other (one twice: nothing; DAY no matter)");
        x = Towns.of("p00;");
        dueMonths(x, 20, 1, 0, 0);
        x = Towns.of("p40;p40;");
        dueMonths(x, 20, 1, 0, 0);
        x = Towns.of("p30;p30;" + LAST_DAY);
        dueMonths(x, 1, 12345, 18, 6);
        dueMonths(x, 20, 12345, 279, 93);
        x = Towns.of("p30;p30;t01;t01;t01;t10;t10;t10;");
        dueMonths(x, 20, 12345, 360, 0);
        due("nobody", new DealtByOpposite().months(1, 1, 0), -3);
        says("all TURNED at the end together; how many TURNINGS");
        x = Towns.of("p30;p40;p40;t01;t01;t01;t02;");
        dueMonths(x, 1, 0, 12, 0);
        dueMonths(x, 1, 5, 18, 2);
        dueMonths(x, 3, 5, 51, 5);
    }

    private static void dueMonths(DealtByOpposite x, int n, int z, int cards, int turnings) {
        due("months " + n + " by " + z + ": cards", x.months(n, z, 0), cards);
        due("months " + n + " by " + z + ": turnings", x.months(n, z, 1), turnings);
    }

    private static void draws() {
        says("A DRAW below n: z becomes z times 1103515245 plus 12345 (an int);"
            + " (z without its sign's bit over 65536, cut) modulo n");
        DealtByOpposite x = Towns.of("p04;p13;p26;p30;p45;p58;p67;");
        dueMonths(x, 20, 0, 255, 138);
        dueMonths(x, 20, LEAST, 255, 138);
        dueMonths(x, 20, -1, 288, 147);
        dueMonths(x, 20, GREATEST, 288, 147);
        dueMonths(x, 20, 12345, 280, 137);
        x = Towns.of("p30;p70;p29;");
        dueMonths(x, 2, 0, 33, 12);
        dueMonths(x, 2, -1, 34, 12);
        dueMonths(x, 2, LEAST, 33, 12);
        dueMonths(x, 2, GREATEST, 34, 12);
    }

    // ---- III

    private static void shelves() {
        says("SHELVES 0 .. 7 each hold nothing (at first), a KIND of PERSON, a ROW");
        DealtByOpposite x = new DealtByOpposite();
        for (int d = 0; d < 8; d++) {
            due("nothing on " + d, x.put(d, 0, 0), -11);
        }
        int[] none = {-1, 8, LEAST, GREATEST};
        for (int d : none) {
            due("no shelf " + d + ": keep", x.keep(d, 1, 0, 0), -1);
            due("no shelf " + d + ": row", x.row(d, 0, 0), -1);
        }
        for (int d = 0; d < 8; d++) {
            due("one on " + d, x.keep(d, 1, d, d), 0);
        }
        for (int d = 0; d < 8; d++) {
            x.comes(d);
            due("each its own: " + d, d < 7 ? x.person(d, 0) : x.cost(7), d < 7 ? d : 5);
        }
        for (int d = 0; d < 8; d++) {
            due("a row on " + d, x.row(d, 0, d), 0);
            due("its size: " + d, x.put(d, d - 1, d), d == 0 ? -13 : 0);
            due("no more: " + d, x.put(d, d, d), -13);
            due("no one any more: " + d, x.cost(d), -12);
        }
        due("each its own row", x.element(7, 6) * 10 + x.element(6, 5), 76);
        says("-11 nothing is held where something is wanted; -12 it is of another kind");
        x.keep(0, 0, 0, 0);
        x.keep(1, 1, 0, 0);
        x.row(2, 1, 1);
        due("-11", x.cost(0), -11);
        due("-12: one for a row", x.put(1, 0, 0), -12);
        due("-12: a row for one", x.cost(2), -12);
        due("-12: shorts for bytes", x.town(2), -12);
        says("-13 a place that isn't there (a number or a size that isn't as told, too)");
        due("-13: place 1 of 1", x.put(2, 1, 0), -13);
        due("-13: place -1", x.put(2, -1, 0), -13);
        due("-13: size", x.copy(2, 0, 2, 0, 2), -13);
        due("-13: size below 0", x.copy(2, 0, 2, 0, -1), -13);
        says("-14 a size below 0; -15 a FAILURE that is none");
        due("-14", x.row(2, 1, -1), -14);
        due("-15", x.toss(1), -15);
    }

    private static void rows() {
        says("A ROW has a SORT (0 bytes, 1 shorts, 2 ints) and 0 .. 100 elements, 0 at first");
        DealtByOpposite x = new DealtByOpposite();
        due("sort -1", x.row(0, -1, 1), -1);
        due("sort 3", x.row(0, 3, 1), -1);
        for (int sort = 0; sort < 3; sort++) {
            due("0 elements", x.row(0, sort, 0), 0);
            due("none to put", x.put(0, 0, 1), -13);
            due("100 elements", x.row(0, sort, 100), 0);
            for (int i = 0; i < 100; i++) {
                due("at first, " + i, x.element(0, i), 0);
                x.put(0, i, 1);
            }
            due("101 elements", x.row(0, sort, 101), -1);
            due("the row of 100 stays", x.element(0, 99), 1);
        }
        says("what is put in keeps its lowest bits");
        long[][] wants = {{127, 127, 127, 127}, {128, -128, 128, 128}, {-128, -128, -128, -128}, {-129, 127, -129, -129},
            {255, -1, 255, 255}, {256, 0, 256, 256}, {32767, -1, 32767, 32767}, {32768, 0, -32768, 32768},
            {-32769, -1, 32767, -32769}, {65535, -1, -1, 65535}, {65536, 0, 0, 65536}, {GREATEST, -1, -1, GREATEST},
            {LEAST, 0, 0, LEAST}};
        for (long[] want : wants) {
            for (int sort = 0; sort < 3; sort++) {
                x.row(sort, sort, 1);
                x.put(sort, 0, (int) want[0]);
                due(want[0] + " in sort " + sort, x.element(sort, 0), want[1 + sort]);
            }
        }
        Towns.row(x, 3, 0, 'l' + 256, '7' - 256, ';' + 512);
        due("a text by its lowest bits", x.town(3), 1);
        due("its limit", x.count(2), 7);
    }

    private static void image() {
        says("THE IMAGE: all that there is, but SHELVES (and THE IMAGE); RESTORED all is as it was then");
        DealtByOpposite x = Towns.of("p30;p20;f015;f103;t01;l6;d11;");
        due("taken", x.image(), 12);
        Towns.tell(x, "p79;f010;f109;t01;l0;d50;f024;");
        due("the image is not in an image", x.restore(), 12);
        int[] counts = {2, 12, 6, 3, 8, 0};
        for (int what = 0; what < 6; what++) {
            due("count " + what, x.count(what), counts[what]);
        }
        due("fond 0 of 1", x.fond(0, 1), 5);
        due("fond 1 of 0", x.fond(1, 0), 3);
        due("turned", x.person(1, 2), 3);
        due("no third", x.person(2, 0), -1);
        x.keep(0, 1, 0, 0);
        due("one more", x.comes(0), 2);
        due("not the one who was", x.person(2, 1), 0);
        due("of whom nobody is fond", x.fond(0, 2), 0);
        due("again", x.restore(), 12);
        due("two again", x.count(0), 2);
    }

    // ---- said once more

    private static void saidOnceMore() {
        says("\"a by b, cut\" is a divided by b, toward 0");
        due("2 by 3", one(2, 2).person(0, 3), 2);
        due("1 by 2", one(4, 1).person(0, 3), 0);
        says("numbers in THE TEXT have just as many digits as told");
        tells("p0;", -1002);
        tells("p000;", -1003);
        tells("f01;", -1003);
        tells("f0100;", -1004);
        tells("s0;", -1002);
        tells("s001;", -1003);
        tells("t0;", -1002);
        tells("t001;", -1003);
        tells("l;", -1001);
        tells("l00;", -1002);
        tells("d1;", -1002);
        tells("d001;", -1003);
        says("STATEMENTS are tried one behind the other, each on what those ahead of it made");
        tells("p00;p00;t01;f010;t01;", 5);
        tells("p00;p00;t01;t01;", -2012);
        tells("s01;p00;p00;", -2000);
        tells("p00;s01;p00;", -2004);
        tells("p00;p00;s01;", 3);
        says("the first that can't be done so is told (kind 2)");
        tells("p00;p00;s01;s00;s22;", -2012);
        says("The ROW of a text, and what is taken from a SHELF, stay there");
        DealtByOpposite x = Towns.of("p00;d01;");
        due("the text once more", x.town(Towns.TEXT_SHELF), 2);
        due("its last byte", x.element(Towns.TEXT_SHELF, 7), ';');
        x.keep(1, 1, 2, 9);
        x.comes(1);
        due("the one stays", x.toss(1), 109);
        due("and comes once more", x.comes(1), 3);
        says("when THE IMAGE is RESTORED, SHELVES stay as they are");
        x.image();
        x.keep(2, 1, 6, 9);
        x.keep(1, 0, 0, 0);
        x.put(Towns.TEXT_SHELF, 0, 1000);
        x.restore();
        due("what came to a shelf", x.toss(2), 226);
        due("what went from a shelf", x.toss(1), -11);
        due("what was put", x.element(Towns.TEXT_SHELF, 0), (byte) 1000);
        says("REFUSALS (answers; nothing changes): -1 no such one, one twice, a number out of its range;"
            + " -2 there is no room; -3 it is not as it must be; -4 none");
        x = Towns.of(SEVEN);
        x.keep(0, 1, 0, 0);
        due("no such one", x.fond(0, 7), -1);
        due("one twice", x.fond(0, 0), -1);
        due("a number out of its range", x.limit(10), -1);
        due("no room", x.comes(0), -2);
        due("not as it must be", x.restore(), -3);
        due("none", x.soonest(0, 0), -4);
        says("Answers of several REFUSALS are the first one as they are told at the call");
        Towns.tell(x, LAST_DAY);
        due("one twice, on day 999", x.sees(6, 6), -1);
        due("no such one, on day 999", x.turnsFor(7, 0), -1);
        due("100 days, on day 999", x.days(100), -1);
        due("nothing held, no room", x.comes(1), -11);
        due("of another kind, no room", x.comes(Towns.TEXT_SHELF), -12);
        due("no such shelf, a size below 0", x.row(8, 0, -1), -1);
        due("nothing held, of another kind, no place", x.copy(1, -1, 0, -1, -1), -11);
        due("of another kind, no place", x.copy(0, -1, Towns.TEXT_SHELF, -1, -1), -12);
        due("no month, nobody", new DealtByOpposite().months(0, 0, 0), -1);
        says("Of longs they are 1000000000 less them (-1 is told as 1000000001)");
        due("orders", x.orders(7), 1000000001L);
        due("drawn", x.drawn(0, 0, 0), 1000000001L);
        due("await", x.await(11, 0, 0), 1000000001L);
    }
}

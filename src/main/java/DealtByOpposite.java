/**
 * People of kinds, how fond each is of each, and who may turn the cards for whom.
 * The document of the project tells what every call answers; this file keeps its words.
 */
public final class DealtByOpposite {
    private static final int MOST_PEOPLE = 7;
    private static final int ALL_CARDS = 9;
    private static final int MOST_FOND = 9;
    private static final int LEVELS = 10;
    private static final int MOST_LIMIT = 9;
    private static final int MOST_FIGURE = 9;
    private static final int LAST_DAY = 999;
    private static final int MOST_DAYS_AT_ONCE = 99;
    private static final int ENDLESS = 99;
    private static final int NO_TURNER = 9;
    private static final int MOST_MONTHS = 20;
    private static final int TRIES_A_MONTH = 10;
    private static final int MOST_TENTHS = 10;
    private static final int MOST_DAYS_AWAITED = 12;

    private static final int KINDS = 8;
    private static final int SHELVES = 8;
    private static final int MOST_ELEMENTS = 100;
    private static final int BYTES = 0;
    private static final int SHORTS = 1;
    private static final int INTS = 2;

    private static final int NO_SUCH = -1;
    private static final int NO_ROOM = -2;
    private static final int NOT_SO = -3;
    private static final int NONE = -4;
    private static final int NOTHING_HELD = -11;
    private static final int OTHER_KIND = -12;
    private static final int NO_PLACE = -13;
    private static final int SIZE_BELOW_ZERO = -14;
    private static final int NO_FAILURE = -15;
    private static final int FAULT_OF_FORM = -1000;
    private static final int FAULT_OF_SENSE = -2000;
    private static final long LONG_REFUSAL = 1000000000L;

    private final Person[] ones = new Person[SHELVES];
    private final Row[] rows = new Row[SHELVES];
    /** Made once and laid on the shelves again and again, so that no call makes a row. */
    private final Row[] spareRows = new Row[SHELVES];
    private final Town now = new Town();
    /** What is only tried: now stays as it is. */
    private final Town trial = new Town();
    private final Town imaged = new Town();
    private final Circle circle = new Circle();
    private boolean hasImage = false;
    private int seed = 0;

    public DealtByOpposite() {
        for (int d = 0; d < spareRows.length; d++) {
            spareRows[d] = new Row();
        }
    }

    // ---- the town as told

    public int town(int d) {
        Row text = rowOn(d);
        if (text == null) {
            return refusalWithoutRow(d);
        }
        if (text.sort != BYTES) {
            return OTHER_KIND;
        }
        int wrong = text.firstWrongByte();
        if (wrong != NONE) {
            return FAULT_OF_FORM - wrong;
        }
        trial.become(now);
        int statements = 0;
        for (int place = 0; place < text.size; place++) {
            int letter = text.at(place);
            if (digitsBehind(letter) > 0) {
                if (!trial.perform(letter, text.digitAt(place + 1), text.digitAt(place + 2), text.digitAt(place + 3))) {
                    return FAULT_OF_SENSE - place;
                }
                statements++;
            }
        }
        now.become(trial);
        return statements;
    }

    public int person(int p, int what) {
        if (!now.has(p)) {
            return NO_SUCH;
        }
        Person one = now.at(p);
        switch (what) {
            case 0:
                return one.number();
            case 1:
                return one.figure;
            case 2:
                return now.turnedOf(p);
            case 3:
                return one.grows();
            case 4:
                return one.bears() + 10;
            case 5:
                return one.turns();
            default:
                return NO_SUCH;
        }
    }

    public int fond(int p, int q) {
        return now.areTwo(p, q) ? now.fondOf(p, q) : NO_SUCH;
    }

    public int comes(int d) {
        Person one = oneOn(d);
        if (one == null) {
            return refusalWithoutOne(d);
        }
        return now.admit(one) ? now.people - 1 : NO_ROOM;
    }

    public int feels(int p, int q, int v) {
        int before = now.fondOf(p, q);
        return now.setFond(p, q, v) ? before : NO_SUCH;
    }

    public int limit(int v) {
        int before = now.limit;
        return now.setLimit(v) ? before : NO_SUCH;
    }

    public int sees(int p, int q) {
        if (!now.areTwo(p, q)) {
            return NO_SUCH;
        }
        return now.see(p, q) ? now.fondOf(p, q) : NOT_SO;
    }

    public int turnsFor(int p, int q) {
        if (!now.areTwo(p, q)) {
            return NO_SUCH;
        }
        return now.turn(p, q) ? now.turnedOf(q) : NOT_SO;
    }

    public int days(int n) {
        if (n < 1 || n > MOST_DAYS_AT_ONCE) {
            return NO_SUCH;
        }
        return now.pass(n) ? now.day : NOT_SO;
    }

    // ---- who may

    public int fit(int q) {
        return now.has(q) ? now.fitFor(q, now.limit) : NO_SUCH;
    }

    public int told(int i) {
        if (i != -1 && !now.has(i)) {
            return NO_SUCH;
        }
        circle.gather(now, now.limit);
        int most = circle.mostTold();
        return i == -1 ? most : circle.turnerOf(i);
    }

    public int rings() {
        circle.gather(now, now.limit);
        return circle.waysForAll();
    }

    public int nobody() {
        int bits = 0;
        for (int q = 0; q < now.people; q++) {
            if (now.fitFor(q, now.limit) == 0) {
                bits |= 1 << q;
            }
        }
        return bits;
    }

    public int swaps(int what) {
        if (!isOneOfTwo(what)) {
            return NO_SUCH;
        }
        int many = 0;
        int first = NONE;
        for (int p = 0; p < now.people; p++) {
            for (int q = p + 1; q < now.people; q++) {
                if (now.may(p, q, now.limit) && now.may(q, p, now.limit)) {
                    first = many == 0 ? 10 * p + q : first;
                    many++;
                }
            }
        }
        return what == 0 ? many : first;
    }

    public int lasts(int p, int q) {
        return now.areTwo(p, q) ? now.turningsTillUnfit(p, q) : NO_SUCH;
    }

    public int soonest(int q, int what) {
        if (!now.has(q) || !isOneOfTwo(what)) {
            return NO_SUCH;
        }
        int fewest = fewestTurnings(q);
        if (what == 0) {
            return fewest;
        }
        return fewest > 0 ? strongestFit(q) : NONE;
    }

    public int hide(int q) {
        if (!now.has(q)) {
            return NO_SUCH;
        }
        int seeings = 0;
        for (int p = 0; p < now.people; p++) {
            // Seeing and turning make one equally fonder, so as many of the one as of the other are needed.
            int needed = p == q ? 0 : now.turningsTillUnfit(p, q);
            if (needed >= ENDLESS) {
                return NONE;
            }
            seeings += needed;
        }
        return seeings;
    }

    public int keeps(int p, int q) {
        if (!now.areTwo(p, q)) {
            return NO_SUCH;
        }
        int tillUnfit = now.turningsTillUnfit(p, q);
        if (tillUnfit == 0) {
            return NOT_SO;
        }
        return tillUnfit >= ENDLESS ? ENDLESS : tillUnfit - 1;
    }

    public int enough(int what) {
        if (!isOneOfTwo(what)) {
            return NO_SUCH;
        }
        for (int limit = 0; limit <= MOST_LIMIT; limit++) {
            if (what == 0 ? allAreTold(limit) : eachHasSomebody(limit)) {
                return limit;
            }
        }
        return NONE;
    }

    public int loved(int what) {
        if (!isOneOfTwo(what)) {
            return NO_SUCH;
        }
        int who = NONE;
        int most = NONE;
        for (int q = 0; q < now.people; q++) {
            int together = 0;
            for (int p = 0; p < now.people; p++) {
                together += now.fondOf(p, q);
            }
            if (together > most) {
                who = q;
                most = together;
            }
        }
        return what == 0 ? who : most;
    }

    public int warmest() {
        int two = NONE;
        int most = -1;
        for (int p = 0; p < now.people; p++) {
            for (int q = 0; q < now.people; q++) {
                if (p != q && now.fondOf(p, q) > most) {
                    two = 10 * p + q;
                    most = now.fondOf(p, q);
                }
            }
        }
        return two;
    }

    // ---- cards, strangers

    public long orders(int q) {
        if (!now.has(q)) {
            return LONG_REFUSAL - NO_SUCH;
        }
        int left = ALL_CARDS - now.turnedOf(q);
        long ways = 1;
        for (int card = 2; card <= left; card++) {
            ways *= card;
        }
        return ways;
    }

    public long drawn(int p, int q, int part) {
        if (!now.areTwo(p, q) || !isOneOfTwo(part)) {
            return LONG_REFUSAL - NO_SUCH;
        }
        int left = ALL_CARDS - now.turnedOf(q);
        if (left == 0) {
            return part;
        }
        return partInLeastTerms(Math.min(now.at(p).turns(), left), left, part);
    }

    public long await(int s, int n, int part) {
        if (s < 0 || s > MOST_TENTHS || n < 0 || n > MOST_DAYS_AWAITED || !isOneOfTwo(part)) {
            return LONG_REFUSAL - NO_SUCH;
        }
        long all = power(MOST_TENTHS, n);
        return partInLeastTerms(all - power(MOST_TENTHS - s, n), all, part);
    }

    public int daysFor(int s) {
        if (s < 0 || s > MOST_TENTHS) {
            return NO_SUCH;
        }
        for (int n = 0; n <= MOST_DAYS_AWAITED; n++) {
            if (2 * power(MOST_TENTHS - s, n) <= power(MOST_TENTHS, n)) {
                return n;
            }
        }
        return NONE;
    }

    public int ask(int q) {
        if (!now.has(q)) {
            return NO_SUCH;
        }
        if (now.turnedOf(q) >= ALL_CARDS) {
            return NOT_SO;
        }
        int whom = NONE;
        int most = -1;
        for (int p = 0; p < now.people; p++) {
            if (now.may(p, q, now.limit)) {
                trial.become(now);
                trial.turnCards(p, q);
                int fit = trial.fitForAll();
                if (fit > most) {
                    whom = p;
                    most = fit;
                }
            }
        }
        return whom;
    }

    public int game(int p, int q) {
        if (!now.areTwo(p, q)) {
            return NO_SUCH;
        }
        int mostOfOne = now.may(p, q, now.limit) ? 1 : 0;
        int mostOfOther = now.may(q, p, now.limit) ? 1 : 0;
        int lostByOne = now.at(p).grows();
        int lostByOther = now.at(q).grows();
        // As nobody's GROWS is below 0, that neither turns is always such a pair, and the first.
        for (int one = 0; one <= mostOfOne; one++) {
            for (int other = 0; other <= mostOfOther; other++) {
                if (isBestChoice(one, other, mostOfOne, lostByOne)
                        && isBestChoice(other, one, mostOfOther, lostByOther)) {
                    return 10 * one + other;
                }
            }
        }
        return NONE;
    }

    // ---- blushes, told turnings

    public int blushes(int q, int d, int what) {
        if (!now.has(q) || !isOneOfTwo(what)) {
            return NO_SUCH;
        }
        Row row = rowOn(d);
        if (row == null) {
            return refusalWithoutRow(d);
        }
        if (row.size > now.people) {
            return NO_PLACE;
        }
        int many = 0;
        int least = NONE;
        for (int level = 0; level < LEVELS; level++) {
            if (firstNotAtLevel(q, row, level) == NONE) {
                least = many == 0 ? level : least;
                many++;
            }
        }
        return what == 0 ? many : least;
    }

    public int forged(int q, int d) {
        if (!now.has(q)) {
            return NO_SUCH;
        }
        Row row = rowOn(d);
        if (row == null) {
            return refusalWithoutRow(d);
        }
        if (row.size > now.people) {
            return NO_PLACE;
        }
        int farthest = 0;
        for (int level = 0; level < LEVELS; level++) {
            int place = firstNotAtLevel(q, row, level);
            if (place == NONE) {
                return NONE;
            }
            farthest = Math.max(farthest, place);
        }
        return farthest;
    }

    public int judge(int q, int d) {
        if (!now.has(q)) {
            return NO_SUCH;
        }
        Row row = rowOn(d);
        if (row == null) {
            return refusalWithoutRow(d);
        }
        trial.become(now);
        boolean canBe = true;
        for (int place = 0; place < row.size; place++) {
            if (place > 0) {
                canBe = canBe && trial.turnByTheLeast(q);
            }
            int number = row.at(place);
            if (number != row.leastNumber() && (!canBe || number != trial.turnedOf(q))) {
                return place;
            }
        }
        return NONE;
    }

    public int months(int n, int z, int what) {
        if (n < 1 || n > MOST_MONTHS || !isOneOfTwo(what)) {
            return NO_SUCH;
        }
        if (now.people == 0) {
            return NOT_SO;
        }
        seed = z;
        int cards = 0;
        int turnings = 0;
        for (int month = 0; month < n; month++) {
            trial.become(now);
            for (int k = 0; k < TRIES_A_MONTH; k++) {
                int p = draw(trial.people);
                int q = draw(trial.people);
                turnings += trial.turnElseSee(p, q) ? 1 : 0;
            }
            cards += trial.allTurned();
        }
        return what == 0 ? cards : turnings;
    }

    // ---- the image, what is told

    public int image() {
        imaged.become(now);
        hasImage = true;
        return now.day;
    }

    public int restore() {
        if (!hasImage) {
            return NOT_SO;
        }
        now.become(imaged);
        return now.day;
    }

    public int count(int what) {
        switch (what) {
            case 0:
                return now.people;
            case 1:
                return now.day;
            case 2:
                return now.limit;
            case 3:
                return now.allTurned();
            case 4:
                return now.allFond();
            case 5:
                return now.toldWhole();
            default:
                return NO_SUCH;
        }
    }

    // ---- shelves

    public int keep(int d, int what, int k, int figure) {
        if (!isShelf(d) || !isOneOfTwo(what)) {
            return NO_SUCH;
        }
        if (what == 1 && (k < 0 || k >= KINDS || figure < 0 || figure > MOST_FIGURE)) {
            return NO_SUCH;
        }
        lay(d, what == 1 ? personOf(k, figure) : null, null);
        return 0;
    }

    public int row(int d, int sort, int n) {
        if (!isShelf(d) || sort < BYTES || sort > INTS || n > MOST_ELEMENTS) {
            return NO_SUCH;
        }
        if (n < 0) {
            return SIZE_BELOW_ZERO;
        }
        Row row = d < spareRows.length ? spareRows[d] : null;
        if (row != null) {
            row.beginAnew(sort, n);
        }
        lay(d, null, row);
        return 0;
    }

    public int put(int d, int i, int v) {
        Row row = rowOn(d);
        if (row == null) {
            return refusalWithoutRow(d);
        }
        return row.set(i, v) ? 0 : NO_PLACE;
    }

    public long element(int d, int i) throws IllegalArgumentException, IllegalStateException {
        if (!isShelf(d)) {
            throw new IllegalArgumentException("no such shelf");
        }
        Row row = rowOn(d);
        if (row == null || !row.has(i, 1)) {
            throw new IllegalStateException("no row, or no such place in it");
        }
        return row.at(i);
    }

    public int copy(int d, int i, int e, int j, int n) {
        if (!isShelf(d) || !isShelf(e)) {
            return NO_SUCH;
        }
        if (isBare(d) || isBare(e)) {
            return NOTHING_HELD;
        }
        Row from = rowOn(d);
        Row to = rowOn(e);
        if (from == null || to == null || from.sort != to.sort) {
            return OTHER_KIND;
        }
        if (!from.has(i, n) || !to.has(j, n)) {
            return NO_PLACE;
        }
        System.arraycopy(from.elements, i, to.elements, j, n);
        return n;
    }

    public int cost(int d) {
        Person one = oneOn(d);
        return one == null ? refusalWithoutOne(d) : one.price();
    }

    public int toss(int d) {
        Person one = oneOn(d);
        if (one == null) {
            return refusalWithoutOne(d);
        }
        try {
            one.fail();
        } catch (UnsupportedOperationException ofTheDeaf) {
            return 200 + one.price();
        } catch (IllegalArgumentException ofBlushers) {
            return 100 + one.figure;
        } catch (IllegalStateException ofOthers) {
            return one.figure;
        }
        return NO_FAILURE;
    }

    // ---- parts of the calls above

    /** Of many calls a last number, 0 or 1, says which of two things is asked. */
    private static boolean isOneOfTwo(int what) {
        return what == 0 || what == 1;
    }

    /** How many turnings by anybody, those who turn most first, till all cards of q are turned. */
    private int fewestTurnings(int q) {
        int missing = ALL_CARDS - now.turnedOf(q);
        int turnings = 0;
        for (int turns = ALL_CARDS; turns > 0; turns--) {
            for (int p = 0; p < now.people; p++) {
                if (p != q && now.at(p).turns() == turns) {
                    int wanted = (missing + turns - 1) / turns;
                    int made = Math.min(wanted, now.turningsTillUnfit(p, q));
                    missing = Math.max(0, missing - made * turns);
                    turnings += made;
                }
            }
        }
        return missing > 0 ? NONE : turnings;
    }

    private int strongestFit(int q) {
        int who = NONE;
        int most = 0;
        for (int p = 0; p < now.people; p++) {
            if (now.may(p, q, now.limit) && now.at(p).turns() > most) {
                who = p;
                most = now.at(p).turns();
            }
        }
        return who;
    }

    private boolean allAreTold(int limit) {
        circle.gather(now, limit);
        return circle.waysForAll() > 0;
    }

    private boolean eachHasSomebody(int limit) {
        for (int q = 0; q < now.people; q++) {
            if (now.fitFor(q, limit) == 0) {
                return false;
            }
        }
        return true;
    }

    /** Whether one who may choose 0 .. most has no more by the other choice, the other's staying. */
    private static boolean isBestChoice(int own, int other, int most, int lost) {
        int another = 1 - own;
        return another > most || gain(another, other, lost) <= gain(own, other, lost);
    }

    private static int gain(int own, int other, int lost) {
        int together = own == 1 && other == 1 ? 2 : 0;
        return 3 * other - lost * own + together;
    }

    /** The first place whose number one who is fond by this level would not show; -4. */
    private int firstNotAtLevel(int q, Row row, int level) {
        for (int place = 0; place < row.size; place++) {
            int number = row.at(place);
            boolean skipped = place == q || number == row.leastNumber();
            if (!skipped && now.at(place).shows(level) != number) {
                return place;
            }
        }
        return NONE;
    }

    private int draw(int n) {
        seed = seed * 1103515245 + 12345;
        int number = (seed & 0x7fffffff) / 65536;
        return n > 0 ? number % n : 0;
    }

    private static long power(int base, int exponent) {
        long product = 1;
        for (int k = 0; k < exponent; k++) {
            product *= base;
        }
        return product;
    }

    private static long partInLeastTerms(long above, long below, int part) {
        long wanted = part == 0 ? above : below;
        long common = commonDivisor(above, below);
        return common == 0 ? wanted : wanted / common;
    }

    private static long commonDivisor(long a, long b) {
        // A hundred steps are more than numbers of thirteen digits can need.
        for (int step = 0; step < 100 && b != 0; step++) {
            long rest = a % b;
            a = b;
            b = rest;
        }
        return a;
    }

    // ---- what lies on a shelf

    private static boolean isShelf(int d) {
        return d >= 0 && d < SHELVES;
    }

    private boolean isBare(int d) {
        return oneOn(d) == null && rowOn(d) == null;
    }

    private Person oneOn(int d) {
        return d >= 0 && d < ones.length ? ones[d] : null;
    }

    private Row rowOn(int d) {
        return d >= 0 && d < rows.length ? rows[d] : null;
    }

    private void lay(int d, Person one, Row row) {
        if (d >= 0 && d < ones.length && d < rows.length) {
            ones[d] = one;
            rows[d] = row;
        }
    }

    private int refusalWithoutOne(int d) {
        if (!isShelf(d)) {
            return NO_SUCH;
        }
        return rowOn(d) == null ? NOTHING_HELD : OTHER_KIND;
    }

    private int refusalWithoutRow(int d) {
        if (!isShelf(d)) {
            return NO_SUCH;
        }
        return oneOn(d) == null ? NOTHING_HELD : OTHER_KIND;
    }

    // ---- elements that may not be there, and signs

    private static int read(int[] numbers, int i) {
        return i >= 0 && i < numbers.length ? numbers[i] : 0;
    }

    private static void write(int[] numbers, int i, int number) {
        if (i >= 0 && i < numbers.length) {
            numbers[i] = number;
        }
    }

    private static boolean isDigit(int sign) {
        return sign >= '0' && sign <= '9';
    }

    /** How many digits stand behind the letter of a statement; 0 if no statement begins so. */
    private static int digitsBehind(int letter) {
        switch (letter) {
            case 'f':
                return 3;
            case 'p':
            case 's':
            case 't':
            case 'd':
                return 2;
            case 'l':
                return 1;
            default:
                return 0;
        }
    }

    private static Person personOf(int kind, int figure) {
        switch (kind) {
            case 1:
                return new Stranger(figure);
            case 2:
                return new Blusher(figure);
            case 3:
                return new Child(figure);
            case 4:
                return new Enemy(figure);
            case 5:
                return new Old(figure);
            case 6:
                return new Deaf(figure);
            case 7:
                return new Sailor(figure);
            default:
                return new Person(figure);
        }
    }

    // ---- kinds

    /** One of the kind that all others are under. What it is never changes, so towns and shelves may share it. */
    private static class Person {
        final int figure;

        Person(int figure) {
            this.figure = figure;
        }

        int number() {
            return 0;
        }

        int grows() {
            return 2;
        }

        int bears() {
            return 0;
        }

        int turns() {
            return 1;
        }

        int shows(int fond) {
            return 0;
        }

        int price() {
            return 4;
        }

        void fail() {
            if (figure != 0) {
                throw new IllegalStateException("a person fails");
            }
        }
    }

    private static class Stranger extends Person {
        Stranger(int figure) {
            super(figure);
        }

        int number() {
            return 1;
        }

        int grows() {
            return super.grows() - 1;
        }

        int bears() {
            return super.bears() + 1;
        }

        int price() {
            return super.price() - 1;
        }
    }

    private static class Blusher extends Person {
        Blusher(int figure) {
            super(figure);
        }

        int number() {
            return 2;
        }

        int grows() {
            return super.grows() + figure / 3;
        }

        int turns() {
            return super.turns() + 1;
        }

        int shows(int fond) {
            return fond;
        }

        int price() {
            return super.price() + figure;
        }

        void fail() {
            if (figure != 0) {
                throw new IllegalArgumentException("a blusher fails");
            }
        }
    }

    private static final class Child extends Stranger {
        Child(int figure) {
            super(figure);
        }

        int number() {
            return 3;
        }

        int grows() {
            return 0;
        }

        int bears() {
            return super.bears() + 8;
        }

        int turns() {
            return super.turns() + 2;
        }

        int price() {
            return super.price() / 2;
        }

        void fail() {
            // Children have no failure, whatever their figure.
        }
    }

    private static final class Enemy extends Person {
        Enemy(int figure) {
            super(figure);
        }

        int number() {
            return 4;
        }

        int grows() {
            return figure / 2;
        }

        int bears() {
            return -1;
        }

        int price() {
            return super.price() + 8;
        }
    }

    private static final class Old extends Stranger {
        Old(int figure) {
            super(figure);
        }

        int number() {
            return 5;
        }

        int grows() {
            return super.grows() + figure / 4;
        }

        int bears() {
            return super.bears() + 1;
        }

        int turns() {
            return 1;
        }

        int price() {
            return super.price() + figure;
        }
    }

    private static final class Deaf extends Blusher {
        Deaf(int figure) {
            super(figure);
        }

        int number() {
            return 6;
        }

        int grows() {
            return super.grows() / 2;
        }

        int turns() {
            return super.turns() + figure / 3;
        }

        int shows(int fond) {
            return fond / 2;
        }

        int price() {
            return 2 * super.price();
        }

        void fail() {
            if (figure != 0) {
                throw new UnsupportedOperationException("a deaf one fails");
            }
        }
    }

    private static final class Sailor extends Stranger {
        Sailor(int figure) {
            super(figure);
        }

        int number() {
            return 7;
        }

        int grows() {
            return 3 * super.grows();
        }

        int bears() {
            return super.bears() + 2;
        }

        int turns() {
            return 3;
        }

        int price() {
            return super.price() + 2;
        }
    }

    // ---- rows

    private static final class Row {
        final int[] elements = new int[MOST_ELEMENTS];
        int sort = BYTES;
        int size = 0;

        void beginAnew(int newSort, int newSize) {
            sort = newSort;
            size = newSize;
            for (int i = 0; i < elements.length; i++) {
                elements[i] = 0;
            }
        }

        /** Whether n elements stand from place i on. */
        boolean has(int i, int n) {
            return i >= 0 && n >= 0 && n <= size && i <= size - n;
        }

        boolean set(int i, int v) {
            if (!has(i, 1)) {
                return false;
            }
            write(elements, i, sort == BYTES ? (byte) v : sort == SHORTS ? (short) v : v);
            return true;
        }

        int at(int i) {
            return has(i, 1) ? read(elements, i) : 0;
        }

        int digitAt(int i) {
            return at(i) - '0';
        }

        int leastNumber() {
            return sort == BYTES ? -128 : sort == SHORTS ? -32768 : -2147483648;
        }

        /** The first place with which no text of a town can go on (the size, if something lacks); -4. */
        int firstWrongByte() {
            boolean letterNext = true;
            int digitsNext = 0;
            for (int place = 0; place < size; place++) {
                int sign = at(place);
                if (letterNext) {
                    digitsNext = digitsBehind(sign);
                    if (digitsNext == 0) {
                        return place;
                    }
                    letterNext = false;
                } else if (digitsNext > 0) {
                    if (!isDigit(sign)) {
                        return place;
                    }
                    digitsNext--;
                } else {
                    if (sign != ';') {
                        return place;
                    }
                    letterNext = true;
                }
            }
            return letterNext && size > 0 ? NONE : size;
        }
    }

    // ---- all that an image keeps

    private static final class Town {
        private final Person[] ones = new Person[MOST_PEOPLE];
        private final int[] turned = new int[MOST_PEOPLE];
        private final int[] fond = new int[MOST_PEOPLE * MOST_PEOPLE];
        /** Answers for a place at which nobody is, so that no caller meets null. */
        private final Person standIn = new Person(0);
        int people = 0;
        int limit = 0;
        int day = 0;

        void become(Town other) {
            for (int p = 0; p < ones.length; p++) {
                ones[p] = other.at(p);
                write(turned, p, read(other.turned, p));
            }
            for (int i = 0; i < fond.length; i++) {
                fond[i] = read(other.fond, i);
            }
            people = other.people;
            limit = other.limit;
            day = other.day;
        }

        boolean has(int p) {
            return p >= 0 && p < people;
        }

        boolean areTwo(int p, int q) {
            return has(p) && has(q) && p != q;
        }

        Person at(int p) {
            Person one = p >= 0 && p < ones.length ? ones[p] : null;
            return one == null ? standIn : one;
        }

        int turnedOf(int q) {
            return has(q) ? read(turned, q) : 0;
        }

        int fondOf(int p, int q) {
            return areTwo(p, q) ? read(fond, p * MOST_PEOPLE + q) : 0;
        }

        /** One statement by its letter and the digits behind it: whether it could be done. */
        boolean perform(int letter, int first, int second, int third) {
            switch (letter) {
                case 'p':
                    return first < KINDS && admit(personOf(first, second));
                case 'f':
                    return setFond(first, second, third);
                case 's':
                    return see(first, second);
                case 't':
                    return turn(first, second);
                case 'l':
                    return setLimit(first);
                case 'd':
                    return pass(10 * first + second);
                default:
                    return false;
            }
        }

        boolean admit(Person one) {
            if (people < 0 || people >= ones.length) {
                return false;
            }
            // Behind the last one all is 0 already: people get fewer by become alone, which copies those places, too.
            ones[people] = one;
            people++;
            return true;
        }

        boolean setFond(int p, int q, int v) {
            if (!areTwo(p, q) || v < 0 || v > MOST_FOND) {
                return false;
            }
            write(fond, p * MOST_PEOPLE + q, v);
            return true;
        }

        boolean setLimit(int v) {
            if (v < 0 || v > MOST_LIMIT) {
                return false;
            }
            limit = v;
            return true;
        }

        boolean pass(int n) {
            if (n < 1 || n > MOST_DAYS_AT_ONCE || day + n > LAST_DAY) {
                return false;
            }
            day += n;
            return true;
        }

        boolean see(int p, int q) {
            if (!areTwo(p, q) || day >= LAST_DAY) {
                return false;
            }
            becomeFonder(p, q);
            day++;
            return true;
        }

        boolean turn(int p, int q) {
            if (!may(p, q, limit) || turnedOf(q) >= ALL_CARDS || day >= LAST_DAY) {
                return false;
            }
            turnCards(p, q);
            day++;
            return true;
        }

        boolean may(int p, int q, int byLimit) {
            return areTwo(p, q) && fondOf(p, q) <= at(p).bears() + byLimit;
        }

        /** What a turning does, but for the day. */
        void turnCards(int p, int q) {
            write(turned, q, Math.min(ALL_CARDS, turnedOf(q) + at(p).turns()));
            becomeFonder(p, q);
        }

        /** What a seeing does, but for the day. */
        void becomeFonder(int p, int q) {
            setFond(p, q, Math.min(MOST_FOND, fondOf(p, q) + at(p).grows()));
        }

        boolean turnByTheLeast(int q) {
            for (int p = 0; p < people; p++) {
                if (may(p, q, limit) && turnedOf(q) < ALL_CARDS) {
                    turnCards(p, q);
                    return true;
                }
            }
            return false;
        }

        /** Whether it was a turning. */
        boolean turnElseSee(int p, int q) {
            if (may(p, q, limit) && turnedOf(q) < ALL_CARDS) {
                turnCards(p, q);
                return true;
            }
            if (areTwo(p, q)) {
                becomeFonder(p, q);
            }
            return false;
        }

        int fitFor(int q, int byLimit) {
            int bits = 0;
            for (int p = 0; p < people; p++) {
                if (may(p, q, byLimit)) {
                    bits |= 1 << p;
                }
            }
            return bits;
        }

        int fitForAll() {
            int sum = 0;
            for (int q = 0; q < people; q++) {
                sum += Integer.bitCount(fitFor(q, limit));
            }
            return sum;
        }

        /** 99 if it never ends: who grows at all is as fond as can be long before. */
        int turningsTillUnfit(int p, int q) {
            int bearable = at(p).bears() + limit;
            int grows = at(p).grows();
            int feeling = fondOf(p, q);
            for (int turnings = 0; turnings < ENDLESS; turnings++) {
                if (feeling > bearable) {
                    return turnings;
                }
                feeling = Math.min(MOST_FOND, feeling + grows);
            }
            return ENDLESS;
        }

        int allTurned() {
            int sum = 0;
            for (int q = 0; q < people; q++) {
                sum += turnedOf(q);
            }
            return sum;
        }

        int allFond() {
            int sum = 0;
            for (int p = 0; p < people; p++) {
                for (int q = 0; q < people; q++) {
                    sum += fondOf(p, q);
                }
            }
            return sum;
        }

        int toldWhole() {
            int bits = 0;
            for (int q = 0; q < people; q++) {
                if (turnedOf(q) >= ALL_CARDS) {
                    bits |= 1 << q;
                }
            }
            return bits;
        }
    }

    // ---- turners for all at once

    /** Each has at most one turner and each turns for at most one; turners already taken are bits of a set. */
    private static final class Circle {
        private static final int SETS = 1 << MOST_PEOPLE;

        private final int[] fit = new int[MOST_PEOPLE];
        /** At q * SETS + taken: how many from the q-th on can still be told. */
        private final int[] most = new int[(MOST_PEOPLE + 1) * SETS];
        /** At a set of turners: in how many ways just these turn for the first ones. */
        private final int[] ways = new int[SETS];
        private int people = 0;

        void gather(Town town, int byLimit) {
            people = Math.min(MOST_PEOPLE, town.people);
            for (int q = 0; q < people; q++) {
                write(fit, q, town.fitFor(q, byLimit));
            }
        }

        int mostTold() {
            int sets = 1 << people;
            for (int taken = 0; taken < sets; taken++) {
                write(most, people * SETS + taken, 0);
            }
            for (int q = people - 1; q >= 0; q--) {
                for (int taken = 0; taken < sets; taken++) {
                    // Those ahead of q have taken no more turners than they are.
                    if (Integer.bitCount(taken) <= q) {
                        write(most, q * SETS + taken, mostFrom(q, taken));
                    }
                }
            }
            return mostAt(0, 0);
        }

        private int mostFrom(int q, int taken) {
            int best = mostAt(q + 1, taken);
            int free = read(fit, q) & ~taken;
            for (int p = 0; p < people; p++) {
                if ((free & 1 << p) != 0) {
                    best = Math.max(best, 1 + mostAt(q + 1, taken | 1 << p));
                }
            }
            return best;
        }

        private int mostAt(int q, int taken) {
            return read(most, q * SETS + taken);
        }

        /** By the first way to tell the most; mostTold comes ahead of it. */
        int turnerOf(int i) {
            int taken = 0;
            int turner = NO_TURNER;
            for (int q = 0; q <= i && q < people; q++) {
                turner = firstTurner(q, taken);
                taken |= turner == NO_TURNER ? 0 : 1 << turner;
            }
            return turner;
        }

        private int firstTurner(int q, int taken) {
            int free = read(fit, q) & ~taken;
            for (int p = 0; p < people; p++) {
                if ((free & 1 << p) != 0 && 1 + mostAt(q + 1, taken | 1 << p) == mostAt(q, taken)) {
                    return p;
                }
            }
            return NO_TURNER;
        }

        int waysForAll() {
            int sets = 1 << people;
            for (int taken = 0; taken < sets; taken++) {
                write(ways, taken, taken == 0 ? 1 : 0);
            }
            for (int taken = 0; taken < sets - 1; taken++) {
                int free = read(fit, Integer.bitCount(taken)) & ~taken;
                for (int p = 0; p < people; p++) {
                    if ((free & 1 << p) != 0) {
                        int with = taken | 1 << p;
                        write(ways, with, read(ways, with) + read(ways, taken));
                    }
                }
            }
            return read(ways, sets - 1);
        }
    }
}

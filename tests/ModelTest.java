import java.util.Random;

/** Runs of calls by fixed seeds, on the class and on a model that tries everything: the same answers are due. */
public final class ModelTest {
    private static final int RUNS = 1500;
    private static final int CALLS = 200;
    private static final String[] TEXTS = {"", "p", "p00", "p00;", "p0a;", "x", ";", "p00;;", "d", "d9;", "d999;", "l10;",
        "f01;", "f0123;", "s012;", "t0;", "p00;p70;f019;t01;", "p11;p22;f012;t10;t10;l3;d05;", "p80;p8", "p80;"};

    private final Random random;
    private final DealtByOpposite real = new DealtByOpposite();
    private final Model model = new Model();
    private final StringBuilder calls = new StringBuilder();

    private ModelTest(long seed) {
        random = new Random(seed);
    }

    public static void main(String[] args) {
        for (int seed = 0; seed < RUNS; seed++) {
            new ModelTest(seed).run(seed);
        }
        Check.end("ModelTest");
    }

    private void run(int seed) {
        for (int call = 0; call < CALLS; call++) {
            calls.setLength(0);
            step();
            compareState("seed " + seed + ", behind call " + call + " (" + calls + ")", call % 20 == 0);
        }
    }

    private void step() {
        switch (random.nextInt(9)) {
            case 0:
                stepOfState();
                break;
            case 1:
                stepOfText();
                break;
            case 2:
                stepOfShelves();
                break;
            case 3:
                stepOfTurning();
                break;
            case 4:
            case 5:
                askWhoMay();
                break;
            case 6:
                askCards();
                break;
            case 7:
                askRows();
                break;
            default:
                askImage();
                break;
        }
    }

    // ---- numbers: most fit, some do not, a few are far off

    private int near(int low, int high) {
        int kind = random.nextInt(20);
        if (kind == 0) {
            return low - 1;
        }
        if (kind == 1) {
            return high + 1;
        }
        if (kind == 2 && random.nextInt(4) == 0) {
            return random.nextBoolean() ? Integer.MIN_VALUE : Integer.MAX_VALUE;
        }
        return low + random.nextInt(high - low + 1);
    }

    private int someone() {
        return near(0, Math.max(0, model.count(0) - 1));
    }

    private int shelf() {
        return near(0, 7);
    }

    private void due(String call, long got, long want, int... arguments) {
        calls.append(call).append(java.util.Arrays.toString(arguments));
        Check.due(calls.toString(), got, want);
    }

    // ---- calls that change something

    private void stepOfState() {
        int p = someone();
        int q = someone();
        int d = shelf();
        switch (random.nextInt(4)) {
            case 0:
                due("comes", real.comes(d), model.comes(d), d);
                break;
            case 1:
                int v = near(0, 9);
                due("feels", real.feels(p, q, v), model.feels(p, q, v), p, q, v);
                break;
            case 2:
                int limit = near(0, 9);
                due("limit", real.limit(limit), model.limit(limit), limit);
                break;
            default:
                int n = near(1, 99);
                due("days", real.days(n), model.days(n), n);
                break;
        }
    }

    private void stepOfTurning() {
        int p = someone();
        int q = someone();
        if (random.nextInt(3) == 0) {
            due("sees", real.sees(p, q), model.sees(p, q), p, q);
        } else {
            due("turnsFor", real.turnsFor(p, q), model.turnsFor(p, q), p, q);
        }
    }

    private void stepOfText() {
        String text = random.nextInt(4) == 0 ? TEXTS[random.nextInt(TEXTS.length)] : randomText();
        int d = random.nextInt(8);
        due("row", real.row(d, 0, text.length()), model.row(d, 0, text.length()), d, 0, text.length());
        for (int i = 0; i < text.length(); i++) {
            real.put(d, i, text.charAt(i));
            model.put(d, i, text.charAt(i));
        }
        calls.append(text).append(' ');
        due("town", real.town(d), model.town(d), d);
    }

    private String randomText() {
        StringBuilder text = new StringBuilder();
        int many = 1 + random.nextInt(5);
        int people = model.count(0);
        for (int k = 0; k < many; k++) {
            char letter = "ppfffsttld".charAt(random.nextInt(10));
            text.append(letter);
            int range = random.nextInt(6) == 0 ? 10 : Math.max(1, people);
            if (letter == 'p') {
                people++;
                text.append(random.nextInt(random.nextInt(5) == 0 ? 10 : 8)).append(random.nextInt(10));
            } else if (letter == 'l') {
                text.append(random.nextInt(10));
            } else if (letter == 'd') {
                text.append(random.nextInt(3)).append(random.nextInt(10));
            } else {
                text.append(random.nextInt(range)).append(random.nextInt(range));
                text.append(letter == 'f' ? String.valueOf(random.nextInt(10)) : "");
            }
            text.append(';');
        }
        if (random.nextInt(6) == 0) {
            text.setCharAt(random.nextInt(text.length()), "pfstld0;9:/ \u00ff".charAt(random.nextInt(13)));
        }
        if (random.nextInt(12) == 0) {
            text.setLength(random.nextInt(text.length() + 1));
        }
        return text.toString();
    }

    private void stepOfShelves() {
        int d = shelf();
        switch (random.nextInt(6)) {
            case 0:
            case 1:
                int what = near(0, 1);
                int k = near(0, 7);
                int figure = near(0, 9);
                due("keep", real.keep(d, what, k, figure), model.keep(d, what, k, figure), d, what, k, figure);
                break;
            case 2:
                int sort = near(0, 2);
                int n = near(0, random.nextInt(3) == 0 ? 100 : 7);
                due("row", real.row(d, sort, n), model.row(d, sort, n), d, sort, n);
                break;
            case 3:
            case 4:
                int i = near(0, 6);
                int v = random.nextInt(3) == 0 ? random.nextInt() : near(0, 9);
                due("put", real.put(d, i, v), model.put(d, i, v), d, i, v);
                break;
            default:
                int e = random.nextInt(3) == 0 ? d : shelf();
                int from = near(0, 6);
                int to = near(0, 6);
                int many = near(0, 4);
                due("copy", real.copy(d, from, e, to, many), model.copy(d, from, e, to, many), d, from, e, to, many);
                break;
        }
    }

    // ---- calls that only answer

    private void askWhoMay() {
        int p = someone();
        int q = someone();
        int what = near(0, 1);
        int i = near(-1, 6);
        due("fit", real.fit(q), model.fit(q), q);
        due("told", real.told(i), model.told(i), i);
        due("rings", real.rings(), model.rings());
        due("nobody", real.nobody(), model.nobody());
        due("swaps", real.swaps(what), model.swaps(what), what);
        due("lasts", real.lasts(p, q), model.lasts(p, q), p, q);
        due("soonest", real.soonest(q, what), model.soonest(q, what), q, what);
        due("hide", real.hide(q), model.hide(q), q);
        due("keeps", real.keeps(p, q), model.keeps(p, q), p, q);
        due("enough", real.enough(what), model.enough(what), what);
        due("loved", real.loved(what), model.loved(what), what);
        due("warmest", real.warmest(), model.warmest());
    }

    private void askCards() {
        int p = someone();
        int q = someone();
        int part = near(0, 1);
        int s = near(0, 10);
        int n = near(0, 12);
        due("orders", real.orders(q), model.orders(q), q);
        due("drawn", real.drawn(p, q, part), model.drawn(p, q, part), p, q, part);
        due("await", real.await(s, n, part), model.await(s, n, part), s, n, part);
        due("daysFor", real.daysFor(s), model.daysFor(s), s);
        due("ask", real.ask(q), model.ask(q), q);
        due("game", real.game(p, q), model.game(p, q), p, q);
    }

    /** Numbers that nearly fit: what some level shows, or what turnings make, with a slip now and then. */
    private void layRowThatNearlyFits(int q, int d) {
        int people = model.count(0);
        boolean turnings = random.nextBoolean();
        int n = turnings ? random.nextInt(12) : random.nextInt(people + 1);
        int sort = random.nextInt(3);
        real.row(d, sort, n);
        model.row(d, sort, n);
        int level = random.nextInt(10);
        for (int i = 0; i < n; i++) {
            int v = turnings ? turnedBehind(q, d, i, n) : Model.shows(model.person(i, 0), level);
            int slip = random.nextInt(12);
            v = slip == 0 ? v + 1 : slip == 1 ? -1 << (8 << sort) - 1 : v;
            real.put(d, i, v);
            model.put(d, i, v);
        }
    }

    /** What judge would take at place i: the model is asked with each number. */
    private int turnedBehind(int q, int d, int i, int n) {
        for (int v = 0; v < 10; v++) {
            model.put(d, i, v);
            int wrong = model.judge(q, d);
            if (wrong == -4 || wrong > i) {
                return v;
            }
        }
        return 9;
    }

    private void askRows() {
        int q = someone();
        int d = random.nextInt(8);
        if (random.nextInt(4) != 0) {
            layRowThatNearlyFits(q, d);
        } else {
            d = shelf();
        }
        int what = near(0, 1);
        int n = near(1, 20);
        int z = random.nextInt();
        due("blushes", real.blushes(q, d, what), model.blushes(q, d, what), q, d, what);
        due("forged", real.forged(q, d), model.forged(q, d), q, d);
        due("judge", real.judge(q, d), model.judge(q, d), q, d);
        due("months", real.months(n, z, what), model.months(n, z, what), n, z, what);
    }

    private void askImage() {
        int kind = random.nextInt(12);
        if (kind == 0) {
            due("image", real.image(), model.image());
        } else if (kind == 1) {
            due("restore", real.restore(), model.restore());
        }
        int d = shelf();
        int what = near(0, 5);
        due("count", real.count(what), model.count(what), what);
        due("cost", real.cost(d), model.cost(d), d);
        due("toss", real.toss(d), model.toss(d), d);
        int p = someone();
        due("person", real.person(p, what), model.person(p, what), p, what);
    }

    // ---- all that can be seen of a state, so that a refusal that changed something shows

    private void compareState(String where, boolean shelvesToo) {
        for (int what = 0; what < 6; what++) {
            Check.due(where + " count " + what, real.count(what), model.count(what));
        }
        for (int p = 0; p < model.count(0); p++) {
            for (int what = 0; what < 3; what++) {
                Check.due(where + " person " + p + " " + what, real.person(p, what), model.person(p, what));
            }
            for (int q = 0; q < model.count(0); q++) {
                Check.due(where + " fond " + p + " " + q, real.fond(p, q), model.fond(p, q));
            }
        }
        for (int d = 0; shelvesToo && d < 8; d++) {
            Check.due(where + " cost " + d, real.cost(d), model.cost(d));
            for (int i = -1; i <= 100; i++) {
                Check.due(where + " element " + d + " " + i, element(d, i), model.element(d, i));
            }
        }
    }

    private long element(int d, int i) {
        try {
            return real.element(d, i);
        } catch (IllegalArgumentException e) {
            return Model.NO_ARGUMENT;
        } catch (IllegalStateException e) {
            return Model.NO_STATE;
        }
    }
}

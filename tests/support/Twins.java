/** Two objects made alike, one of which a call is asked of: whether it changed anything shows in what both tell then. */
final class Twins {
    interface Call {
        long on(DealtByOpposite x);
    }

    interface Maker {
        DealtByOpposite make();
    }

    private Twins() {
    }

    /** The call is answered as is due, and changes nothing. */
    static void idle(Maker maker, String call, Call asked, long want) {
        DealtByOpposite x = maker.make();
        Sentence.due(call, asked.on(x), want);
        Check.holds(call + " changes nothing", all(x).equals(all(maker.make())));
    }

    /** All that an object tells of itself. It is of no more use then: rows are written and the image is restored. */
    static String all(DealtByOpposite x) {
        StringBuilder told = new StringBuilder();
        town(x, told);
        for (int d = 0; d < 8; d++) {
            told.append(" shelf ").append(x.cost(d)).append(' ').append(x.toss(d));
            row(x, d, told);
        }
        told.append(" image ").append(x.restore());
        town(x, told);
        return told.toString();
    }

    private static void town(DealtByOpposite x, StringBuilder told) {
        for (int what = 0; what < 6; what++) {
            told.append(' ').append(x.count(what));
        }
        for (int p = 0; p < x.count(0); p++) {
            told.append(" person");
            for (int what = 0; what < 3; what++) {
                told.append(' ').append(x.person(p, what));
            }
            for (int q = 0; q < x.count(0); q++) {
                told.append(' ').append(x.fond(p, q));
            }
        }
    }

    /** Elements, how many they are, and the sort by what is left of a great number. */
    private static void row(DealtByOpposite x, int d, StringBuilder told) {
        int size = 0;
        while (x.copy(d, size, d, size, 1) == 1) {
            told.append(' ').append(x.element(d, size));
            size++;
        }
        told.append(" of ").append(size).append(" puts ").append(x.put(d, 0, 0x12345678));
        told.append(size > 0 ? " sort of " + x.element(d, 0) : "");
    }
}

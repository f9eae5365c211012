/** Short ways to bring an object into a state. */
final class Towns {
    static final int TEXT_SHELF = 7;

    private Towns() {
    }

    /** A new object with the town of a text; the text may be empty. */
    static DealtByOpposite of(String text) {
        DealtByOpposite x = new DealtByOpposite();
        if (!text.isEmpty()) {
            int statements = tell(x, text);
            if (statements < 0) {
                throw new IllegalArgumentException("the test's own town has a fault: " + text + " " + statements);
            }
        }
        return x;
    }

    /** The answer of town for a text, which is put on shelf 7. */
    static int tell(DealtByOpposite x, String text) {
        x.row(TEXT_SHELF, 0, text.length());
        for (int i = 0; i < text.length(); i++) {
            x.put(TEXT_SHELF, i, text.charAt(i));
        }
        return x.town(TEXT_SHELF);
    }

    static void row(DealtByOpposite x, int d, int sort, int... numbers) {
        x.row(d, sort, numbers.length);
        for (int i = 0; i < numbers.length; i++) {
            x.put(d, i, numbers[i]);
        }
    }
}

/** Helps the tests: types whole texts, looks at the answers, and prints each one that is not as due. */
final class Probe {
    static final Class<?> NO_TEXT = IllegalArgumentException.class;
    static final Class<?> NOT_THERE = UnsupportedOperationException.class;
    static final Class<?> NO_TYPE = IllegalStateException.class;
    static final Class<?> NO_ROOM = IndexOutOfBoundsException.class;

    private final String test;
    private int looked;
    private int wrong;
    TypeFinder finder = new TypeFinder();

    Probe(String test) {
        this.test = test;
    }

    /** From here on a new object is looked at. */
    void anew() {
        finder = new TypeFinder();
    }

    /** The first eight characters of the text as type() takes them. */
    static long bytes(String text) {
        long s = 0;
        for (int i = Math.min(8, text.length()) - 1; i >= 0; i--) {
            s = s << 8 | text.charAt(i);
        }
        return s;
    }

    void typed(String text) {
        for (int i = 0; i < text.length(); i += 8) {
            String part = text.substring(i, Math.min(text.length(), i + 8));
            same("type of '" + part + "' in '" + text + "'", finder.type(bytes(part)), true);
        }
    }

    void same(String what, Object got, Object due) {
        looked++;
        if (!got.equals(due)) {
            wrong++;
            System.out.println(test + ": " + what + " answered " + got + ", due is " + due);
        }
    }

    /** What declare() answers, or the class that it throws. */
    Object declareAnswer(String text) {
        typed(text);
        try {
            return finder.declare();
        } catch (RuntimeException e) {
            return e.getClass();
        }
    }

    /** What ask() answers, or the class that it throws. */
    Object askAnswer(String text) {
        typed(text);
        try {
            return finder.ask();
        } catch (RuntimeException e) {
            return e.getClass();
        }
    }

    void declares(String text, int number) {
        same("declare '" + text + "'", declareAnswer(text), number);
    }

    /** Declares a name and looks at its type. */
    void declares(String text, int number, String type) {
        declares(text, number);
        scheme(number, type);
    }

    void declareThrows(String text, Class<?> due) {
        same("declare '" + text + "'", declareAnswer(text), due);
    }

    void asks(String text, String type) {
        same("ask '" + text + "'", askAnswer(text), type.length());
        same("what ask '" + text + "' wrote", written(), type);
    }

    void askThrows(String text, Class<?> due) {
        same("ask '" + text + "'", askAnswer(text), due);
    }

    void scheme(int number, String type) {
        same("scheme(" + number + ")", finder.scheme(number), type.length());
        same("what scheme(" + number + ") wrote", written(), type);
    }

    void matches(int open, int idle) {
        same("matches(0)", finder.matches(0), open);
        same("matches(1)", finder.matches(1), idle);
    }

    String written() {
        StringBuilder text = new StringBuilder();
        for (int i = 0; finder.written(i) != -1; i++) {
            text.append((char) finder.written(i));
        }
        return text.toString();
    }

    /** The text so many times in a row. */
    static String times(int n, String text) {
        return text.repeat(n);
    }

    void end() {
        System.out.println(test + ": " + looked + " answers looked at, " + wrong + " not as due");
        System.exit(wrong == 0 ? 0 : 1);
    }
}

import java.util.function.Consumer;

/** Helps the tests: types whole texts, looks at the answers, and prints each one that is not as due. */
final class Probe {
    static final Class<?> NO_TEXT = IllegalArgumentException.class;
    static final Class<?> NOT_THERE = UnsupportedOperationException.class;
    static final Class<?> NO_TYPE = IllegalStateException.class;
    static final Class<?> NO_ROOM = IndexOutOfBoundsException.class;
    // Nothing is promised of an object behind its 512th call, so no test may look at that.
    private static final int MOST_CALLS = 512;
    private static final int MOST_NAMES = 24;

    private final String test;
    private int looked;
    private int wrong;
    private int calls;
    private TypeFinder finder = new TypeFinder();
    private Consumer<Probe> setting = probe -> { };

    Probe(String test) {
        this.test = test;
    }

    /** From here on a new object is looked at. */
    void anew() {
        finder = new TypeFinder();
        calls = 0;
    }

    /** Each of the next calls of asked, askRefused, declared and declareRefused begins with a new object so prepared. */
    void given(Consumer<Probe> newSetting) {
        setting = newSetting;
    }

    /** The same, with these texts declared. */
    void given(String... texts) {
        given(probe -> {
            for (String text : texts) {
                probe.same("given '" + text + "'", probe.declareAnswer(text) instanceof Integer, true);
            }
        });
    }

    private void afresh() {
        anew();
        setting.accept(this);
    }

    int callsLeft() {
        return MOST_CALLS - calls;
    }

    private TypeFinder called() {
        calls++;
        if (calls == MOST_CALLS + 1) {
            same("calls of one object", calls, MOST_CALLS);
        }
        return finder;
    }

    boolean type(long s) {
        return called().type(s);
    }

    int scheme(int k) {
        return called().scheme(k);
    }

    int written(int i) {
        return called().written(i);
    }

    boolean infix(char c, int level, boolean right) {
        return called().infix(c, level, right);
    }

    int matches(int what) {
        return called().matches(what);
    }

    int count(int what) {
        return called().count(what);
    }

    /** The first eight characters of the text as type() takes them. */
    static long bytes(String text) {
        long s = 0;
        for (int i = Math.min(8, text.length()) - 1; i >= 0; i--) {
            s = s << 8 | text.charAt(i);
        }
        return s;
    }

    void typed(String text) {
        for (int i = 0; i < text.length(); i += 8) {
            String part = text.substring(i, Math.min(text.length(), i + 8));
            same("type of '" + part + "' in '" + text + "'", type(bytes(part)), true);
        }
    }

    void same(String what, Object got, Object due) {
        looked++;
        if (!got.equals(due)) {
            wrong++;
            System.out.println(test + ": " + what + " answered " + got + ", due is " + due);
        }
    }

    /** What declare() answers, or the class that it throws. */
    Object declareAnswer(String text) {
        typed(text);
        try {
            return called().declare();
        } catch (RuntimeException e) {
            return e.getClass();
        }
    }

    /** What ask() answers, or the class that it throws. */
    Object askAnswer(String text) {
        typed(text);
        try {
            return called().ask();
        } catch (RuntimeException e) {
            return e.getClass();
        }
    }

    void declares(String text, int number) {
        same("declare '" + text + "'", declareAnswer(text), number);
    }

    /** Declares a name and looks at its type. */
    void declares(String text, int number, String type) {
        declares(text, number);
        scheme(number, type);
    }

    void declareThrows(String text, Class<?> due) {
        same("declare '" + text + "'", declareAnswer(text), due);
    }

    void asks(String text, String type) {
        same("ask '" + text + "'", askAnswer(text), type.length());
        same("what ask '" + text + "' wrote", written(), type);
    }

    void askThrows(String text, Class<?> due) {
        same("ask '" + text + "'", askAnswer(text), due);
    }

    void scheme(int number, String type) {
        same("scheme(" + number + ")", scheme(number), type.length());
        same("what scheme(" + number + ") wrote", written(), type);
    }

    void matches(int open, int idle) {
        same("matches(0)", matches(0), open);
        same("matches(1)", matches(1), idle);
    }

    void counts(int names, int dataTypes) {
        same("names", count(0), names);
        same("data types", count(1), dataTypes);
    }

    String written() {
        StringBuilder text = new StringBuilder();
        int c = written(0);
        for (int i = 1; c != -1; i++) {
            text.append((char) c);
            c = written(i);
        }
        return text.toString();
    }

    /** The text so many times in a row. */
    static String times(int n, String text) {
        return text.repeat(n);
    }

    /** What is taken as a text may still be refused for its types: only that it is a text is looked at. */
    void askedAsText(String text) {
        afresh();
        same("'" + text + "' is a text", askAnswer(text) != NO_TEXT, true);
    }

    void asked(String text, String type) {
        afresh();
        asks(text, type);
    }

    void declared(String text, int number) {
        afresh();
        declares(text, number);
    }

    void declared(String text, int number, String type) {
        afresh();
        declares(text, number, type);
    }

    /** The text is refused; nothing but the draft is changed, and the next texts are taken. */
    void askRefused(String text, Class<?> due) {
        refused(text, due, false);
    }

    void declareRefused(String text, Class<?> due) {
        refused(text, due, true);
    }

    private void refused(String text, Class<?> due, boolean declared) {
        afresh();
        String schemes = schemes();
        // So that something is written, and matches has something to tell.
        asks("case (1, 2) of (x, _) -> (case x of 1 -> fn y -> y) | _ -> fn z -> z", "a -> a");
        matches(1, 1);
        String before = state();
        same((declared ? "declare '" : "ask '") + text + "'", declared ? declareAnswer(text) : askAnswer(text), due);
        same("what is behind the refused '" + text + "'", state(), before);
        asks("(1, True)", "(int, bool)");
        same("schemes behind the refused '" + text + "'", schemes(), schemes);
        int names = count(0);
        if (names < MOST_NAMES) {
            declares("next x = x", names, "a -> a");
        }
    }

    /** What is written, counted and matched. */
    String state() {
        StringBuilder all = new StringBuilder(written());
        for (int what = -1; what < 9; what++) {
            all.append(' ').append(count(what));
        }
        for (int what = -1; what < 3; what++) {
            all.append(' ').append(matches(what));
        }
        return all.toString();
    }

    /** How long each scheme is, and all of the few latest: for more there are too few calls. */
    private String schemes() {
        StringBuilder all = new StringBuilder();
        int names = count(0);
        for (int k = 0; k < names; k++) {
            all.append(scheme(k)).append(' ');
            if (k >= names - 3) {
                all.append(written()).append(' ');
            }
        }
        return all.toString();
    }

    void end() {
        System.out.println(test + ": " + looked + " answers looked at, " + wrong + " not as due");
        System.exit(wrong == 0 ? 0 : 1);
    }
}

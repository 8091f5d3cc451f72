/** Promise 2: type puts characters behind the draft. */
public final class Promise2TypeTest {
    public static void main(String[] args) {
        Probe probe = new Probe("promise 2");
        ordinary(probe);
        wrongBytes(probe);
        behindZero(probe);
        room(probe);
        probe.end();
    }

    private static boolean type(Probe probe, String text) {
        return probe.type(Probe.bytes(text));
    }

    private static void ordinary(Probe probe) {
        probe.anew();
        probe.same("eight at once", type(probe, "12345678"), true);
        probe.askThrows("", Probe.NO_TEXT);
        probe.same("one", type(probe, "1"), true);
        probe.same("two", type(probe, "23"), true);
        probe.same("a blank", type(probe, " "), true);
        probe.same("more", type(probe, "+ 4"), true);
        probe.asks("", "int");
        probe.same("the draft is empty then", type(probe, "(1,2)"), true);
        probe.asks("", "(int, int)");
    }

    private static void wrongBytes(Probe probe) {
        probe.anew();
        probe.typed("(1,");
        probe.same("zero", probe.type(0), false);
        probe.same("zero below", probe.type((long) '1' << 8), false);
        for (int c : new int[] {1, 9, 10, 31, 127, 128, 200, 255}) {
            probe.same("byte " + c, probe.type(c), false);
            probe.same("byte " + c + " behind others", probe.type('1' | (long) c << 8), false);
            probe.same("byte " + c + " as the eighth", probe.type(Probe.bytes("1111111") | (long) c << 56), false);
        }
        probe.same("all ones", probe.type(-1), false);
        probe.same("the lowest long", probe.type(Long.MIN_VALUE), false);
        // Nothing of what was refused stands in the draft.
        probe.asks("True)", "(int, bool)");
        probe.same("32 is taken", probe.type(32), true);
        probe.same("126 is taken", probe.type(126), true);
        probe.askThrows("", Probe.NO_TEXT);
    }

    private static void behindZero(Probe probe) {
        probe.anew();
        probe.same("letters behind zero", probe.type('1' | (long) 'x' << 16), true);
        probe.same("wrong bytes behind zero", probe.type('2' | 0xff01L << 16), true);
        probe.same("a wrong top byte behind zero", probe.type('3' | 0x80L << 56), true);
        probe.asks("", "int");
    }

    private static void room(Probe probe) {
        probe.anew();
        probe.typed(Probe.times(79, " "));
        probe.same("81 characters", type(probe, "12"), false);
        probe.same("87 characters", type(probe, "        "), false);
        probe.same("80 characters", type(probe, "1"), true);
        probe.same("one more", type(probe, " "), false);
        probe.asks("", "int");
        probe.typed(Probe.times(80, " "));
        probe.same("full", type(probe, " "), false);
        probe.askThrows("", Probe.NO_TEXT);
        probe.typed(Probe.times(72, " ") + "( 1, 2 )");
        probe.asks("", "(int, int)");
        probe.typed(Probe.times(73, " "));
        probe.same("eight that do not fit", type(probe, "11111111"), false);
        probe.same("seven that fit", type(probe, "(1, 2) "), true);
        probe.asks("", "(int, int)");
    }
}

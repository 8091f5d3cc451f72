/** Promise 7: infix gives operators their levels. */
public final class Promise7InfixTest {
    public static void main(String[] args) {
        Probe probe = new Probe("promise 7");
        refused(probe);
        levels(probe);
        sides(probe);
        functions(probe);
        probe.end();
    }

    private static void refused(Probe probe) {
        probe.anew();
        char[] none = {':', '=', '|', '(', ')', ',', '_', '>', 'a', 'A', '1', ' ', '!', 0, 255, 0x2b2b, Character.MAX_VALUE};
        for (char c : none) {
            probe.same("infix " + (int) c, probe.infix(c, 5, false), false);
            probe.same("infix " + (int) c, probe.infix(c, 5, true), false);
        }
        int[] wrong = {-1, 10, 100, Integer.MIN_VALUE, Integer.MAX_VALUE};
        for (int level : wrong) {
            probe.same("level " + level, probe.infix('^', level, false), false);
            probe.same("level " + level, probe.infix('+', level, true), false);
        }
        probe.askThrows("1 ^ 2", Probe.NO_TEXT);
        probe.asks("1 + 2 < 3", "bool");
        // What is refused leaves : as it was, right and 5.
        probe.asks("1 : 2 : Nil ? Nil", "bool");
    }

    private static void levels(Probe probe) {
        probe.anew();
        char[] operators = {'+', '-', '*', '/', '<', '?', '@', '^', '&'};
        for (char c : operators) {
            for (int level = 0; level <= 9; level++) {
                probe.same(c + " at " + level, probe.infix(c, level, level % 2 == 0), true);
            }
        }
        probe.anew();
        probe.declares("x @ y = (x, y)", 0);
        probe.declares("x ^ y = x : Nil", 1);
        probe.infix('@', 0, false);
        probe.infix('^', 9, false);
        probe.asks("1 @ 2 ^ 3", "(int, list int)");
        probe.asks("1 ^ 2 @ 3", "(list int, int)");
        probe.infix('@', 9, false);
        probe.infix('^', 8, false);
        probe.asks("1 @ 2 ^ 3", "list (int, int)");
        probe.asks("1 ^ 2 @ 3", "list int");
        // The levels hold as they are when the text is read, and for old operators, too.
        probe.infix('+', 3, false);
        probe.askThrows("1 + 2 < 3", Probe.NO_TYPE);
        probe.infix('<', 2, false);
        probe.asks("1 + 2 < 3", "bool");
    }

    private static void sides(Probe probe) {
        probe.anew();
        probe.declares("x @ y = (x, y)", 0);
        probe.infix('@', 4, false);
        probe.asks("1 @ 2 @ 3", "((int, int), int)");
        probe.infix('@', 4, true);
        probe.asks("1 @ 2 @ 3", "(int, (int, int))");
        probe.askThrows("1 @ 2 < 3", Probe.NO_TEXT);
        probe.askThrows("1 < 2 @ 3", Probe.NO_TEXT);
        probe.askThrows("1 < 2 + 5 @ 3", Probe.NO_TEXT);
        probe.infix('<', 4, true);
        probe.asks("1 @ 2 < 3", "(int, bool)");
        probe.infix('@', 5, true);
        probe.asks("1 @ 2 : Nil", "(int, list int)");
        probe.askThrows("1 : 2 @ Nil", Probe.NO_TYPE);
        probe.infix('@', 5, false);
        probe.askThrows("1 @ 2 : Nil", Probe.NO_TEXT);
        probe.askThrows("1 : 2 * 3 @ Nil", Probe.NO_TEXT);
        // Those with one between that binds later are no neighbours.
        probe.infix('&', 1, false);
        probe.declares("x & y = (x, y)", 1);
        probe.asks("1 @ 2 & 3 : Nil", "((int, int), list int)");
    }

    private static void functions(Probe probe) {
        probe.anew();
        probe.same("a level for ^", probe.infix('^', 5, false), true);
        probe.askThrows("1 ^ 2", Probe.NOT_THERE);
        probe.declares("x ^ y = x", 0, "a -> b -> a");
        probe.asks("1 ^ True", "int");
        probe.same("an old one", probe.infix('+', 0, true), true);
        probe.asks("1 + 2", "int");
        probe.same("names", probe.count(0), 1);
    }
}

/** Promise 5: scheme writes the type of a declared name. */
public final class Promise5SchemeTest {
    public static void main(String[] args) {
        Probe probe = new Probe("promise 5");
        probe.same("none at first", probe.scheme(0), -1);
        probe.declares("id x = x", 0);
        probe.same("declare writes nothing", probe.written(0), -1);
        probe.declares("data t a = A | B (a, (t a))", 102);
        probe.declares("eq x y = x ? y", 1);
        probe.declares("x ^ y = B (x, y)", 2);
        probe.declares("id = True", 3);
        probe.scheme(0, "a -> a");
        probe.scheme(1, "'a -> 'a -> bool");
        probe.scheme(2, "a -> t a -> t a");
        probe.scheme(3, "bool");
        probe.scheme(0, "a -> a");
        int[] none = {4, 24, 100, 102, -1, -2, Integer.MIN_VALUE, Integer.MAX_VALUE};
        for (int k : none) {
            probe.same("scheme(" + k + ")", probe.scheme(k), -1);
            probe.same("what was written stays", probe.written(), "a -> a");
        }
        probe.asks("id", "bool");
        probe.same("scheme(4)", probe.scheme(4), -1);
        probe.same("what was written stays", probe.written(), "bool");
        probe.declareThrows("z = 1 1", Probe.NO_TYPE);
        probe.same("what was refused has none", probe.scheme(4), -1);
        usesLeaveItAlone(probe);
        probe.end();
    }

    private static void usesLeaveItAlone(Probe probe) {
        probe.infix('^', 5, true);
        probe.asks("(1 ^ A, True ^ A)", "(t int, t bool)");
        probe.asks("eq (1, 2)", "(int, int) -> bool");
        probe.askThrows("eq eq", Probe.NO_TYPE);
        probe.scheme(1, "'a -> 'a -> bool");
        probe.asks("case A of B x -> 1 | A -> 2", "int");
        probe.askThrows("(eq 1 True, eq A A)", Probe.NO_TYPE);
        probe.scheme(2, "a -> t a -> t a");
    }
}

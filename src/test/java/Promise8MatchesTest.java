/** Promise 8: matches tells the open cases and the idle alternatives. */
public final class Promise8MatchesTest {
    public static void main(String[] args) {
        Probe probe = new Probe("promise 8");
        whats(probe);
        numbers(probe);
        pairsAndNames(probe);
        constructors(probe);
        several(probe);
        latest(probe);
        probe.end();
    }

    private static void cases(Probe probe, String alternatives, int open, int idle) {
        if (probe.askAnswer("fn x -> case x of " + alternatives) instanceof Class) {
            probe.same("case of " + alternatives, "refused", "taken");
        }
        probe.same("open: " + alternatives, probe.matches(0), open);
        probe.same("idle: " + alternatives, probe.matches(1), idle);
    }

    private static void whats(Probe probe) {
        probe.anew();
        probe.matches(0, 0);
        int[] none = {2, 3, -1, -2, Integer.MIN_VALUE, Integer.MAX_VALUE};
        for (int what : none) {
            probe.same("matches(" + what + ")", probe.matches(what), -1);
        }
    }

    private static void numbers(Probe probe) {
        probe.anew();
        cases(probe, "1 -> 1", 1, 0);
        cases(probe, "1 -> 1 | 2 -> 2", 1, 0);
        cases(probe, "1 -> 1 | 2 -> 2 | 1 -> 3", 1, 1);
        cases(probe, "7 -> 1 | 007 -> 2 | 70 -> 3", 1, 1);
        cases(probe, "7 -> 1 | _ -> 2", 0, 0);
        cases(probe, "7 -> 1 | y -> 2 | 8 -> 3 | _ -> 4", 0, 2);
        cases(probe, "y -> 1 | 7 -> 2", 0, 1);
        cases(probe, "0 -> 1 | 0 -> 2 | 0000 -> 3 | _ -> 4", 0, 2);
    }

    private static void pairsAndNames(Probe probe) {
        probe.anew();
        cases(probe, "y -> 1", 0, 0);
        cases(probe, "_ -> 1", 0, 0);
        cases(probe, "(a, b) -> 1", 0, 0);
        cases(probe, "(a, b) -> 1 | (_, _) -> 2", 0, 1);
        cases(probe, "(_, _) -> 1 | y -> 2 | _ -> 3", 0, 2);
        cases(probe, "_ -> 1 | _ -> 2", 0, 1);
    }

    private static void constructors(Probe probe) {
        probe.anew();
        cases(probe, "True -> 1", 1, 0);
        cases(probe, "True -> 1 | True -> 2", 1, 1);
        cases(probe, "True -> 1 | False -> 2", 0, 0);
        cases(probe, "True -> 1 | False -> 2 | _ -> 3", 0, 1);
        cases(probe, "True -> 1 | False -> 2 | True -> 3", 0, 1);
        cases(probe, "True -> 1 | y -> 2", 0, 0);
        cases(probe, "Nil -> 1", 1, 0);
        cases(probe, "a : b -> 1", 1, 0);
        cases(probe, "a : b -> 1 | _ : _ -> 2 | Nil -> 3 | Nil -> 4", 0, 2);
        probe.declares("data one = One int", 102);
        cases(probe, "One y -> 1", 0, 0);
        cases(probe, "One y -> 1 | _ -> 2", 0, 1);
        probe.declares("data four a = A | B | C a | D a a", 103);
        cases(probe, "A -> 1 | B -> 2 | C _ -> 3", 1, 0);
        cases(probe, "D _ _ -> 1 | C _ -> 2 | B -> 3 | A -> 4", 0, 0);
        cases(probe, "A -> 1 | A -> 2 | A -> 3 | A -> 4", 1, 3);
        cases(probe, "A -> 1 | B -> 2 | C _ -> 3 | C y -> 4", 1, 1);
        cases(probe, "A -> 1 | B -> 2 | _ -> 3 | C _ -> 4 | D _ _ -> 5", 0, 2);
    }

    private static void several(Probe probe) {
        probe.anew();
        probe.asks("(case 1 of 1 -> 1, case 2 of 2 -> 2 | 2 -> 3)", "(int, int)");
        probe.matches(2, 1);
        probe.asks("case (case 1 of 1 -> 1) of 1 -> (case 2 of 2 -> 2) | 1 -> 1", "int");
        probe.matches(3, 1);
        probe.declares("f x = let g y = case y of 1 -> 1 in g (case x of True -> 1)", 0, "bool -> int");
        probe.matches(2, 0);
        probe.declares("x + y = case x of 1 -> y", 1);
        probe.matches(1, 0);
        // A use is no match of its own.
        probe.asks("f True", "int");
        probe.matches(0, 0);
    }

    private static void latest(Probe probe) {
        probe.anew();
        probe.asks("case 1 of 1 -> 1 | 1 -> 2", "int");
        probe.matches(1, 1);
        probe.askThrows("case 1 of 1 ->", Probe.NO_TEXT);
        probe.askThrows("case 1 of 1 -> 1 | 2 -> y", Probe.NOT_THERE);
        probe.declareThrows("x = (case 1 of 1 -> 1, case 1 of 1 -> True | 2 -> 1)", Probe.NO_TYPE);
        probe.declareThrows("data t = True", Probe.NOT_THERE);
        probe.matches(1, 1);
        probe.declares("x = (case 1 of 1 -> 1, case 1 of 1 -> 1)", 0);
        probe.matches(2, 0);
        probe.declares("data t = A", 102);
        probe.matches(0, 0);
        probe.asks("case A of _ -> 1 | A -> 2", "int");
        probe.matches(0, 1);
        probe.scheme(0);
        probe.matches(0, 1);
        probe.declares("y = 1", 1);
        probe.matches(0, 0);
    }
}

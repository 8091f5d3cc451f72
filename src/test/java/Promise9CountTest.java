/** Promise 9: count tells names, data types, and which of these allow to be compared. */
public final class Promise9CountTest {
    public static void main(String[] args) {
        Probe probe = new Probe("promise 9");
        counts(probe);
        whats(probe);
        allowing(probe);
        parameters(probe);
        probe.end();
    }

    private static void counts(Probe probe) {
        probe.anew();
        probe.same("names", probe.count(0), 0);
        probe.same("data types", probe.count(1), 2);
        probe.declares("x = 1", 0);
        probe.declares("x = 1", 1);
        probe.declares("x + y = 1", 2);
        probe.same("names", probe.count(0), 3);
        probe.same("data types", probe.count(1), 2);
        probe.declares("data t = A", 102);
        probe.same("names", probe.count(0), 3);
        probe.same("data types", probe.count(1), 3);
        probe.asks("let y = 1 in y", "int");
        probe.declareThrows("y = z", Probe.NOT_THERE);
        probe.same("names", probe.count(0), 3);
    }

    private static void whats(Probe probe) {
        probe.anew();
        int[] none = {-1, -2, -100, 4, 5, 8, 100, Integer.MIN_VALUE, Integer.MIN_VALUE + 1, Integer.MAX_VALUE};
        for (int what : none) {
            probe.same("count(" + what + ")", probe.count(what), -1);
        }
        probe.declares("data t = A", 102);
        probe.same("count(4)", probe.count(4), 1);
        probe.same("count(5)", probe.count(5), -1);
    }

    private static void allows(Probe probe, String declaration, int due) {
        int number = probe.count(1);
        if (number >= 6) {
            probe.anew();
            number = 2;
        }
        probe.declares(declaration, 100 + number);
        probe.same("allowed: " + declaration, probe.count(2 + number), due);
    }

    private static void allowing(Probe probe) {
        probe.anew();
        probe.same("bool", probe.count(2), 1);
        probe.same("list", probe.count(3), 1);
        allows(probe, "data t a = A | B a int | C (a, bool) (list a)", 1);
        allows(probe, "data u a = D (t a) (u (u a))", 1);
        allows(probe, "data v a = E | F (a -> a)", 0);
        allows(probe, "data w = G (v int)", 0);
        probe.anew();
        allows(probe, "data t = A (list (int, (int -> int)))", 0);
        allows(probe, "data u = B (list t) | C", 0);
        allows(probe, "data v = D v | E (v, (list v))", 1);
        allows(probe, "data w a = F (w (a -> a))", 0);
        probe.anew();
        allows(probe, "data t = A | B int int | C bool | D (int -> int)", 0);
        allows(probe, "data p a b = P", 1);
        allows(probe, "data q = Q (p t int)", 0);
        allows(probe, "data r a = R (p a (r a))", 1);
        // What was refused does not bar the next one.
        probe.anew();
        probe.declareThrows("data t = A (int -> int) | B y", Probe.NOT_THERE);
        allows(probe, "data t = A", 1);
    }

    private static void parameters(Probe probe) {
        probe.anew();
        probe.declares("data p a = P", 102);
        probe.declares("eq x y = x ? y", 0);
        // The data type allows it, but its types must be comparable as well.
        probe.asks("eq (if True then P else P)", "p 'a -> bool");
        probe.declares("f x = case x of P -> fn y -> y", 1, "p a -> b -> b");
        probe.declares("data q a = Q a (p a)", 103);
        probe.askThrows("eq (Q f P)", Probe.NO_TYPE);
        probe.askThrows("fn x -> eq (Q (fn y -> y) x)", Probe.NO_TYPE);
        probe.asks("fn x -> eq (Q 1 x)", "p int -> q int -> bool");
        probe.declares("data n = N (n -> n) | M", 104);
        probe.askThrows("M ? M", Probe.NO_TYPE);
        probe.askThrows("fn x -> (x ? x, case x of M -> 1 | _ -> 2)", Probe.NO_TYPE);
        probe.askThrows("fn x -> case x of M -> x ? x | _ -> True", Probe.NO_TYPE);
    }
}

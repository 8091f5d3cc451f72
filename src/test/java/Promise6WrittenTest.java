/** Promise 6: how a type is written, character by character. */
public final class Promise6WrittenTest {
    public static void main(String[] args) {
        Probe probe = new Probe("promise 6");
        places(probe);
        forms(probe);
        variables(probe);
        whatIsLatest(probe);
        probe.end();
    }

    private static void places(Probe probe) {
        probe.anew();
        probe.same("nothing yet", probe.written(0), -1);
        probe.asks("1", "int");
        probe.same("written(0)", probe.written(0), (int) 'i');
        probe.same("written(2)", probe.written(2), (int) 't');
        int[] none = {3, 4, 100, -1, Integer.MIN_VALUE, Integer.MAX_VALUE};
        for (int i : none) {
            probe.same("written(" + i + ")", probe.written(i), -1);
        }
        probe.asks("(1, fn x -> x)", "(int, a -> a)");
        probe.asks("True", "bool");
        probe.same("nothing of the longer one stays", probe.written(4), -1);
    }

    private static void forms(Probe probe) {
        probe.anew();
        probe.asks("fn x -> fn y -> 1", "a -> b -> int");
        probe.asks("fn f -> f 1 + 1", "(int -> int) -> int");
        probe.asks("fn f -> fn g -> f g (g 1) + 1", "((int -> a) -> a -> int) -> (int -> a) -> int");
        probe.asks("(1, (True, fn x -> x))", "(int, (bool, a -> a))");
        probe.asks("fn x -> (x, 1) : Nil", "a -> list (a, int)");
        probe.asks("(fn x -> x + 1) : Nil", "list (int -> int)");
        probe.asks("(1 : Nil) : Nil", "list (list int)");
        probe.asks("True : Nil", "list bool");
        probe.asks("fn x -> case x of y : _ -> y + 1", "list int -> int");
        probe.declares("data abcdef a b = A a b", 102);
        probe.asks("A 1 True", "abcdef int bool");
        probe.asks("A (A 1 2) (1 : Nil)", "abcdef (abcdef int int) (list int)");
        probe.asks("A (fn x -> x) (1, 2)", "abcdef (a -> a) (int, int)");
        probe.asks("fn x -> A x", "a -> b -> abcdef a b");
        probe.declares("data q = Q", 103);
        probe.asks("A Q (Q : Nil)", "abcdef q (list q)");
        probe.asks("fn f -> (f : Nil, f Q)", "(q -> a) -> (list (q -> a), a)");
    }

    private static void variables(Probe probe) {
        probe.anew();
        probe.asks("fn x -> fn y -> fn z -> (z, (y, x))", "a -> b -> c -> (c, (b, a))");
        probe.asks("fn x -> fn y -> fn z -> y ? z", "a -> 'b -> 'b -> bool");
        probe.asks("fn x -> fn y -> (x ? x, y ? y)", "'a -> 'b -> (bool, bool)");
        probe.asks("fn x -> (x : Nil) ? Nil", "'a -> bool");
        // Variables that are not general are written, too.
        probe.asks("(fn x -> x) Nil", "list a");
        probe.asks("(Nil, (Nil, Nil))", "(list a, (list b, list c))");
        probe.asks("fn a->fn b->fn c->fn d->fn e->fn f->fn g->fn h->fn i->fn j->fn k->k",
                "a -> b -> c -> d -> e -> f -> g -> h -> i -> j -> k -> k");
        probe.asks("fn a->fn b->fn c->fn d->fn e->fn f->fn g->fn h->fn i->fn j->fn k->Nil",
                "a -> b -> c -> d -> e -> f -> g -> h -> i -> j -> k -> list l");
    }

    private static void whatIsLatest(Probe probe) {
        probe.anew();
        probe.declares("f x = x + 1", 0);
        probe.asks("True", "bool");
        probe.declares("g x = x", 1);
        probe.same("declare writes nothing", probe.written(), "bool");
        probe.askThrows("1 1", Probe.NO_TYPE);
        probe.same("what is refused writes nothing", probe.written(), "bool");
        probe.scheme(0, "int -> int");
        probe.type('1');
        probe.infix('^', 1, true);
        probe.matches(0);
        probe.count(0);
        probe.same("the others write nothing", probe.written(), "int -> int");
    }
}

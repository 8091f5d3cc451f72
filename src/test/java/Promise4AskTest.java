/** Promise 4: the types that ask() finds, and what it refuses. */
public final class Promise4AskTest {
    public static void main(String[] args) {
        Probe probe = new Probe("promise 4");
        texts(probe);
        noTexts(probe);
        depths(probe);
        plainParts(probe);
        lets(probe);
        cases(probe);
        patterns(probe);
        comparable(probe);
        unifying(probe);
        chains(probe);
        sizes(probe);
        probe.end();
    }

    private static void texts(Probe probe) {
        probe.anew();
        probe.asks("1", "int");
        probe.asks("  9999  ", "int");
        probe.asks("((1),(2))", "(int, int)");
        probe.asks("fn x->x", "a -> a");
        probe.asks("fn f->f1", "(int -> a) -> a");
        probe.asks("fn f->f(1)Nil True", "(int -> list a -> bool -> b) -> b");
        probe.asks("if True then fn x -> x else fn y -> y + 1", "int -> int");
        probe.asks("fn x->fn x->x", "a -> b -> b");
        // The first four go on as far as they can.
        probe.asks("fn x -> x + 1", "int -> int");
        probe.asks("let x = 1 in x + 2", "int");
        probe.asks("case 1 of 1 -> case 2 of 2 -> 3 | _ -> 4", "int");
        probe.matches(1, 0);
        probe.asks("case 1 of 1 -> (case 2 of 2 -> 3) | _ -> 4", "int");
        probe.matches(1, 0);
        probe.asks("1-1", "int");
        probe.asks("1+1+1+1+1+1+1+1+1+1+1+1", "int");
        // So deep it is a text, but its type is too great.
        probe.askThrows(Probe.times(12, "fn x->") + "1", Probe.NO_TYPE);
    }

    private static void noTexts(Probe probe) {
        probe.anew();
        String[] texts = {"", "   ", "()", "(1", "1)", "(1,2,3)", "(,1)", "1 +", "+ 1", "1 + + 1", "fn", "fn x", "fn x ->",
            "fn 1 -> 1", "fn _ -> 1", "fn X -> 1", "fn x y -> 1", "let x = 1", "let x = 1 in", "let = 1 in 1",
            "let 1 = 1 in 1", "if True then 1", "if True else 1", "if True then 1 else", "case 1 of",
            "case 1 of 1", "case of 1 -> 1", "case 1 of 1 -> 1 |", "case 1 of | 1 -> 1", "1 + fn x -> x",
            "1 fn x -> x", "x = 1", "data t = A", "_", "1 _", "int", "1 -> 2", "1 > 2", "1 # 2", "1 = 2", "a'b"};
        for (String text : texts) {
            probe.anew();
            probe.askThrows(text, Probe.NO_TEXT);
        }
        probe.anew();
        probe.askThrows(Probe.times(13, "(") + "1" + Probe.times(13, ")"), Probe.NO_TEXT);
        probe.askThrows(Probe.times(13, "fn x->") + "1", Probe.NO_TEXT);
        probe.askThrows("1+1+1+1+1+1+1+1+1+1+1+1+1", Probe.NO_TEXT);
        probe.askThrows("1 @ 2", Probe.NO_TEXT);
        probe.askThrows("abcdefg", Probe.NO_TEXT);
        probe.askThrows("12345", Probe.NO_TEXT);
        probe.askThrows("aB", Probe.NO_TEXT);
        probe.askThrows("AB", Probe.NO_TEXT);
        probe.askThrows("(1, 1 2", Probe.NO_TEXT);
        String[] patterns = {"(x)", "(x,x)", "(1,x)", "x:x", "1:x", "x:1", "A 1", "x y", "(x,y,z)", "x+y", "x:y:z",
            "A x x", "(A)", "(x:y)", "", "-1"};
        for (String pattern : patterns) {
            probe.askThrows("case 1 of " + pattern + " -> 1", Probe.NO_TEXT);
        }
    }

    /** The place marked # lies 12 deep, so that brackets there are one too many. */
    private static void depths(Probe probe) {
        String[] forms = {"fn x->#", "let x=# in 1", "let x=1 in #", "let x y=# in 1", "if # then 1 else 1",
            "if True then # else 1", "if True then 1 else #", "case # of _->1", "case 1 of _->#", "case 1 of 1->1|_->#",
            "(#)", "(#,1)", "(1,#)", "1+(#)", "1+(#,1)", "Nil (#)"};
        for (String form : forms) {
            probe.anew();
            String text = Probe.times(11, "(") + form + Probe.times(11, ")");
            Object answer = probe.askAnswer(text.replace("#", "True"));
            probe.same(text + " is a text", answer != Probe.NO_TEXT, true);
            probe.askThrows(text.replace("#", "(True)"), Probe.NO_TEXT);
        }
    }

    private static void plainParts(Probe probe) {
        probe.anew();
        probe.askThrows("x", Probe.NOT_THERE);
        probe.askThrows("X", Probe.NOT_THERE);
        probe.askThrows("1 1", Probe.NO_TYPE);
        probe.askThrows("True 1", Probe.NO_TYPE);
        probe.askThrows("if 1 then 2 else 3", Probe.NO_TYPE);
        probe.askThrows("if True then 2 else False", Probe.NO_TYPE);
        probe.askThrows("1 + True", Probe.NO_TYPE);
        probe.askThrows("1 : 2", Probe.NO_TYPE);
        probe.askThrows("1 : True : Nil", Probe.NO_TYPE);
        probe.asks("fn f -> fn g -> fn x -> f (g x)", "(a -> b) -> (c -> a) -> c -> b");
        probe.asks("fn x -> fn y -> fn z -> x z (y z)", "(a -> b -> c) -> (a -> b) -> a -> c");
        // The name that is latest defined is meant; behind fn it is gone again.
        probe.asks("fn x -> ((fn x -> x + 1) 2, if x then 1 else 2)", "bool -> (int, int)");
        probe.askThrows("(fn x -> x, x)", Probe.NOT_THERE);
        probe.askThrows("(let x = 1 in x, x)", Probe.NOT_THERE);
        probe.askThrows("(case 1 of x -> x, x)", Probe.NOT_THERE);
        probe.askThrows("let f x = x in x", Probe.NOT_THERE);
        probe.asks("Nil", "list a");
        probe.asks("(fn x -> x) Nil", "list a");
        probe.asks("(fn x -> x) (fn x -> x)", "a -> a");
    }

    private static void lets(Probe probe) {
        probe.anew();
        probe.asks("let i = fn x -> x in (i 1, i True)", "(int, bool)");
        probe.asks("let i x = x in (i 1, i True)", "(int, bool)");
        probe.askThrows("fn i -> (i 1, i True)", Probe.NO_TYPE);
        probe.askThrows("let i = (fn x -> x) (fn x -> x) in (i 1, i True)", Probe.NO_TYPE);
        probe.asks("let i = (fn x -> x) (fn x -> x) in (i 1, i 2)", "(int, int)");
        probe.asks("let n = Nil in (1 : n, True : n)", "(list int, list bool)");
        probe.askThrows("let n = Nil : Nil in (((1 : Nil) : n), (True : Nil) : n)", Probe.NO_TYPE);
        // What stands in the type of a name that is there is not general, hidden or not.
        probe.askThrows("fn x -> let y = x in (y 1, y True)", Probe.NO_TYPE);
        probe.asks("fn x -> let y = x in (y 1, y 2)", "(int -> a) -> (a, a)");
        probe.asks("fn x -> let y z = (x, z) in (y 1, y True)", "a -> ((a, int), (a, bool))");
        probe.askThrows("fn x -> let y = fn z -> x in (y 1 + 1, if y 1 then 1 else 2)", Probe.NO_TYPE);
        probe.askThrows("fn x -> let y = x in let x = 1 in let z = y in (z 1, z True)", Probe.NO_TYPE);
        probe.askThrows("fn x -> fn y -> let z = (x, y) in case z of (a, _) -> (a 1, a True)", Probe.NO_TYPE);
        probe.askThrows("let x = x in 1", Probe.NOT_THERE);
        probe.asks("let x = 1 in let x = (x, x) in x", "(int, int)");
        probe.asks("let f x = if x < 1 then 0 else f (x - 1) in f", "int -> int");
        probe.askThrows("let f x = (f 1, f True) in 1", Probe.NO_TYPE);
        probe.asks("let f x y = f y x in f", "a -> a -> b");
        probe.asks("let p = (fn x -> x, Nil) in case p of (i, n) -> i n", "list a");
    }

    private static void cases(Probe probe) {
        probe.anew();
        probe.asks("fn x -> case x of 1 -> True | _ -> False", "int -> bool");
        probe.askThrows("case True of 1 -> 1", Probe.NO_TYPE);
        probe.askThrows("case 1 of 1 -> 1 | 2 -> True", Probe.NO_TYPE);
        probe.askThrows("case 1 of 1 -> 1 | True -> 1", Probe.NO_TYPE);
        probe.asks("fn x -> case x of (a, b) -> (b, a)", "(a, b) -> (b, a)");
        probe.asks("fn x -> case x of a : b -> (a, b)", "list a -> (a, list a)");
        probe.asks("fn x -> case x of y -> y", "a -> a");
        probe.askThrows("case fn x -> x of i -> (i 1, i True)", Probe.NO_TYPE);
        probe.asks("fn x -> case x of True -> 1 | y -> if y then 1 else 2", "bool -> int");
        probe.asks("case Nil of Nil -> Nil | x : _ -> x + 1 : Nil", "list int");
    }

    private static void patterns(Probe probe) {
        probe.anew();
        probe.declares("data t a b = A | B a | C b (t a b)", 102);
        probe.asks("fn x -> case x of B y -> y", "t a b -> a");
        probe.asks("fn x -> case x of C y z -> (y, z)", "t a b -> (b, t a b)");
        probe.asks("fn x -> case x of C _ _ -> 1 | A -> 2 | B _ -> 3", "t a b -> int");
        probe.asks("fn x -> case x of _ -> 1", "a -> int");
        probe.asks("fn x -> case x of (_, _) -> 1", "(a, b) -> int");
        probe.askThrows("case A of D -> 1", Probe.NOT_THERE);
        probe.askThrows("case A of A x -> 1", Probe.NOT_THERE);
        probe.askThrows("case A of B -> 1", Probe.NOT_THERE);
        probe.askThrows("case A of C x -> 1", Probe.NOT_THERE);
        probe.askThrows("case A of C x y z -> 1", Probe.NOT_THERE);
        probe.askThrows("case A of _ -> _", Probe.NO_TEXT);
        probe.askThrows("case A of True -> 1", Probe.NO_TYPE);
        probe.asks("case C 1 A of C x y -> 1", "int");
    }

    private static void comparable(Probe probe) {
        probe.anew();
        probe.asks("fn x -> fn y -> (x, 1) ? (y, 2)", "'a -> 'a -> bool");
        probe.asks("(1 : Nil) ? Nil", "bool");
        probe.asks("fn x -> (x : Nil) ? Nil", "'a -> bool");
        probe.askThrows("(fn x -> x) ? (fn x -> x)", Probe.NO_TYPE);
        probe.askThrows("fn f -> (f ? f, f 1)", Probe.NO_TYPE);
        probe.askThrows("fn f -> (f 1, f ? f)", Probe.NO_TYPE);
        probe.askThrows("fn f -> ((1, f) ? (1, f), f 1)", Probe.NO_TYPE);
        probe.askThrows("(fn x -> x) : Nil ? Nil", Probe.NO_TYPE);
        probe.asks("fn x -> fn y -> let z = x ? y in y", "'a -> 'a -> 'a");
        probe.declares("eq x y = x ? y", 0, "'a -> 'a -> bool");
        probe.asks("eq Nil", "list 'a -> bool");
        probe.askThrows("eq eq", Probe.NO_TYPE);
        probe.asks("fn x -> fn y -> eq (x, y)", "'a -> 'b -> ('a, 'b) -> bool");
        probe.declares("data f = F (int -> int) | G", 102);
        probe.askThrows("G ? G", Probe.NO_TYPE);
        probe.askThrows("eq (Nil, G : Nil)", Probe.NO_TYPE);
        probe.declares("data p a = P", 103);
        probe.asks("eq P", "p 'a -> bool");
        probe.askThrows("(fn x -> case x of P -> x ? x) (if True then P else P) ? G", Probe.NO_TYPE);
    }

    private static void unifying(Probe probe) {
        probe.anew();
        probe.askThrows("fn x -> x x", Probe.NO_TYPE);
        probe.askThrows("fn x -> if True then x else (x, x)", Probe.NO_TYPE);
        probe.askThrows("fn x -> x : x", Probe.NO_TYPE);
        probe.askThrows("fn x -> fn y -> (if True then x else (y, 1), if True then y else (x, 1))", Probe.NO_TYPE);
        probe.asks("fn x -> fn y -> if True then (x, y) else (y, x)", "a -> a -> (a, a)");
        probe.asks("fn x -> if True then x else x", "a -> a");
        probe.asks("fn f -> fn x -> if True then f x else x", "(a -> a) -> a -> a");
    }

    private static void chains(Probe probe) {
        probe.anew();
        probe.declares("x @ y = (x, y)", 0);
        probe.declares("x ^ y = (x, y)", 1);
        probe.infix('@', 3, false);
        probe.infix('^', 3, true);
        probe.asks("1 @ True @ 2", "((int, bool), int)");
        probe.asks("1 ^ True ^ 2", "(int, (bool, int))");
        probe.askThrows("1 ^ True @ 2", Probe.NO_TEXT);
        probe.askThrows("1 @ True ^ 2", Probe.NO_TEXT);
        // Neighbours are also those with only such between as bind ahead of both.
        probe.askThrows("1 @ 2 + 3 ^ 4", Probe.NO_TEXT);
        probe.infix('&', 2, false);
        probe.declares("x & y = (x, y)", 2);
        probe.asks("1 @ 2 & 3 ^ 4", "((int, int), (int, int))");
        probe.asks("1 + 2 @ 3 < 4 & 5", "((int, bool), int)");
        probe.asks("(1 ^ True) @ 2", "((int, bool), int)");
        probe.askThrows("1 : Nil ^ 2 @ 3", Probe.NO_TEXT);
        probe.asks("1 : Nil ^ 2 + 3 : Nil", "(list int, list int)");
        probe.infix('+', 5, false);
        probe.askThrows("1 + 2 : Nil", Probe.NO_TEXT);
        probe.infix('+', 5, true);
        probe.askThrows("1 + 2 : Nil", Probe.NO_TYPE);
        probe.asks("1 : Nil", "list int");
    }

    private static void sizes(Probe probe) {
        probe.anew();
        probe.asks("fn a->fn b->fn c->fn d->fn e->fn f->fn g->fn h->fn i->fn j->fn k->1",
                "a -> b -> c -> d -> e -> f -> g -> h -> i -> j -> k -> int");
        probe.asks("(1,(1,(1,(1,(1,(1,(1,(1,(1,(1,(1,1)))))))))))",
                "(int, (int, (int, (int, (int, (int, (int, (int, (int, (int, (int, int)))))))))))");
        probe.asks("(1,(1,(1,(1,(1,(1,(1,(1,(1,(1,(1:Nil,1)))))))))))",
                "(int, (int, (int, (int, (int, (int, (int, (int, (int, (int, (list int, int)))))))))))");
        probe.askThrows("(1,(1,(1,(1,(1,(1,(1,(1,(1,(1,(1:Nil,1:Nil)))))))))))", Probe.NO_TYPE);
        probe.askThrows("(1,(1,(1,(1,(1,(1,(1,(1,(1,(1,(1,(1,1))))))))))))", Probe.NO_TYPE);
        probe.declares("p = (1, 1)", 0);
        probe.declares("p = (p, p)", 1);
        probe.declares("p = (p, p)", 2);
        probe.declares("any x = any x", 3, "a -> b");
        // A name's type may grow beyond 24 as long as the name is not used then.
        probe.asks("case any 1 of x -> case x of (a, b) -> (a ? p, b ? p)", "(bool, bool)");
        probe.asks("case any 1 of x -> case x of (a, b) -> (x ? x, a ? p)", "(bool, bool)");
        probe.askThrows("case any 1 of x -> case x of (a, b) -> (a ? p, (b ? p, x ? x))", Probe.NO_TYPE);
        probe.askThrows("fn x -> case x of (a, b) -> (a ? p, b ? p)", Probe.NO_TYPE);
        probe.asks("(fn x -> 1) (fn x -> p)", "int");
        probe.askThrows("(fn x -> 1) (fn x -> (p, p))", Probe.NO_TYPE);
    }
}

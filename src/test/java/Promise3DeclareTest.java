/** Promise 3: the numbers and types that declare() gives, and what it refuses. */
public final class Promise3DeclareTest {
    public static void main(String[] args) {
        Probe probe = new Probe("promise 3, declarations");
        numbers(probe);
        functions(probe);
        values(probe);
        operators(probe);
        dataTypes(probe);
        dataTypesRefused(probe);
        rooms(probe);
        sizes(probe);
        order(probe);
        refusedChangesNothing(probe);
        givenUp(probe);
        probe.end();
    }

    private static void numbers(Probe probe) {
        probe.anew();
        probe.declares("x = 1", 0, "int");
        probe.declares("y = True", 1, "bool");
        probe.declares("data t = A", 102);
        probe.declares("x = y", 2, "bool");
        probe.scheme(0, "int");
        probe.asks("x", "bool");
        probe.declares("data u = B t", 103);
        probe.declares("z = x", 3, "bool");
        probe.same("names", probe.count(0), 4);
        probe.same("data types", probe.count(1), 4);
    }

    private static void functions(Probe probe) {
        probe.anew();
        probe.declares("id x = x", 0, "a -> a");
        probe.declares("map f l = case l of Nil -> Nil | x : r -> f x : map f r", 1,
                "(a -> b) -> list a -> list b");
        probe.declares("loop x = loop x", 2, "a -> b");
        probe.declares("len l = case l of Nil -> 0 | _ : r -> 1 + len r", 3, "list a -> int");
        probe.asks("(id 1, id True)", "(int, bool)");
        // A function that calls itself has one type within.
        probe.declareThrows("f x = (f 1, f True)", Probe.NO_TYPE);
        probe.declareThrows("f x = f", Probe.NO_TYPE);
        probe.declareThrows("f x = x x", Probe.NO_TYPE);
        // A definition without arguments does not see itself, but what was there before.
        probe.declareThrows("g = g", Probe.NOT_THERE);
        probe.declares("id = (id, 1)", 4, "(a -> a, int)");
        // What was declared with an older name keeps its type.
        probe.scheme(0, "a -> a");
        probe.declares("k x y = let f z = (x, z) in (f y, f 1)", 5, "a -> b -> ((a, b), (a, int))");
    }

    private static void values(Probe probe) {
        probe.anew();
        probe.declares("id x = x", 0, "a -> a");
        probe.declares("a = Nil", 1, "list a");
        probe.declares("b = fn x -> x", 2, "a -> a");
        probe.declares("c = (Nil, (id, 1))", 3, "(list a, (b -> b, int))");
        probe.declares("d = ((Nil))", 4, "list a");
        probe.declares("e = id", 5, "a -> a");
        probe.declares("data t a = A | B a (t a)", 102);
        probe.declares("f = B Nil (B Nil A)", 6, "t (list a)");
        probe.declares("g = (B Nil) A", 7, "t (list a)");
        probe.declares("h = B", 8, "a -> t a -> t a");
        probe.declares("i = B Nil", 9, "t (list a) -> t (list a)");
        String[] noValues = {"id Nil", "Nil : Nil", "if True then Nil else Nil", "let x = 1 in Nil",
            "case 1 of _ -> Nil", "(1, id Nil)", "B (id Nil) A", "B Nil (id A)", "(id B) Nil", "id id"};
        for (String text : noValues) {
            probe.declareThrows("x = " + text, Probe.NO_TYPE);
        }
        // One that is no value may be declared if its type has no variable.
        probe.declares("x = id 1", 10, "int");
        probe.declares("x = id (1 : Nil)", 11, "list int");
        probe.declares("x y = id Nil", 12, "a -> list b");
    }

    private static void operators(Probe probe) {
        probe.anew();
        probe.declares("x ? y = (x, y)", 0, "a -> b -> (a, b)");
        probe.asks("1 ? True", "(int, bool)");
        probe.declares("x + y = if x < 1 then y else x - 1 + y", 1, "int -> a -> a");
        // The operator's function may call itself, at one type.
        probe.declares("x @ y = 1", 2, "a -> b -> int");
        probe.infix('@', 4, true);
        probe.declares("x @ y = if True then x else y @ x", 3, "a -> a -> a");
        probe.declareThrows("x @ y = (1 @ 2, True @ False)", Probe.NO_TYPE);
        probe.declares("x - y = x @ y", 4, "a -> a -> a");
        probe.infix('^', 4, true);
        probe.askThrows("1 ^ 2", Probe.NOT_THERE);
        probe.declareThrows("x : y = 1", Probe.NOT_THERE);
        probe.declareThrows("x : y = z", Probe.NOT_THERE);
        probe.same("names", probe.count(0), 5);
    }

    private static void dataTypes(Probe probe) {
        probe.anew();
        probe.declares("data opt a = None | Some a", 102);
        probe.asks("Some", "a -> opt a");
        probe.declares("data tree a b = Leaf b | Node (tree a b) (tree a b)", 103);
        probe.asks("Node (Leaf 1)", "tree a int -> tree a int");
        // A parameter may have the declared word: alone it is the parameter.
        probe.declares("data t t = T t (t int) | U", 104);
        probe.asks("T", "a -> t int -> t a");
        probe.declares("data u list = V list (list list)", 105);
        probe.asks("V", "a -> list a -> u a");
        probe.same("data types", probe.count(1), 6);
        probe.anew();
        probe.declares("data t = A t int | B (t, t) (t -> t) | C bool (list t) | D", 102);
        probe.asks("(A, B)", "(t -> int -> t, (t, t) -> (t -> t) -> t)");
        probe.asks("C", "bool -> list t -> t");
        probe.asks("D", "t");
        probe.declares("data p b a = P a b", 103);
        probe.asks("P 1 True", "p bool int");
        // Names and data types do not get into each other's way.
        probe.declares("t = D", 0, "t");
        probe.declares("data map = M", 104);
    }

    private static void dataTypesRefused(Probe probe) {
        probe.anew();
        probe.declareThrows("data bool = A", Probe.NOT_THERE);
        probe.declareThrows("data list a = A", Probe.NOT_THERE);
        probe.declareThrows("data t = True", Probe.NOT_THERE);
        probe.declareThrows("data t = A | Nil", Probe.NOT_THERE);
        probe.declareThrows("data t = A | B | A", Probe.NOT_THERE);
        probe.declareThrows("data t = A a", Probe.NOT_THERE);
        probe.declareThrows("data t a = A b", Probe.NOT_THERE);
        probe.declareThrows("data t = A list", Probe.NOT_THERE);
        probe.declareThrows("data t a = A list a", Probe.NOT_THERE);
        probe.declareThrows("data t a = A t", Probe.NOT_THERE);
        probe.declareThrows("data t a = A (t a a)", Probe.NOT_THERE);
        probe.declareThrows("data t a = A (list a a a)", Probe.NOT_THERE);
        probe.declareThrows("data t a = A (bool a)", Probe.NOT_THERE);
        probe.declareThrows("data t a = A (a int)", Probe.NOT_THERE);
        probe.declareThrows("data t = A (t int)", Probe.NOT_THERE);
        probe.same("data types", probe.count(1), 2);
        // Constructors of what was refused are not there.
        probe.askThrows("A", Probe.NOT_THERE);
        probe.declares("data t = A", 102);
        probe.declareThrows("data t = B", Probe.NOT_THERE);
        probe.declareThrows("data u = A", Probe.NOT_THERE);
    }

    private static void rooms(Probe probe) {
        probe.anew();
        for (int i = 0; i < 24; i++) {
            probe.declares("x = " + i, i, "int");
        }
        probe.declareThrows("x = True", Probe.NO_ROOM);
        probe.declareThrows("x + y = True", Probe.NO_ROOM);
        // What else is refused comes first.
        probe.declareThrows("x = ", Probe.NO_TEXT);
        probe.declareThrows("x = y", Probe.NOT_THERE);
        probe.declareThrows("x = 1 1", Probe.NO_TYPE);
        probe.asks("(x, 1 + 2)", "(int, int)");
        probe.same("names", probe.count(0), 24);
        for (int i = 2; i < 6; i++) {
            char c = (char) ('a' + i);
            probe.declares("data " + c + " = " + Character.toUpperCase(c), 100 + i);
        }
        probe.declareThrows("data x = X", Probe.NO_ROOM);
        probe.declareThrows("data c = X", Probe.NOT_THERE);
        probe.declareThrows("data x = C", Probe.NOT_THERE);
        probe.declareThrows("data x = X y", Probe.NOT_THERE);
        probe.declareThrows("data x = X |", Probe.NO_TEXT);
        probe.askThrows("X", Probe.NOT_THERE);
        probe.same("data types", probe.count(1), 6);
    }

    private static void sizes(Probe probe) {
        probe.anew();
        probe.declares("f a b c d e g h = 1", 0, "a -> b -> c -> d -> e -> f -> g -> int");
        // Eleven arguments make 11 functions, 11 variables and int: 23; twelve make 25.
        probe.declares("f a b c d e g h i j k l = 1", 1);
        probe.declareThrows("f a b c d e g h i j k l m = 1", Probe.NO_TYPE);
        // A pair of two makes 3 of 1, and that again 7, 15, 31.
        probe.declares("p = (1, 1)", 2, "(int, int)");
        probe.declares("p = (p, p)", 3);
        probe.declares("p = (p, p)", 4);
        probe.declareThrows("p = (p, p)", Probe.NO_TYPE);
        // 15, 7 and the pair are 23, and a list of it 24.
        probe.declares("q = (p, ((1, 1), (1, 1)))", 5);
        probe.declares("r = q : Nil", 6);
        probe.declareThrows("s = r : Nil", Probe.NO_TYPE);
        probe.declareThrows("s = fn x -> r", Probe.NO_TYPE);
        probe.declareThrows("s x = q", Probe.NO_TYPE);
        // Parts count, too, even where the whole is small.
        probe.declareThrows("s = let x = (r, 1) in 1", Probe.NO_TYPE);
        probe.declareThrows("s = let f x = r in 1", Probe.NO_TYPE);
        probe.declareThrows("s = case (r, 1) of _ -> 1", Probe.NO_TYPE);
        probe.declareThrows("s = (fn x -> 1) (r, 1)", Probe.NO_TYPE);
        // Data is declared whatever its size; its constructor counts where it is an atom.
        probe.declares("data t=A(((int,int),(int,int)),((int,int),(int,int)))(((int,int),int),int)|B", 102);
        probe.askThrows("A", Probe.NO_TYPE);
        probe.asks("fn x -> case x of A y z -> y | B -> p", "t -> (((int, int), (int, int)), ((int, int), (int, int)))");
    }

    private static void order(Probe probe) {
        probe.anew();
        // All of the text comes first, then its parts in their order.
        probe.declareThrows("x = y (1 1", Probe.NO_TEXT);
        probe.declareThrows("x = (y, 1 1)", Probe.NOT_THERE);
        probe.declareThrows("x = (1 1, y)", Probe.NO_TYPE);
        probe.declareThrows("x = 1 1 y", Probe.NO_TYPE);
        probe.declareThrows("x = 1 y", Probe.NOT_THERE);
        probe.declareThrows("x = True + y", Probe.NOT_THERE);
        probe.declareThrows("x = if 1 then y else z", Probe.NO_TYPE);
        probe.declareThrows("x = if y then 1 1 else z", Probe.NOT_THERE);
        probe.declareThrows("x = let y = z in 1 1", Probe.NOT_THERE);
        probe.declareThrows("x = case 1 of A -> 1 1", Probe.NOT_THERE);
        probe.declareThrows("x = case 1 of True -> y", Probe.NO_TYPE);
        probe.declareThrows("x = case True of True y -> 1 1", Probe.NOT_THERE);
        probe.infix('^', 9, false);
        probe.declareThrows("x = (1 1) ^ 2", Probe.NO_TYPE);
        probe.declareThrows("x = 1 ^ (2 2)", Probe.NO_TYPE);
        probe.declareThrows("x = 1 ^ 2 + True", Probe.NOT_THERE);
        probe.declareThrows("x = 1 + True + 1 ^ 2", Probe.NO_TYPE);
    }

    private static void refusedChangesNothing(Probe probe) {
        probe.anew();
        probe.declares("f x = case x of 1 -> 2 | 1 -> 3", 0, "int -> int");
        probe.matches(1, 1);
        String[] refused = {"f", "f = y", "f = 1 1", "data t = True", "data t = A y", "g = (fn x -> x) Nil"};
        for (String text : refused) {
            probe.same("refused '" + text + "'", probe.declareAnswer(text) instanceof Class, true);
            probe.matches(1, 1);
            probe.same("what was written", probe.written(), "int -> int");
            probe.same("names", probe.count(0), 1);
            probe.same("data types", probe.count(1), 2);
            probe.askThrows("A", Probe.NOT_THERE);
            // The draft is empty then.
            probe.asks("f", "int -> int");
            probe.declares("f x = case x of 1 -> 2 | 1 -> 3", probe.count(0));
            probe.anew();
            probe.declares("f x = case x of 1 -> 2 | 1 -> 3", 0, "int -> int");
        }
    }

    private static void givenUp(Probe probe) {
        probe.anew();
        probe.declares("x = 1", 0, "int");
        for (int i = 0; i < 59; i++) {
            probe.declareThrows(i % 2 == 0 ? "x" : "", Probe.NO_TEXT);
        }
        probe.declares("f x = case x of 1 -> 1", 1, "int -> int");
        probe.same("false counts nothing", probe.type(0), false);
        probe.same("-1 counts nothing", probe.scheme(9), -1);
        probe.same("false counts nothing", probe.infix(':', 1, true), false);
        probe.declares("y = 2", 2, "int");
        probe.asks("case 1 of 1 -> 1", "int");
        probe.askThrows("z", Probe.NOT_THERE);
        probe.declares("z = 1", -2);
        probe.declares("", -2);
        probe.same("ask", probe.askAnswer(""), -2);
        probe.same("names", probe.count(0), 3);
        probe.matches(1, 0);
        // The draft stays: z = 1 takes 5 of its 80 characters.
        probe.typed(Probe.times(75, " "));
        probe.same("full", probe.type(' '), false);
        probe.same("ask", probe.askAnswer(""), -2);
        probe.same("full", probe.type(' '), false);
        probe.scheme(1, "int -> int");
        probe.same("infix goes on", probe.infix('^', 1, true), true);
    }
}

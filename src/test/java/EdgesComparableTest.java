/** The edges that the document names under TYPES, COMPARABLE, UNIFY and promise 9, a method for each. */
public final class EdgesComparableTest {
    public static void main(String[] args) {
        Probe probe = new Probe("edges of COMPARABLE");
        whatIsThere(probe);
        countTellsWhoAllows(probe);
        countHasNoOther(probe);
        whatAllows(probe);
        whatDoesNotAllow(probe);
        takingItThatItAllowsItself(probe);
        allTypesOfAllParameters(probe);
        whatCanBeCompared(probe);
        whatCannotBeCompared(probe);
        variablesBecomeComparable(probe);
        comparableForComparable(probe);
        aComparableVariableNeedsAComparableType(probe);
        noVariableWithinItsOwnType(probe);
        noMoreThanNeeded(probe);
        probe.end();
    }

    /** "The data types bool (True and False) and list with one parameter (Nil, and the constructor :, ..) are there." */
    private static void whatIsThere(Probe probe) {
        probe.given();
        probe.asked("(True,False)", "(bool, bool)");
        probe.asked("Nil", "list a");
        probe.asked("fn x->fn y->x:y", "a -> list a -> list a");
        probe.askRefused("True 1", Probe.NO_TYPE);
        probe.askRefused("Nil 1", Probe.NO_TYPE);
        probe.askRefused("Cons", Probe.NOT_THERE);
        probe.declareRefused("data t=A list", Probe.NOT_THERE);
        probe.declareRefused("data t=A (bool int)", Probe.NOT_THERE);
        probe.declared("data t=A bool (list bool)", 102);
    }

    /** "2: whether data type 0, 1, .. (the number what - 2) allows to be compared, 1 or 0" */
    private static void countTellsWhoAllows(Probe probe) {
        probe.anew();
        probe.counts(0, 2);
        String[] texts = {"data c=C (int->int)", "data d=D", "data e=E c", "data f a=F a"};
        int[] allows = {0, 1, 0, 1};
        for (int i = 0; i < texts.length; i++) {
            probe.same("none yet", probe.count(4 + i), -1);
            probe.declares(texts[i], 102 + i);
            probe.same(texts[i], probe.count(4 + i), allows[i]);
            probe.counts(0, 3 + i);
        }
        probe.same("bool", probe.count(2), 1);
        probe.same("list", probe.count(3), 1);
        probe.same("there is no seventh", probe.count(8), -1);
        probe.declareThrows("data g=G (int->int)", Probe.NO_ROOM);
        probe.same("there is no seventh", probe.count(8), -1);
        probe.counts(0, 6);
        for (int i = 0; i < allows.length; i++) {
            probe.same(texts[i], probe.count(4 + i), allows[i]);
        }
    }

    /** "-1 if there is none" */
    private static void countHasNoOther(Probe probe) {
        probe.anew();
        for (int what : new int[] {-1, -2, -3, 4, 5, 6, 7, 8, 9, 100, 102, 104, 256, 65536, Integer.MAX_VALUE,
            Integer.MAX_VALUE - 1, Integer.MIN_VALUE, Integer.MIN_VALUE + 1, Integer.MIN_VALUE + 2}) {
            probe.same("count(" + what + ")", probe.count(what), -1);
        }
        // Names do not make data types, nor the other way round; what is asked or refused makes neither.
        probe.declares("x=1", 0);
        probe.counts(1, 2);
        probe.same("count(4)", probe.count(4), -1);
        probe.declares("data t=A", 102);
        probe.counts(1, 3);
        probe.declares("x=2", 1);
        probe.declares("x+y=2", 2);
        probe.counts(3, 3);
        probe.asks("let y=1 in y", "int");
        probe.declareThrows("y=z", Probe.NOT_THERE);
        probe.declareThrows("data u=A", Probe.NOT_THERE);
        probe.counts(3, 3);
    }

    private static void allows(Probe probe, String text, int due) {
        probe.declared(text, 104);
        probe.same("whether '" + text + "' allows", probe.count(6), due);
    }

    /** "if each type atom of its alternatives is comparable when its parameters are" */
    private static void whatAllows(Probe probe) {
        probe.given("data p a=P", "data q a b=Q a|R b");
        allows(probe, "data t=A", 1);
        allows(probe, "data t=A int bool|B|C (int,(bool,int))|D (list int)", 1);
        allows(probe, "data t a b=A a b|B (a,b)|C (list (list a))", 1);
        allows(probe, "data t a b=A (q a (p b))|B (p int)", 1);
        allows(probe, "data t a=A", 1);
    }

    /** "(So one with a function in it does not.)" */
    private static void whatDoesNotAllow(Probe probe) {
        probe.given("data f=F (int->int)", "data g a=G|H (a->a)");
        for (String atom : new String[] {"(int->int)", "(a->a)", "((int->int),int)", "(int,(int->int))", "(list (int->int))",
            "((int->int))", "(int->int->int)", "f", "(f)", "(f,int)", "(list f)", "(g int)", "(g a)", "(list (g (list a)))",
            "(list (list (int,(a,(a->int)))))"}) {
            allows(probe, "data t a=A " + atom, 0);
            allows(probe, "data t a=A a " + atom, 0);
            allows(probe, "data t a=A|B|C|D " + atom + " int", 0);
        }
    }

    /** "taking it that it allows it itself" */
    private static void takingItThatItAllowsItself(Probe probe) {
        probe.given("data f=F (int->int)", "data p a=P");
        allows(probe, "data t=A t", 1);
        allows(probe, "data t=A t t|B", 1);
        allows(probe, "data t a=A (t a)|B (t (t a))(list (t int))", 1);
        allows(probe, "data t=A (t,t)(p t)", 1);
        allows(probe, "data t=A (t->int)", 0);
        allows(probe, "data t=A t|B f", 0);
        allows(probe, "data t=B f|A t", 0);
        allows(probe, "data t a=A (t (a->a))", 0);
        allows(probe, "data t a=A (t f)", 0);
    }

    /** "data types with comparable types for all parameters": also of one that stands nowhere in its alternatives */
    private static void allTypesOfAllParameters(Probe probe) {
        probe.given("data f=F (int->int)", "data p a b=P a");
        allows(probe, "data t=A (p int f)", 0);
        allows(probe, "data t=A (p f int)", 0);
        allows(probe, "data t=A (p int (int->int))", 0);
        allows(probe, "data t=A (p int bool)", 1);
        probe.given("data f=F (int->int)", "data p a b=P a", "data r=R (p int f)|S (p int int)", "g x=case x of P _->x?x");
        probe.asked("g", "p 'a 'b -> bool");
        probe.asked("fn x->case x of S y->g y", "r -> bool");
        probe.askRefused("fn x->case x of R y->g y", Probe.NO_TYPE);
        probe.askRefused("fn x->case x of P y->(g x,case y of F _->1)", Probe.NO_TYPE);
    }

    /** "COMPARABLE are int, pairs of comparable types, comparable variables, and data types .." */
    private static void whatCanBeCompared(Probe probe) {
        probe.given("data t a=T a|U");
        for (String value : new String[] {"1", "True", "Nil", "(1,2)", "(1,(True,Nil))", "(1:Nil)", "((1,2):Nil)", "U", "(T 1)",
            "(T (T (1,True)))", "(T Nil:Nil)"}) {
            probe.asked(value + "?" + value, "bool");
        }
        probe.asked("fn x->x?x", "'a -> bool");
        probe.asked("fn x->fn y->(x,y)?(y,x)", "'a -> 'a -> bool");
        probe.asked("fn x->T x?U", "'a -> bool");
        probe.askRefused("1?True", Probe.NO_TYPE);
        probe.askRefused("Nil?(Nil,Nil)", Probe.NO_TYPE);
    }

    /** "that is impossible when a function or a data type that does not allow it stands in it" */
    private static void whatCannotBeCompared(Probe probe) {
        probe.given("data t a=T a|U", "data n=N (n->n)|O", "f x=1");
        for (String value : new String[] {"f", "(fn x->x)", "O", "T", "(1,f)", "(f,1)", "(1,(1,f))", "(f:Nil)", "(T f)", "(T O)",
            "(O:Nil)", "(1,O)", "((1,O):Nil)", "(T (1,T f))", "N"}) {
            probe.askRefused(value + "?" + value, Probe.NO_TYPE);
            probe.askRefused("fn x->(x?" + value + ")", Probe.NO_TYPE);
            probe.askRefused("fn x->(" + value + "?x)", Probe.NO_TYPE);
        }
        // Whether it is compared first or found to be a function first.
        probe.askRefused("fn x->(x?x,x 1)", Probe.NO_TYPE);
        probe.askRefused("fn x->(x 1,x?x)", Probe.NO_TYPE);
        probe.askRefused("fn x->case x of (y,z)->(x?x,z 1)", Probe.NO_TYPE);
        probe.askRefused("fn x->case x of (y,z)->(z 1,x?x)", Probe.NO_TYPE);
        probe.askRefused("fn x->case x of y:z->(x?x,y 1)", Probe.NO_TYPE);
        probe.askRefused("fn x->case x of T y->(y?y,case x of T z->z 1)", Probe.NO_TYPE);
        probe.askRefused("fn x->(x?x,case x of O->1)", Probe.NO_TYPE);
        probe.askRefused("fn x->case x of O->x?x", Probe.NO_TYPE);
    }

    /** "To MAKE a type comparable: its variables become comparable ones, at any depth" */
    private static void variablesBecomeComparable(Probe probe) {
        probe.given("data t a b=T a b|U");
        probe.asked("fn x->fn y->(x,(y,1))?(x,(y,1))", "'a -> 'b -> bool");
        probe.asked("fn x->((x:Nil):Nil)?Nil", "'a -> bool");
        probe.asked("fn x->fn y->T x (T y y)?U", "'a -> 'b -> bool");
        probe.asked("fn x->case x of T y z->(fn w->x?x)", "t 'a 'b -> c -> bool");
        probe.asked("fn x->fn y->(x?x,y)", "'a -> b -> (bool, b)");
        // Those that were unified before, and those that are later, too.
        probe.asked("fn x->fn y->(if True then x else y,x?x)", "'a -> 'a -> ('a, bool)");
        probe.asked("fn x->fn y->(x?x,if True then x else y)", "'a -> 'a -> (bool, 'a)");
        probe.asked("fn x->fn y->(x?x,if True then y else x)", "'a -> 'a -> (bool, 'a)");
        probe.asked("fn x->fn y->(x?x,if True then x else y:Nil)", "list 'a -> 'a -> (bool, list 'a)");
    }

    /** "USING a name gives its type with new variables for the general ones (comparable for comparable)." */
    private static void comparableForComparable(Probe probe) {
        probe.given("eq x y=x?y", "k x y=if x?x then y else y", "data n=N (n->n)|O");
        probe.asked("eq", "'a -> 'a -> bool");
        probe.asked("(eq 1,eq True)", "(int -> bool, bool -> bool)");
        probe.asked("fn x->eq (x,Nil)", "'a -> ('a, list 'b) -> bool");
        probe.asked("k", "'a -> b -> b");
        probe.asked("k 1 O", "n");
        probe.asked("k 1 eq", "'a -> 'a -> bool");
        probe.askRefused("k O 1", Probe.NO_TYPE);
        probe.askRefused("k eq 1", Probe.NO_TYPE);
        probe.askRefused("eq eq", Probe.NO_TYPE);
        probe.askRefused("eq O", Probe.NO_TYPE);
        probe.asked("let e=eq in (e 1 2,e True False)", "(bool, bool)");
        probe.askRefused("let e=eq in e O", Probe.NO_TYPE);
        probe.asked("let e x y=x?y in e", "'a -> 'a -> bool");
        // A new variable is comparable in each use by itself.
        probe.asked("(eq,fn x->x)", "('a -> 'a -> bool, b -> b)");
    }

    /** "a comparable variable needs a type that is made comparable" */
    private static void aComparableVariableNeedsAComparableType(Probe probe) {
        probe.given("eq x y=x?y", "any x=any x");
        probe.asked("fn x->eq (any 1) x", "'a -> bool");
        probe.asked("fn x->fn y->eq x (y,y)", "('a, 'a) -> 'a -> bool");
        probe.asked("fn x->fn y->eq (y:Nil) x", "list 'a -> 'a -> bool");
        probe.askRefused("fn x->eq x (fn y->y)", Probe.NO_TYPE);
        probe.askRefused("fn x->eq x (1,fn y->y)", Probe.NO_TYPE);
        probe.asked("fn f->eq (f 1)", "(int -> 'a) -> 'a -> bool");
    }

    /** "it is impossible when a variable would stand within its own type" */
    private static void noVariableWithinItsOwnType(Probe probe) {
        probe.given();
        for (String text : new String[] {"fn x->x x", "fn x->x (x x)", "fn x->x:x", "fn x->if True then x else (x,1)",
            "fn x->if True then (1,x) else x", "fn x->if True then x else x:Nil", "fn x->if True then fn y->x else x",
            "fn x->fn y->(if True then x else (y,1),if True then y else (x,1))", "fn x->x?(x,1)", "fn x->(1,x)?x",
            "let f x=f in 1", "let f x=(f,1) in 1", "fn x->case x of (y,z)->if True then x else y"}) {
            probe.askRefused(text, Probe.NO_TYPE);
            probe.declareRefused("x=" + text, Probe.NO_TYPE);
        }
        // Also where that type would stand in no part that is looked at for its size.
        probe.given("any x=any x");
        for (String text : new String[] {"case any 1 of x->x x", "case any 1 of x->x?(x,1)", "case any 1 of x->(1,x)?x",
            "case any 1 of x->x?x:Nil", "case any 1 of x->any(if True then x else fn y->x)", "let x=any 1 in x x",
            "let x=any 1 in x?(x,x)", "case any 1 of (a,b)->(a?(b,1),b?(a,1))", "case any 1 of x->case x of (y,_)->x?y"}) {
            probe.askRefused(text, Probe.NO_TYPE);
        }
        probe.given();
        // The same variable on both sides is no such thing.
        probe.asked("fn x->if True then x else x", "a -> a");
        probe.asked("fn x->fn y->(if True then x else y,if True then y else x)", "a -> a -> (a, a)");
        probe.asked("fn x->if True then (x,x) else (x,x)", "a -> (a, a)");
    }

    /** "To UNIFY two types is to put types for variables, no more than needed" */
    private static void noMoreThanNeeded(Probe probe) {
        probe.given("data t a b=T a b|U");
        probe.asked("fn x->fn y->if True then (x,y) else (y,x)", "a -> a -> (a, a)");
        probe.asked("fn x->fn y->if True then (x,y) else (1,y)", "int -> a -> (int, a)");
        probe.asked("fn x->fn y->fn z->if True then T x y else T 1 z", "int -> a -> a -> t int a");
        probe.asked("fn f->fn g->if True then f else fn x->g x", "(a -> b) -> (a -> b) -> a -> b");
        probe.askRefused("if True then 1 else (1,1)", Probe.NO_TYPE);
        probe.askRefused("if True then 1 else fn x->1", Probe.NO_TYPE);
        probe.askRefused("if True then (1,1) else fn x->1", Probe.NO_TYPE);
        probe.askRefused("if True then U else Nil", Probe.NO_TYPE);
        probe.askRefused("if True then True else Nil", Probe.NO_TYPE);
        probe.askRefused("if True then T 1 2 else T 1 True", Probe.NO_TYPE);
        probe.askRefused("if True then T 1 2 else T True 2", Probe.NO_TYPE);
        probe.askRefused("if True then (1,True) else (1,2)", Probe.NO_TYPE);
        probe.askRefused("if True then fn x->x+1 else fn x->if x then 1 else 2", Probe.NO_TYPE);
    }
}

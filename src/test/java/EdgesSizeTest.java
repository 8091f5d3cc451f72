import java.util.function.Consumer;

/** The edges that the document names under NAMES: each part with a type of 24 is taken, and with one of 25 refused. */
public final class EdgesSizeTest {
    private static final String PAIRS = "(((int, int), (int, int)), ((int, int), (int, int)))";

    public static void main(String[] args) {
        Probe probe = new Probe("edges of sizes");
        sizesAreTold(probe);
        wholeExpressions(probe);
        pairsOfAnyShape(probe);
        functionsBehindFn(probe);
        wordsThatHaveGrown(probe);
        constructorsAsAtoms(probe);
        notPatterns(probe);
        notWordsBehindFn(probe);
        notWordsOfADefinition(probe);
        beginningsOfApplications(probe);
        argumentsOfApplications(probe);
        partsOfChains(probe);
        notOperatorsThemselves(probe);
        choicesAndCases(probe);
        namesWithTheirDefinitions(probe);
        operatorsWithTheirDefinitions(probe);
        asItStandsWhenThatPartIsOver(probe);
        probe.end();
    }

    /** p is a name of size 15, lb .. lj are names of size 2 .. 10, any 1 has a type of its own each time, of size 1. */
    private static final Consumer<Probe> NAMES = p -> {
        p.declares("p=((1,1),(1,1))", 0);
        p.declares("p=(p,p)", 1);
        p.declares("la=1", 2);
        for (char c = 'b'; c <= 'j'; c++) {
            p.declares("l" + c + "=l" + (char) (c - 1) + ":Nil", 3 + c - 'b');
        }
        p.declares("any x=any x", 12, "a -> b");
    };

    /** A pair of this size, from 17 to 26. */
    private static String sized(int size) {
        return "(p,l" + (char) ('a' + size - 17) + ")";
    }

    private static String typeSized(int size) {
        int lists = size - 17;
        String list = "int";
        for (int i = 0; i < lists; i++) {
            list = "list " + (i == 0 ? list : "(" + list + ")");
        }
        return "(" + PAIRS + ", " + list + ")";
    }

    /** With a part in it that has a type of 24 the text is taken; with one of 25 it is refused. */
    private static void edge(Probe probe, String form, int last, String type) {
        probe.asked(form.replace("#", sized(last)), type);
        probe.askRefused(form.replace("#", sized(last + 1)), Probe.NO_TYPE);
    }

    /** "The SIZE of a type: int and variables 1, all others 1 and the sizes of their parts." */
    private static void sizesAreTold(Probe probe) {
        probe.given("data q=Q|S q", "data t a=T a", "data u a b=U a b");
        // Eleven functions and eleven variables are 22; 2 more are taken, 3 are too great.
        String eleven = "f a b c d e g h i j k l=";
        for (String taken : new String[] {"1", "a", "Q", "S Q", "Nil", "1:Nil", "T 1", "T a", "T Q"}) {
            probe.declared(eleven + taken, 0);
        }
        for (String refused : new String[] {"(1,1)", "fn x->x", "Nil:Nil", "T(T 1)", "U 1 1", "S", "T Nil"}) {
            probe.declareRefused(eleven + refused, Probe.NO_TYPE);
        }
        // Ten and ten are 20, so that 4 more are taken, and 5 too great.
        String ten = "f a b c d e g h i j k=";
        for (String taken : new String[] {"(1,1)", "(1,T 1)", "(Nil,1)", "fn x->x", "fn x->T x", "U 1 1", "U Q(T 1)", "S", "T(T Nil)"}) {
            probe.declared(ten + taken, 0);
        }
        for (String refused : new String[] {"(1,(1,1))", "(Nil,Nil)", "fn x->(x,x)", "fn x->fn y->x", "U(T 1)(T 1)",
            "U 1(1,1)", "T(T(T Nil))", "(S,1)"}) {
            probe.declareRefused(ten + refused, Probe.NO_TYPE);
        }
    }

    /** "The type of a part of an expression .. must have a size of 24 or less when it has been found" */
    private static void wholeExpressions(Probe probe) {
        probe.given(NAMES);
        edge(probe, "#", 24, typeSized(24));
        edge(probe, "(#)", 24, typeSized(24));
        edge(probe, "let x=1 in #", 24, typeSized(24));
        edge(probe, "if True then # else any 1", 24, typeSized(24));
        edge(probe, "if True then any 1 else #", 24, typeSized(24));
        edge(probe, "case 1 of _->#", 24, typeSized(24));
        edge(probe, "case 1 of 1->any 1|_->#", 24, typeSized(24));
        edge(probe, "case 1 of 1->#|_->any 1", 24, typeSized(24));
        // Also where the whole is small.
        edge(probe, "let x=# in 1", 24, "int");
        edge(probe, "case # of _->1", 24, "int");
        edge(probe, "case # of (x,_)->1", 24, "int");
        edge(probe, "(fn x->1)#", 24, "int");
        edge(probe, "#?#", 24, "bool");
        probe.declared("x=" + sized(24), 13, typeSized(24));
        probe.declareRefused("x=" + sized(25), Probe.NO_TYPE);
        probe.declareRefused("x=" + sized(26), Probe.NO_TYPE);
    }

    private static void pairsOfAnyShape(Probe probe) {
        probe.given();
        // 11 pairs and 12 numbers are 23, a list more is 24, and one more than that is 25.
        String left = Probe.times(11, "(1,");
        String right = Probe.times(11, ")");
        probe.asked(left + "1" + right, Probe.times(11, "(int, ") + "int" + right);
        probe.asked(left + "Nil" + right, Probe.times(11, "(int, ") + "list a" + right);
        probe.askRefused(left + "Nil:Nil" + right, Probe.NO_TYPE);
        probe.askRefused(left + "(1,1)" + right, Probe.NO_TYPE);
        probe.askRefused(left + "fn x->x" + right, Probe.NO_TYPE);
    }

    private static void functionsBehindFn(Probe probe) {
        probe.given(NAMES);
        edge(probe, "fn x->#", 22, "a -> " + typeSized(22));
        edge(probe, "fn x->fn y->#", 20, "a -> b -> " + typeSized(20));
        edge(probe, "(fn x->#)1", 22, typeSized(22));
        edge(probe, "case fn x-># of _->1", 22, "int");
    }

    /** "each atom": a word, as its type stands where the word stands */
    private static void wordsThatHaveGrown(Probe probe) {
        probe.given(NAMES);
        // x becomes a pair of a and b, of which a becomes 15 and b what makes it 24 or 25.
        String form = "case any 1 of x->case x of (a,b)->(a?p,(b?#,case x of _->1))";
        probe.asked(form.replace("#", "lh"), "(bool, (bool, int))");
        probe.askRefused(form.replace("#", "li"), Probe.NO_TYPE);
        String unused = "case any 1 of x->case x of (a,b)->(a?p,(b?#,1))";
        probe.asked(unused.replace("#", "lh"), "(bool, (bool, int))");
        probe.asked(unused.replace("#", "li"), "(bool, (bool, int))");
        // It is refused at the word, ahead of what is not there behind it.
        probe.askRefused("case any 1 of x->case x of (a,b)->(a?p,(b?li,(x,z)))", Probe.NO_TYPE);
        probe.askRefused("case any 1 of x->case x of (a,b)->(a?p,(b?lh,(x,z)))", Probe.NOT_THERE);
        // The same for one that is general in part.
        probe.askRefused("case any 1 of x->let f y=x in case x of (a,b)->(a?p,(b?lg,f z))", Probe.NO_TYPE);
        probe.askRefused("case any 1 of x->let f y=x in case x of (a,b)->(a?p,(b?lf,f z))", Probe.NOT_THERE);
    }

    /** "each atom (a constructor, too)" */
    private static void constructorsAsAtoms(Probe probe) {
        // The argument is of 21, its function and the data type with its variable are 3 more.
        String last = "data t a=A(" + Probe.times(10, "a->") + "a)";
        String first = "data t a=A(list(" + Probe.times(10, "a->") + "a))";
        probe.given(last);
        probe.asked("A", "(" + Probe.times(10, "a -> ") + "a) -> t a");
        probe.askRefused("A z", Probe.NOT_THERE);
        probe.askRefused("(A,z)", Probe.NOT_THERE);
        // It is declared all the same, but refused where it stands as an atom.
        probe.given(first);
        probe.askRefused("A", Probe.NO_TYPE);
        probe.askRefused("A z", Probe.NO_TYPE);
        probe.askRefused("(A,z)", Probe.NO_TYPE);
        probe.askRefused("(z,A)", Probe.NOT_THERE);
        probe.askRefused("let x=A in 1", Probe.NO_TYPE);
        probe.declareRefused("x=A", Probe.NO_TYPE);
        probe.declareRefused("x=1 A", Probe.NO_TYPE);
        // With two types: 11 and 9, two functions and the data type's 2 are 24.
        probe.given("data t a=A(a->a->a->a->a->a)(a->a->a->a->a)|B");
        probe.asked("A", "(a -> a -> a -> a -> a -> a) -> (a -> a -> a -> a -> a) -> t a");
        probe.given("data t a=A(a->a->a->a->a->a)(a->a->a->a->list a)|B");
        probe.askRefused("A", Probe.NO_TYPE);
        probe.asked("B", "t a");
    }

    /** "not patterns" */
    private static void notPatterns(Probe probe) {
        probe.given(p -> {
            NAMES.accept(p);
            p.declares("data t a=A(list(" + Probe.times(10, "a->") + "a))", 102);
        });
        probe.asked("fn x->case x of A _->1", "t a -> int");
        probe.asked("case any 1 of A y->y", "list (" + Probe.times(10, "a -> ") + "a)");
        probe.asked("case any 1 of (a,b)->(a?p,b?lh)", "(bool, bool)");
        probe.asked("case any 1 of (a,b)->(a?p,b?li)", "(bool, bool)");
        probe.asked("case any 1 of a:b->(a?p,(b?(p:Nil),la))", "(bool, (bool, int))");
    }

    /** "nor the words behind fn": that of 25 is refused when the function is over, not before */
    private static void notWordsBehindFn(Probe probe) {
        probe.given(NAMES);
        probe.askRefused("fn x->case x of (a,b)->(a?p,(b?li,z))", Probe.NOT_THERE);
        probe.askRefused("fn x->case x of (a,b)->(a?p,(b?li,1))", Probe.NO_TYPE);
        probe.askRefused("(fn x->case x of (a,b)->(a?p,(b?li,1)))z", Probe.NO_TYPE);
        // 1 and 20 and 3 are 24.
        probe.asked("fn x->case x of (a,b)->(a?p,b?ld)", typeSized(20) + " -> (bool, bool)");
        probe.askRefused("fn x->case x of (a,b)->(a?p,b?le)", Probe.NO_TYPE);
    }

    /** "and those of a definition, by themselves" */
    private static void notWordsOfADefinition(Probe probe) {
        probe.given(NAMES);
        probe.declareRefused("f x=case x of (a,b)->(a?p,(b?li,z))", Probe.NOT_THERE);
        probe.declareRefused("f x=case x of (a,b)->(a?p,(b?li,1))", Probe.NO_TYPE);
        probe.declareRefused("x^y=case x of (a,b)->(a?p,(b?li,z))", Probe.NOT_THERE);
        probe.declareRefused("x^y=case x of (a,b)->(a?p,(b?li,1))", Probe.NO_TYPE);
        probe.askRefused("let f x=case x of (a,b)->(a?p,(b?li,z)) in 1", Probe.NOT_THERE);
        probe.askRefused("let f x=case x of (a,b)->(a?p,(b?li,1)) in z", Probe.NO_TYPE);
        // The function's own type is looked at where the word stands again.
        probe.declareRefused("f x y=case f p li of _->z", Probe.NOT_THERE);
        probe.declareRefused("f x y=case f p li of _->f z", Probe.NO_TYPE);
        probe.declareRefused("f x y=case f p lf of _->f z", Probe.NOT_THERE);
        probe.declareRefused("f x y=case f p lg of _->f z", Probe.NO_TYPE);
        probe.declared("f x=case x of (a,b)->(a?p,b?ld)", 13, typeSized(20) + " -> (bool, bool)");
        probe.declareRefused("f x=case x of (a,b)->(a?p,b?le)", Probe.NO_TYPE);
    }

    /** "each beginning of an application": (f) a, and that with each atom more */
    private static void beginningsOfApplications(Probe probe) {
        probe.given(p -> {
            NAMES.accept(p);
            p.declares("k x y=x?y", 13, "'a -> 'a -> bool");
            p.declares("w x=x:Nil", 14, "a -> list a");
            p.declares("m x y z=(x?y,y?z)", 15, "'a -> 'a -> 'a -> (bool, bool)");
        });
        // k with its first argument is a function of that to bool: 2 more.
        edge(probe, "k##", 22, "bool");
        edge(probe, "k#", 22, typeSized(22) + " -> bool");
        probe.askRefused("k" + sized(22) + "z", Probe.NOT_THERE);
        probe.askRefused("k" + sized(23) + "z", Probe.NO_TYPE);
        edge(probe, "w#", 23, "list " + typeSized(23));
        edge(probe, "(fn x->1)(w#)", 23, "int");
        // m with one argument of 9 is of 9, 9, 3 and two functions: 23; with one of 10 it is 25.
        probe.asked("m li li li", "(bool, bool)");
        probe.askRefused("m lj lj lj", Probe.NO_TYPE);
        probe.askRefused("m li z", Probe.NOT_THERE);
        probe.askRefused("m lj z", Probe.NO_TYPE);
    }

    private static void argumentsOfApplications(Probe probe) {
        probe.given(NAMES);
        edge(probe, "any#", 24, "a");
        edge(probe, "any(#)", 24, "a");
        edge(probe, "any any#", 24, "a");
        probe.askRefused("any" + sized(25) + "z", Probe.NO_TYPE);
        probe.askRefused("any" + sized(24) + "z", Probe.NOT_THERE);
        probe.askRefused("z" + sized(25), Probe.NOT_THERE);
    }

    /** "each part of a chain that is joined" */
    private static void partsOfChains(Probe probe) {
        probe.given(p -> {
            NAMES.accept(p);
            p.declares("x@y=(x,y)", 13);
            p.declares("x&y=1", 14);
            p.infix('@', 3, false);
            p.infix('&', 2, false);
        });
        edge(probe, "#:Nil", 23, "list " + typeSized(23));
        edge(probe, "#:Nil?Nil", 23, "bool");
        edge(probe, "#:#:Nil?Nil", 23, "bool");
        edge(probe, "#&1", 24, "int");
        edge(probe, "1&#", 24, "int");
        probe.asked("p@lh", typeSized(24));
        probe.askRefused("p@li", Probe.NO_TYPE);
        probe.asked("p@lh&1", "int");
        probe.askRefused("p@li&1", Probe.NO_TYPE);
        probe.asked("1&p@lh", "int");
        probe.askRefused("1&p@li", Probe.NO_TYPE);
        // What is joined is refused ahead of what stands behind it.
        probe.askRefused("p@lh&z", Probe.NOT_THERE);
        probe.askRefused("p@li&z", Probe.NO_TYPE);
        probe.askRefused("z&p@li", Probe.NOT_THERE);
        probe.asked("1@1@1@1@1@1@1@1@1@1@1@1", Probe.times(11, "(") + "int" + Probe.times(11, ", int)"));
        probe.asked("Nil@1@1@1@1@1@1@1@1@1@1@1", Probe.times(11, "(") + "list a" + Probe.times(11, ", int)"));
        probe.askRefused("Nil@Nil@1@1@1@1@1@1@1@1@1@1", Probe.NO_TYPE);
    }

    /** Operators are no atoms: only what they join is looked at. */
    private static void notOperatorsThemselves(Probe probe) {
        probe.given(p -> {
            NAMES.accept(p);
            p.declares("x&y=1", 13);
            p.infix('&', 2, false);
        });
        edge(probe, "#&#", 24, "int");
        edge(probe, "#&#&#", 24, "int");
        edge(probe, "#?#", 24, "bool");
    }

    private static void choicesAndCases(Probe probe) {
        probe.given(NAMES);
        String[] forms = {"if True then (any 1,#) else (p,any 1)", "if True then (p,any 1) else (any 1,#)",
            "case 1 of 1->(any 1,#)|_->(p,any 1)", "case 1 of 1->(p,any 1)|_->(any 1,#)",
            "case 1 of 1->any 1|2->(any 1,#)|_->(p,any 1)"};
        for (String form : forms) {
            probe.asked(form.replace("#", "lh"), typeSized(24));
            probe.askRefused(form.replace("#", "li"), Probe.NO_TYPE);
            probe.asked("any(" + form.replace("#", "lh") + ")", "a");
            probe.askRefused("any(" + form.replace("#", "li") + ")", Probe.NO_TYPE);
            probe.askRefused("(" + form.replace("#", "lh") + ",z)", Probe.NOT_THERE);
            probe.askRefused("(" + form.replace("#", "li") + ",z)", Probe.NO_TYPE);
        }
    }

    /** "and that of a name that is defined", "a name with its definition" */
    private static void namesWithTheirDefinitions(Probe probe) {
        probe.given(NAMES);
        edge(probe, "let f=# in 1", 24, "int");
        edge(probe, "let f x=# in 1", 22, "int");
        edge(probe, "let f x y=# in 1", 20, "int");
        probe.declared("f=" + sized(24), 13, typeSized(24));
        probe.declareRefused("f=" + sized(25), Probe.NO_TYPE);
        probe.declared("f x=" + sized(22), 13, "a -> " + typeSized(22));
        probe.declareRefused("f x=" + sized(23), Probe.NO_TYPE);
        probe.declared("f x y=" + sized(20), 13, "a -> b -> " + typeSized(20));
        probe.declareRefused("f x y=" + sized(21), Probe.NO_TYPE);
        // The definition is over ahead of the expression behind in.
        probe.askRefused("let f x=" + sized(22) + " in z", Probe.NOT_THERE);
        probe.askRefused("let f x=" + sized(23) + " in z", Probe.NO_TYPE);
        probe.askRefused("let f x y=" + sized(21) + " in z", Probe.NO_TYPE);
    }

    private static void operatorsWithTheirDefinitions(Probe probe) {
        probe.given(NAMES);
        for (char c : "^+?".toCharArray()) {
            probe.declared("x" + c + "y=" + sized(20), 13, "a -> b -> " + typeSized(20));
            probe.declareRefused("x" + c + "y=" + sized(21), Probe.NO_TYPE);
        }
    }

    /** "as it stands when that part is over": what grows behind that is not looked at again */
    private static void asItStandsWhenThatPartIsOver(Probe probe) {
        probe.given(NAMES);
        probe.asked("let x=any 1 in case x of (a,b)->(a?p,b?li)", "(bool, bool)");
        probe.askRefused("let x=any 1 in case x of (a,b)->(a?p,(b?li,x))", Probe.NO_TYPE);
        probe.asked("case any 1 of x->case x of (a,b)->(a?p,b?li)", "(bool, bool)");
        // x is of 1 as an atom; the pair, with 1 and 3 more, is looked at when it is over.
        probe.asked("case any 1 of x->(x,case x of (a,b)->(a?p,b?ld))", "(" + typeSized(20) + ", (bool, bool))");
        probe.askRefused("case any 1 of x->(x,case x of (a,b)->(a?p,b?le))", Probe.NO_TYPE);
        probe.askRefused("case any 1 of x->(x,case x of (a,b)->(a?p,(b?li,z)))", Probe.NOT_THERE);
    }
}

/** The edges in the text block behind NAMES and the sentences behind it, a method for each sentence or part of one. */
public final class EdgesPartsTest {
    public static void main(String[] args) {
        Probe probe = new Probe("edges of parts");
        numbersWordsConstructors(probe);
        applications(probe);
        operators(probe);
        pairs(probe);
        functions(probe);
        choices(probe);
        lets(probe);
        variablesOfNamesThatAreThere(probe);
        values(probe);
        definitionsWithArguments(probe);
        casesAndTheirPatterns(probe);
        wordsOfPatternsAreNotGeneral(probe);
        constructorsInPatterns(probe);
        expressionsOfCasesAreUnified(probe);
        theLatestThatIsSeen(probe);
        declarationsMustBeGeneral(probe);
        operatorsCountAsOthers(probe);
        probe.end();
    }

    /** "A number: int. A word or constructor: it must be there; its use." */
    private static void numbersWordsConstructors(Probe probe) {
        probe.given("x=True");
        probe.asked("0", "int");
        probe.asked("x", "bool");
        probe.asked("True", "bool");
        probe.askRefused("y", Probe.NOT_THERE);
        probe.askRefused("X", Probe.NOT_THERE);
        probe.askRefused("True1 y", Probe.NO_TYPE);
        probe.declareRefused("z=z", Probe.NOT_THERE);
        // An operator is no word, and what is there as one is no other.
        probe.askRefused("(+)", Probe.NO_TEXT);
        probe.askRefused("bool", Probe.NOT_THERE);
        probe.askRefused("list", Probe.NOT_THERE);
    }

    /** "f a, that is (f) and the last atom a: f; a; its type is a new variable r after f is unified with a's -> r." */
    private static void applications(Probe probe) {
        probe.given("f x y=(x,y)");
        probe.asked("f 1", "a -> (int, a)");
        probe.asked("f 1 True", "(int, bool)");
        probe.asked("(f 1) True", "(int, bool)");
        probe.askRefused("f 1 True 2", Probe.NO_TYPE);
        probe.asked("fn g->g 1", "(int -> a) -> a");
        probe.askRefused("1 1", Probe.NO_TYPE);
        probe.askRefused("(1,1) 1", Probe.NO_TYPE);
        probe.askRefused("Nil 1", Probe.NO_TYPE);
        // f, then a, and unified behind that: which refusal comes first tells it.
        probe.askRefused("z (1 1)", Probe.NOT_THERE);
        probe.askRefused("(1 1) z", Probe.NO_TYPE);
        probe.askRefused("1 z", Probe.NOT_THERE);
        probe.askRefused("1 1 z", Probe.NO_TYPE);
        probe.askRefused("f z (1 1)", Probe.NOT_THERE);
        probe.askRefused("f (1 1) z", Probe.NO_TYPE);
        probe.askRefused("True 1 z", Probe.NO_TYPE);
    }

    /** "a OP b: a; b; the operator must be there; its use is unified with a's -> (b's -> r), r new." */
    private static void operators(Probe probe) {
        probe.given(p -> p.infix('^', 6, false));
        probe.askRefused("1+True", Probe.NO_TYPE);
        probe.askRefused("True+1", Probe.NO_TYPE);
        probe.askRefused("True+z", Probe.NOT_THERE);
        probe.askRefused("z+(1 1)", Probe.NOT_THERE);
        probe.askRefused("(1 1)+z", Probe.NO_TYPE);
        probe.askRefused("1^2", Probe.NOT_THERE);
        probe.askRefused("1^(1 1)", Probe.NO_TYPE);
        probe.askRefused("(1 1)^1", Probe.NO_TYPE);
        probe.askRefused("1^z", Probe.NOT_THERE);
        // The parts of a chain as they are joined: those that bind first stand inside.
        probe.askRefused("True+1^z", Probe.NO_TYPE);
        probe.askRefused("1^2+True", Probe.NOT_THERE);
        probe.askRefused("True*1^z", Probe.NO_TYPE);
        probe.askRefused("1^True*1", Probe.NO_TYPE);
        probe.askRefused("1:(1^2)", Probe.NOT_THERE);
        probe.askRefused("True+1*z", Probe.NOT_THERE);
        probe.askRefused("z*1+True", Probe.NOT_THERE);
        probe.askRefused("1*True+z", Probe.NO_TYPE);
        probe.askRefused("1+True*2+z", Probe.NO_TYPE);
        // From the right both of the inner ones come first.
        probe.askRefused("1:2:z", Probe.NOT_THERE);
        probe.askRefused("1:True:Nil", Probe.NO_TYPE);
        probe.askRefused("(1 1):2:z", Probe.NO_TYPE);
        probe.askRefused("True:1:z:2", Probe.NOT_THERE);
        probe.askRefused("z:1:2", Probe.NOT_THERE);
        probe.askRefused("1:2", Probe.NO_TYPE);
        probe.given("f x=x");
        probe.asked("fn x->x:Nil", "a -> list a");
        probe.askRefused("f+f", Probe.NO_TYPE);
        probe.asked("f 1+f 2", "int");
    }

    /** "(a, b): a; b; the pair." */
    private static void pairs(Probe probe) {
        probe.given();
        probe.asked("(1,True)", "(int, bool)");
        probe.askRefused("(z,1 1)", Probe.NOT_THERE);
        probe.askRefused("(1 1,z)", Probe.NO_TYPE);
    }

    /** "fn x -> e: x has a new variable, not general; e; the function." */
    private static void functions(Probe probe) {
        probe.given("x=True");
        probe.asked("fn x->x", "a -> a");
        probe.asked("fn x->fn x->x", "a -> b -> b");
        probe.asked("fn y->x", "a -> bool");
        probe.askRefused("fn x->(x 1,x True)", Probe.NO_TYPE);
        probe.askRefused("fn x->(x 1,x+1)", Probe.NO_TYPE);
        // Behind the function its word is what it was before.
        probe.asked("(fn x->x+1,x)", "(int -> int, bool)");
        probe.asked("(x,fn x->x+1)", "(bool, int -> int)");
        probe.askRefused("(fn y->y,y)", Probe.NOT_THERE);
        probe.askRefused("(fn y->y) y", Probe.NOT_THERE);
    }

    /** "if a then b else c: a; unified with bool; b; c; the two unified." */
    private static void choices(Probe probe) {
        probe.given();
        probe.asked("if True then 1 else 2", "int");
        probe.asked("fn x->if x then 1 else 2", "bool -> int");
        probe.asked("fn x->if True then x else 1", "int -> int");
        probe.askRefused("if 1 then 1 else 2", Probe.NO_TYPE);
        probe.askRefused("if Nil then 1 else 2", Probe.NO_TYPE);
        probe.askRefused("if True then 1 else True", Probe.NO_TYPE);
        probe.askRefused("if 1 then z else z", Probe.NO_TYPE);
        probe.askRefused("if z then 1 1 else 1", Probe.NOT_THERE);
        probe.askRefused("if True then z else 1 1", Probe.NOT_THERE);
        probe.askRefused("if True then 1 1 else z", Probe.NO_TYPE);
        probe.askRefused("if True then 1 else z", Probe.NOT_THERE);
        probe.askRefused("(if True then 1 else True,z)", Probe.NO_TYPE);
    }

    /** "let: the definition, then the expression." */
    private static void lets(Probe probe) {
        probe.given("x=True");
        probe.asked("let x=1 in x", "int");
        probe.asked("(let x=1 in x,x)", "(int, bool)");
        probe.asked("let x=(x,x) in x", "(bool, bool)");
        probe.askRefused("let y=1 in z", Probe.NOT_THERE);
        probe.askRefused("(let y=1 in y,y)", Probe.NOT_THERE);
        probe.askRefused("let y=1 1 in z", Probe.NO_TYPE);
        probe.askRefused("let y=z in 1 1", Probe.NOT_THERE);
        probe.askRefused("let f a=a in a", Probe.NOT_THERE);
        probe.askRefused("let f a=z in 1 1", Probe.NOT_THERE);
        probe.askRefused("let f a=1 1 in z", Probe.NO_TYPE);
        probe.asked("let x=1 in let x=(x,x) in (x,x)", "((int, int), (int, int))");
    }

    /** "those variables of its type that do not stand in the type of a name there, hidden or not (..), are general" */
    private static void variablesOfNamesThatAreThere(Probe probe) {
        probe.given("pair x=(x,x)");
        probe.askRefused("fn x->let y=x in (y 1,y True)", Probe.NO_TYPE);
        probe.asked("fn x->let y=x in (y,y+1)", "int -> (int, int)");
        probe.asked("fn x->let y=fn z->(x,z) in (y 1,y True)", "a -> ((a, int), (a, bool))");
        probe.askRefused("fn x->let y=fn z->(x,z) in case y 1 of (a,_)->(a?a,x 1)", Probe.NO_TYPE);
        // Hidden by another one of its word.
        probe.askRefused("fn x->let y=x in fn x->let z=y in (z 1,z True)", Probe.NO_TYPE);
        probe.askRefused("fn x->let y=x in let x=1 in let z=y in (z 1,z True)", Probe.NO_TYPE);
        probe.askRefused("fn x->case x of (x,_)->let z=x in (z 1,z True)", Probe.NO_TYPE);
        probe.askRefused("fn x->case (x,1) of (x,y)->let z=x in (z 1,z True)", Probe.NO_TYPE);
        // Of words of patterns, and of functions and arguments that are being defined.
        probe.askRefused("fn x->case x of y:_->let z=y in (z 1,z True)", Probe.NO_TYPE);
        probe.askRefused("let f x=let y=x in (y 1,y True) in 1", Probe.NO_TYPE);
        probe.askRefused("let f x=let g=f in (g 1,g True) in 1", Probe.NO_TYPE);
        probe.asked("let f x=let g y=y in (g 1,g True) in f 1", "(int, bool)");
        // "(other than as general ones)"
        probe.asked("let i=fn x->x in let j=i in (j 1,j True)", "(int, bool)");
        probe.asked("let i x=x in let j x=i x in (j 1,j True)", "(int, bool)");
        probe.asked("let p=pair in (p 1,p True)", "((int, int), (bool, bool))");
        // One that is not general for want of a value stays so for those behind it.
        probe.askRefused("let i=(fn x->x)(fn x->x) in let j=i in (j 1,j True)", Probe.NO_TYPE);
        probe.asked("let i=(fn x->x)(fn x->x) in let j=fn y->(i,y) in (j 1,(j True,i 1))",
                "((int -> int, int), ((int -> int, bool), int))");
    }

    /** "if the expression is a VALUE: a number, word, constructor, fn, a pair of values, or a constructor applied to values" */
    private static void values(Probe probe) {
        probe.given("i x=x", "data t a b=A|B a|C a (list b)");
        String[] values = {"fn x->x", "i", "Nil", "A", "B", "C", "(Nil,Nil)", "(1,(i,fn x->x))", "B Nil", "C Nil Nil", "C 1 Nil",
            "B (B Nil)", "C (1,Nil) Nil", "(B) Nil", "((B)(Nil))", "(C Nil) Nil", "((i))", "(fn x->x)", "B i", "C i", "fn x->i i",
            "B (fn x->i x)"};
        for (String value : values) {
            probe.same("'" + value + "' is declared", declarable(probe, value), true);
        }
        String[] others = {"i i", "i Nil", "Nil:Nil", "i Nil:Nil", "if True then Nil else Nil", "let x=1 in Nil", "case 1 of _->Nil",
            "(1,i Nil)", "(i Nil,1)", "B (i Nil)", "C (i Nil) Nil", "C 1 (i Nil)", "B (Nil:Nil)", "(i B) Nil", "(i C) 1 Nil",
            "(fn x->x) Nil", "(if True then B else B) Nil", "B (if True then i else i)", "(let x=1 in i)", "((i Nil))", "((i i))",
            "B (let x=1 in Nil)", "(C 1) (i Nil)", "C (B (i Nil)) Nil"};
        for (String other : others) {
            probe.declareRefused("x=" + other, Probe.NO_TYPE);
            // By a let it is defined, but its variables are not general.
            probe.asked("let x=" + other + " in 1", "int");
        }
        probe.asked("let x=Nil in (1:x,True:x)", "(list int, list bool)");
        probe.askRefused("let x=i Nil in (1:x,True:x)", Probe.NO_TYPE);
        probe.askRefused("let x=(if True then Nil else Nil) in (1:x,True:x)", Probe.NO_TYPE);
        probe.asked("let x=((Nil)) in (1:x,True:x)", "(list int, list bool)");
        probe.askRefused("let x=(i Nil,1) in case x of (y,_)->(1:y,True:y)", Probe.NO_TYPE);
    }

    private static boolean declarable(Probe probe, String value) {
        probe.anew();
        probe.declares("i x=x", 0);
        probe.declares("data t a b=A|B a|C a (list b)", 102);
        return probe.declareAnswer("x=" + value).equals(1);
    }

    /** "the function and its arguments have new variables; the expression; the function's is unified with ..; then as if it was a value" */
    private static void definitionsWithArguments(Probe probe) {
        probe.given("i x=x");
        probe.declared("f x=i Nil", 1, "a -> list b");
        probe.declared("f x=x:Nil", 1, "a -> list a");
        probe.asked("let f x=i Nil in (1:f 1,True:f True)", "(list int, list bool)");
        // Within, it is of one type alone.
        probe.declareRefused("f x=(f 1,f True)", Probe.NO_TYPE);
        probe.declareRefused("f x=f x x", Probe.NO_TYPE);
        probe.declareRefused("f x=f", Probe.NO_TYPE);
        probe.declareRefused("f x y=f x", Probe.NO_TYPE);
        probe.declared("f x y=f y x", 1, "a -> a -> b");
        probe.declared("f x=if True then x else f (f x)", 1, "a -> a");
        // The arguments hide what was there, the function, too.
        probe.declared("i x=i (i x)", 1, "a -> a");
        probe.declared("f i=i 1", 1, "(int -> a) -> a");
        // Unified behind its expression: what is not there comes first.
        probe.declareRefused("f x=(f,z)", Probe.NOT_THERE);
        probe.declareRefused("f x=(f+1,z)", Probe.NOT_THERE);
        probe.askRefused("let f x=f+1 in z", Probe.NO_TYPE);
    }

    /** "case a of: a; then for each pattern and its expression: the pattern ..; the expression" */
    private static void casesAndTheirPatterns(Probe probe) {
        probe.given("data t=A|B int");
        probe.askRefused("case z of A->1 1", Probe.NOT_THERE);
        probe.askRefused("case 1 1 of D->z", Probe.NO_TYPE);
        probe.askRefused("case 1 of A->z", Probe.NO_TYPE);
        probe.askRefused("case 1 of D->1 1", Probe.NOT_THERE);
        probe.askRefused("case 1 of B->1 1", Probe.NOT_THERE);
        probe.askRefused("case 1 of 1->1 1|D->1", Probe.NO_TYPE);
        probe.askRefused("case 1 of 1->z|A->1", Probe.NOT_THERE);
        probe.askRefused("case 1 of 1->1|A->z", Probe.NO_TYPE);
        probe.askRefused("case 1 of 1->1|2->True|D->1", Probe.NO_TYPE);
        probe.askRefused("case 1 of 1->1|2->z|D->1 1", Probe.NOT_THERE);
        probe.askRefused("case 1 of (x,y)->1", Probe.NO_TYPE);
        probe.askRefused("case 1 of x:y->1", Probe.NO_TYPE);
        probe.askRefused("case Nil of (x,y)->1", Probe.NO_TYPE);
        probe.askRefused("case (1,2) of x:y->1", Probe.NO_TYPE);
        probe.askRefused("case (1,2) of 1->1", Probe.NO_TYPE);
        probe.askRefused("case A of True->1", Probe.NO_TYPE);
        probe.asked("case A of x->x", "t");
        probe.asked("case (1,True) of (x,y)->(y,x)", "(bool, int)");
        probe.asked("fn l->case l of x:y->(x,y)", "list a -> (a, list a)");
        probe.asked("fn l->case l of (x,y)->(x,y)", "(a, b) -> (a, b)");
        // Words of a pattern are there in its own expression alone.
        probe.askRefused("case 1 of x->x|y->x", Probe.NOT_THERE);
        probe.askRefused("(case 1 of x->x,x)", Probe.NOT_THERE);
        probe.askRefused("case x of x->x", Probe.NOT_THERE);
        probe.askRefused("case (1,2) of (x,_)->x|(_,y)->x", Probe.NOT_THERE);
    }

    /** "its words have new variables, not general" */
    private static void wordsOfPatternsAreNotGeneral(Probe probe) {
        probe.given();
        probe.askRefused("case fn x->x of i->(i 1,i True)", Probe.NO_TYPE);
        probe.askRefused("case (fn x->x,1) of (i,_)->(i 1,i True)", Probe.NO_TYPE);
        probe.askRefused("case (fn x->x):Nil of i:_->(i 1,i True)", Probe.NO_TYPE);
        probe.asked("case fn x->x of i->(i 1,i 2)", "(int, int)");
    }

    /** "the constructor's data type by a use of it (it must be there, and the number of names right; ..)" */
    private static void constructorsInPatterns(Probe probe) {
        probe.given("data t a b=A|B a|C b a");
        probe.asked("fn x->case x of A->1", "t a b -> int");
        probe.asked("fn x->case x of B y->y", "t a b -> a");
        probe.asked("fn x->case x of C y z->(y,z)", "t a b -> (b, a)");
        probe.asked("case B 1 of B x->x|C y z->z", "int");
        probe.asked("fn x->case x of B y->y+1|C y z->if y then z else 1", "t int bool -> int");
        for (String pattern : new String[] {"A x", "A _", "B", "B x y", "C", "C x", "C x y z", "D", "D x", "Nil x", "True _"}) {
            probe.askRefused("fn x->case x of " + pattern + "->1", Probe.NOT_THERE);
            // Ahead of what is wrong in its expression, and behind what is wrong before it.
            probe.askRefused("fn x->case x of " + pattern + "->1 1", Probe.NOT_THERE);
            probe.askRefused("fn x->case x of _->1 1|" + pattern + "->1", Probe.NO_TYPE);
            // Ahead of being unified with what the case is of.
            probe.askRefused("case 1 of " + pattern + "->1", Probe.NOT_THERE);
        }
    }

    /** "the expression; which is unified with that of the first one" */
    private static void expressionsOfCasesAreUnified(Probe probe) {
        probe.given();
        probe.askRefused("case 1 of 1->1|2->True", Probe.NO_TYPE);
        probe.askRefused("case 1 of 1->1|2->2|3->True", Probe.NO_TYPE);
        probe.asked("fn x->case 1 of 1->x|_->1", "int -> int");
        probe.asked("fn x->fn y->case 1 of 1->x|2->y|_->1", "int -> int -> int");
        probe.asked("case 1 of 1->Nil|_->1:Nil", "list int");
    }

    /** "What a name is, is the one latest defined that is seen." */
    private static void theLatestThatIsSeen(Probe probe) {
        probe.given("x=1", "x=True", "f y=x", "x=Nil");
        probe.asked("x", "list a");
        probe.asked("f", "a -> bool");
        probe.asked("fn x->x+1", "int -> int");
        probe.asked("let x=1 in fn x->if x then 1 else 2", "bool -> int");
        probe.asked("fn x->let x=1 in x+1", "a -> int");
        probe.asked("fn x->case 1 of x->x+1", "a -> int");
        probe.asked("case True of x->let x=1 in x+1", "int");
        probe.asked("(let x=1 in x,x)", "(int, list a)");
    }

    /** "A declaration without arguments whose type has a variable that is not general is refused." */
    private static void declarationsMustBeGeneral(Probe probe) {
        probe.given("i x=x");
        probe.declareRefused("x=i Nil", Probe.NO_TYPE);
        probe.declareRefused("x=i i", Probe.NO_TYPE);
        probe.declareRefused("x=(1,i Nil)", Probe.NO_TYPE);
        probe.declared("x=i 1", 1, "int");
        probe.declared("x=i Nil?Nil", 1, "bool");
        probe.declared("x=i (1:Nil)", 1, "list int");
        probe.declared("x=fn y->i y", 1, "a -> a");
        probe.declared("x y=i i", 1, "a -> b -> b");
        // What is asked may have such a one.
        probe.asked("i Nil", "list a");
    }

    /** "An operator's function counts as any other; : can't be declared." */
    private static void operatorsCountAsOthers(Probe probe) {
        probe.anew();
        probe.declares("x+y=(x,y)", 0, "a -> b -> (a, b)");
        probe.declares("x=1", 1, "int");
        probe.declares("x+y=(y,x)", 2, "a -> b -> (b, a)");
        probe.counts(3, 2);
        probe.asks("1+True", "(bool, int)");
        probe.scheme(0, "a -> b -> (a, b)");
        probe.declareThrows("x:y=1", Probe.NOT_THERE);
        probe.declareThrows("x:y=Nil", Probe.NOT_THERE);
        probe.counts(3, 2);
        probe.asks("1:Nil", "list int");
    }
}

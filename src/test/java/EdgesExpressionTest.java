/** The edges that the document names under EXPRESSIONS, CASES and DEFINITION, a method for each. */
public final class EdgesExpressionTest {
    /** Each place of an expression in another one; what stands for # lies one deeper than the form. */
    private static final String[] DEEPER = {"fn x->#", "let x=# in 1", "let x=1 in #", "let x y=# in 1",
        "if # then 1 else 1", "if True then # else 1", "if True then 1 else #", "case # of _->1", "case 1 of _->#",
        "case 1 of 1->1|_->#", "(#)", "(#,1)", "(1,#)", "1+(#)", "1+(#,1)", "1+(1,#)", "Nil (#)", "Nil 1(#)"};

    public static void main(String[] args) {
        Probe probe = new Probe("edges of EXPRESSIONS");
        chainsHaveOneToTwelveApplications(probe);
        applicationsHaveOneOrMoreAtoms(probe);
        formsGoOnAsFarAsTheyCan(probe);
        formsAreWhole(probe);
        noneIsMoreThanTwelveDeepInAsk(probe);
        noneIsMoreThanTwelveDeepInDeclare(probe);
        depthIsThatOfTheDeepestAlone(probe);
        casesHaveOneOrMore(probe);
        patternsHaveTheirForms(probe);
        constructorsHaveAnyNumberOfNames(probe);
        noWordTwiceInAPattern(probe);
        definitionsHaveAnyNumberOfWords(probe);
        wordsOfADefinitionAreDifferent(probe);
        functionsMayCallThemselves(probe);
        probe.end();
    }

    /** "a CHAIN: 1 to 12 applications with operators between two" */
    private static void chainsHaveOneToTwelveApplications(Probe probe) {
        probe.given();
        probe.asked("1", "int");
        probe.asked("1" + Probe.times(11, "+1"), "int");
        probe.askRefused("1" + Probe.times(12, "+1"), Probe.NO_TEXT);
        probe.askRefused("1" + Probe.times(39, "+1"), Probe.NO_TEXT);
        probe.declared("x=1" + Probe.times(11, "+1"), 0, "int");
        probe.declareRefused("x=1" + Probe.times(12, "+1"), Probe.NO_TEXT);
        // From the right, and of several levels.
        probe.asked(Probe.times(11, "1:") + "Nil", "list int");
        probe.askRefused(Probe.times(12, "1:") + "Nil", Probe.NO_TEXT);
        probe.asked("1+1*1-1/1:1+1*1-1/1:Nil?Nil", "bool");
        probe.askRefused("1+1*1-1/1:1+1*1-1/1:1:Nil?Nil", Probe.NO_TEXT);
        // Each application counts once, however many atoms it has, and each chain by itself.
        String twelve = "(1" + Probe.times(11, "+1") + ")";
        probe.asked(twelve + "+" + twelve, "int");
        probe.asked(twelve + Probe.times(11, "+1"), "int");
        probe.askRefused(twelve + Probe.times(12, "+1"), Probe.NO_TEXT);
        probe.given("f x y=1");
        probe.asked(Probe.times(11, "f 1 2+") + "f 1 2", "int");
        probe.askRefused(Probe.times(12, "f 1 2+") + "f 1 2", Probe.NO_TEXT);
        // It is no text ahead of all that its parts lack.
        probe.askRefused("z" + Probe.times(12, "+z"), Probe.NO_TEXT);
        probe.askRefused("z" + Probe.times(11, "+z"), Probe.NOT_THERE);
        // Operators stand between two alone.
        for (String text : new String[] {"+", "+1", "1+", "1++1", "1+1+", "(1+)", "(+1)", "1:", ":Nil", "()+1"}) {
            probe.askRefused(text, Probe.NO_TEXT);
        }
    }

    /** "an APPLICATION is one or more ATOMS side by side" */
    private static void applicationsHaveOneOrMoreAtoms(Probe probe) {
        probe.given();
        probe.asked("fn f->f 1 True(2)(3,4)", "(int -> bool -> int -> (int, int) -> a) -> a");
        probe.askRefused(Probe.times(40, "1 "), Probe.NO_TYPE);
        probe.askRefused(Probe.times(26, "(1)") + "(1", Probe.NO_TEXT);
        probe.askRefused(Probe.times(26, "(1)") + "1", Probe.NO_TYPE);
        probe.askRefused("()", Probe.NO_TEXT);
        probe.askRefused("", Probe.NO_TEXT);
        probe.askRefused("(1,2,3)", Probe.NO_TEXT);
        probe.askRefused("(1,)", Probe.NO_TEXT);
        probe.askRefused("(,1)", Probe.NO_TEXT);
        probe.askRefused("1,2", Probe.NO_TEXT);
        // Keywords begin no atom: in brackets alone they stand behind another one.
        probe.askRefused("1 fn x->x", Probe.NO_TEXT);
        probe.askRefused("1+fn x->x", Probe.NO_TEXT);
        probe.askRefused("1+if True then 1 else 2", Probe.NO_TEXT);
        probe.askRefused("1+let x=1 in x", Probe.NO_TEXT);
        probe.askRefused("1+case 1 of _->1", Probe.NO_TEXT);
        probe.asked("1+(if True then 1 else 2)", "int");
        probe.asked("1+(let x=1 in x)", "int");
        probe.asked("1+(case 1 of _->1)", "int");
        probe.asked("(fn x->x)(fn x->x)", "a -> a");
    }

    /** "Each of the first four goes on as far as it can." */
    private static void formsGoOnAsFarAsTheyCan(Probe probe) {
        probe.given();
        probe.asked("fn x -> x + 1", "int -> int");
        probe.askRefused("(fn x -> x) + 1", Probe.NO_TYPE);
        probe.asked("fn x -> x 1", "(int -> a) -> a");
        probe.asked("(fn x -> x) 1", "int");
        probe.asked("let x = 1 in x : Nil", "list int");
        probe.askRefused("(let x = 1 in x) Nil", Probe.NO_TYPE);
        probe.askRefused("if True then 1 else 2 : Nil ? Nil", Probe.NO_TYPE);
        probe.asked("if True then True else 2 : Nil ? Nil", "bool");
        probe.asked("(if True then 1 else 2) : Nil ? Nil", "bool");
        probe.asked("case 1 of _ -> 1 + 1 : Nil", "list int");
        probe.askRefused("(case 1 of _ -> Nil) + 1 : Nil", Probe.NO_TYPE);
        probe.asked("if True then if False then 1 else 2 else 3", "int");
        probe.asked("fn x -> fn y -> x y", "(a -> b) -> a -> b");
        probe.asked("let x = let y = 1 in y : Nil in x", "list int");
    }

    private static void formsAreWhole(Probe probe) {
        probe.given();
        String[] texts = {"fn", "fn x", "fn x->", "fn ->1", "fn x y->1", "fn _->1", "fn 1->1", "fn X->1", "fn (x)->1",
            "let", "let x", "let x=", "let x=1", "let x=1 in", "let x in 1", "let =1 in 1", "let 1=1 in 1", "let X=1 in 1",
            "let _=1 in 1", "let x y=1", "let x^y=1 in 1", "let data t=A in 1", "if", "if True", "if True then",
            "if True then 1", "if True then 1 else", "if True else 1", "if then 1 else 1", "if True then else 1",
            "case", "case 1", "case 1 of", "case of 1->1", "case 1 of 1", "case 1 of 1->", "case 1 of ->1",
            "case 1->1", "case 1 of 1->1|", "case 1 of |1->1", "case 1 of 1->1||2->2", "(1", "1)", "((1)", "(1))"};
        for (String text : texts) {
            probe.askRefused(text, Probe.NO_TEXT);
            probe.declareRefused("x=" + text, Probe.NO_TEXT);
        }
    }

    /** "lies one deeper than that; the text's own lies 0 deep, none more than 12" */
    private static void noneIsMoreThanTwelveDeepInAsk(Probe probe) {
        probe.given();
        probe.asked(Probe.times(12, "(") + "1" + Probe.times(12, ")"), "int");
        probe.askRefused(Probe.times(13, "(") + "1" + Probe.times(13, ")"), Probe.NO_TEXT);
        probe.askRefused(Probe.times(40, "(") + "1" + Probe.times(39, ")"), Probe.NO_TEXT);
        probe.askRefused(Probe.times(12, "fn x->") + "1", Probe.NO_TYPE);
        probe.askRefused(Probe.times(13, "fn x->") + "1", Probe.NO_TEXT);
        for (String form : DEEPER) {
            String text = Probe.times(11, "(") + form + Probe.times(11, ")");
            probe.askedAsText(text.replace("#", "True"));
            probe.askRefused(text.replace("#", "(True)"), Probe.NO_TEXT);
            probe.askRefused(text.replace("#", "(True,1)"), Probe.NO_TEXT);
            probe.askRefused(text.replace("#", "fn x->x"), Probe.NO_TEXT);
            String shallower = Probe.times(10, "(") + form + Probe.times(10, ")");
            probe.askedAsText(shallower.replace("#", "(True)"));
            probe.askedAsText(shallower.replace("#", "fn x->x"));
        }
    }

    /** "also that of a definition": of the text's own definition it lies 0 deep, of a let one deeper than that */
    private static void noneIsMoreThanTwelveDeepInDeclare(Probe probe) {
        probe.given();
        for (String head : new String[] {"x=", "f x=", "f x y z=", "x^y=", "x+y="}) {
            probe.declared(head + Probe.times(12, "(") + "1" + Probe.times(12, ")"), 0);
            probe.declareRefused(head + Probe.times(13, "(") + "1" + Probe.times(13, ")"), Probe.NO_TEXT);
            probe.declared(head + Probe.times(11, "(") + "fn z->1" + Probe.times(11, ")"), 0);
            probe.declareRefused(head + Probe.times(12, "(") + "fn z->1" + Probe.times(12, ")"), Probe.NO_TEXT);
        }
        for (String head : new String[] {"let x=", "let f x=", "let x=1 in let y="}) {
            int deep = head.contains("in") ? 10 : 11;
            probe.asked(head + Probe.times(deep, "(") + "1" + Probe.times(deep, ")") + " in 1", "int");
            probe.askRefused(head + Probe.times(deep + 1, "(") + "1" + Probe.times(deep + 1, ")") + " in 1", Probe.NO_TEXT);
        }
    }

    private static void depthIsThatOfTheDeepestAlone(Probe probe) {
        probe.given();
        String twelve = Probe.times(12, "(") + "1" + Probe.times(12, ")");
        probe.asked(twelve + "+" + twelve + "+" + twelve, "int");
        probe.askRefused(twelve + "+(" + twelve + ")", Probe.NO_TEXT);
        probe.askRefused("(" + twelve + ")+" + twelve, Probe.NO_TEXT);
        probe.asked("1" + Probe.times(11, "+(1)"), "int");
    }

    /** "PATTERN -> EXPRESSION, and more of these with | between two" */
    private static void casesHaveOneOrMore(Probe probe) {
        probe.given();
        probe.askRefused("case 1 of", Probe.NO_TEXT);
        probe.asked("case 1 of 1->1", "int");
        probe.asked("case 1 of 1->1" + Probe.times(13, "|2->2"), "int");
        probe.matches(1, 12);
        probe.askRefused("case 1 of 1->1" + Probe.times(13, "|2->2") + "|", Probe.NO_TEXT);
        // The alternatives behind an inner case belong to that.
        probe.asked("case 1 of 1->case True of True->1|False->2", "int");
        probe.matches(1, 0);
        probe.askRefused("case 1 of 1->case True of True->1|2->2", Probe.NO_TYPE);
        probe.asked("case 1 of 1->(case True of True->1)|2->2", "int");
        probe.matches(2, 0);
    }

    /** "A PATTERN: a number; ( NAME , NAME ); NAME : NAME; a constructor and any number of NAMES; or a NAME." */
    private static void patternsHaveTheirForms(Probe probe) {
        probe.given();
        String[] patterns = {"", "(x)", "(x,y,z)", "(x,)", "(,x)", "()", "(1,x)", "(x,1)", "(A,x)", "(x:y)", "(A)",
            "((x,y),z)", "x:y:z", "x:1", "1:x", "Nil:x", "x:Nil", "x:", ":x", "x y", "x 1", "1 x", "1 2", "A 1", "A B",
            "A (x)", "A (x,y)", "x+y", "x-y", "-1", "_ _", "_:_:_", "fn", "int", "x=1", "x|y", "x,y"};
        for (String pattern : patterns) {
            probe.askRefused("case 1 of " + pattern + "->1", Probe.NO_TEXT);
            probe.askRefused("case 1 of _->1|" + pattern + "->1", Probe.NO_TEXT);
        }
        probe.asked("fn x->case x of 1->1", "int -> int");
        probe.asked("fn x->case x of (a,_)->1", "(a, b) -> int");
        probe.asked("fn x->case x of _:b->1", "list a -> int");
        probe.asked("fn x->case x of True->1", "bool -> int");
        probe.asked("fn x->case x of y->1", "a -> int");
        probe.asked("fn x->case x of _->1", "a -> int");
    }

    /** "a constructor and any number of NAMES": how many there are is no matter of the text */
    private static void constructorsHaveAnyNumberOfNames(Probe probe) {
        probe.given("data t=A|B int|C int int");
        probe.asked("fn x->case x of A->1", "t -> int");
        probe.asked("fn x->case x of B y->y", "t -> int");
        probe.asked("fn x->case x of C y z->y+z", "t -> int");
        String[] wrong = {"A x", "A _", "B", "B x y", "B _ _", "C", "C x", "C x y z", "C" + Probe.times(30, " _"),
            "True x", "Nil x", "D", "D x", "D" + Probe.times(30, " _")};
        for (String pattern : wrong) {
            probe.askRefused("case A of " + pattern + "->1", Probe.NOT_THERE);
        }
    }

    /** "no word stands twice in a pattern"; "_, which stands for none" */
    private static void noWordTwiceInAPattern(Probe probe) {
        probe.given("data t a=A a a");
        String[] twice = {"(x,x)", "x:x", "A x x", "A x y x", "A x x y", "A y x x", "True x x", "D x x"};
        for (String pattern : twice) {
            probe.askRefused("fn z->case z of " + pattern + "->1", Probe.NO_TEXT);
        }
        String[] taken = {"(_,_)", "_:_", "A _ _", "(x,_)", "(_,x)", "x:_", "A _ x", "A x _", "A x y"};
        for (String pattern : taken) {
            probe.askedAsText("fn z->case z of " + pattern + "->1");
        }
        // In two patterns, or where it hides another one, it may stand.
        probe.asked("fn x->case x of (x,y)->x|(y,x)->y", "(a, b) -> a");
        probe.askRefused("fn z->case z of (_,_)->_", Probe.NO_TEXT);
        probe.askRefused("fn z->case z of _->z _", Probe.NO_TEXT);
    }

    /** "A DEFINITION: a word, any number of further words" */
    private static void definitionsHaveAnyNumberOfWords(Probe probe) {
        probe.given();
        probe.declared("f=1", 0, "int");
        probe.declared("f a=1", 0, "a -> int");
        probe.declared("f a b c d e g h i j k l=1", 0);
        // One more is a text, but its type is too great.
        probe.declareRefused("f a b c d e g h i j k l m=1", Probe.NO_TYPE);
        probe.declareRefused("f a b c d e g h i j k l m n o p q r s t u v w x y z=1", Probe.NO_TYPE);
        probe.declareRefused("f a b c d e g h i j k l m n o p q r s t u v w x y z=zz", Probe.NOT_THERE);
        probe.asked("let f=1 in f", "int");
        probe.asked("let f a=1 in f 1", "int");
        probe.asked("let f a b c d e g h i j k l=1 in 1", "int");
        probe.askRefused("let f a b c d e g h i j k l m=1 in 1", Probe.NO_TYPE);
        for (String text : new String[] {"=1", "f", "f x", "f=", "f x=", "f x y", "f 1=1", "f _=1", "f A=1", "A=1", "1=1",
            "f x=1=1", "f=1=1", "f,g=1", "(f)=1", "f (x)=1", "f->1"}) {
            probe.declareRefused(text, Probe.NO_TEXT);
            probe.askRefused("let " + text + " in 1", Probe.NO_TEXT);
        }
    }

    /** "all of these different" */
    private static void wordsOfADefinitionAreDifferent(Probe probe) {
        probe.given();
        for (String words : new String[] {"f f", "f x x", "f x f", "f f x", "f x y x", "f x y y", "f x y f"}) {
            probe.declareRefused(words + "=1", Probe.NO_TEXT);
            probe.askRefused("let " + words + "=1 in 1", Probe.NO_TEXT);
        }
        // Those of an inner definition may be the same as outer ones.
        probe.declared("f x=let f x=x in f x", 0, "a -> a");
        probe.declared("f x=let x f=f in x 1", 0, "a -> int");
    }

    /** "With further words (its ARGUMENTS) it is a FUNCTION, which may call itself." */
    private static void functionsMayCallThemselves(Probe probe) {
        probe.given();
        probe.declared("f x=f x", 0, "a -> b");
        probe.declareRefused("f=f", Probe.NOT_THERE);
        probe.declareRefused("f=fn x->f x", Probe.NOT_THERE);
        probe.asked("let f x=f x in f 1", "a");
        probe.askRefused("let f=f in 1", Probe.NOT_THERE);
        probe.askRefused("let f=fn x->f x in 1", Probe.NOT_THERE);
        probe.declared("x^y=1", 0, "a -> b -> int");
        probe.infix('^', 1, true);
        probe.declares("x^y=y^x", 1, "a -> a -> b");
        // One without arguments means what was there before.
        probe.given("f x=x");
        probe.declared("f=f 1", 1, "int");
        probe.asked("let f=f 1 in f", "int");
    }
}

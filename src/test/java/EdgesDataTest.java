/** The edges that the document names under DECLARATION, a method for each sentence or part of one. */
public final class EdgesDataTest {
    public static void main(String[] args) {
        Probe probe = new Probe("edges of DECLARATION");
        operatorsHaveTwoDifferentWords(probe);
        upToTwoParameters(probe);
        parametersAreDifferent(probe);
        oneToFourAlternatives(probe);
        upToTwoTypeAtoms(probe);
        typeAtomsThatAreWords(probe);
        dataTypesHaveTheirTypes(probe);
        wordsWithTypesBehindAreDataTypes(probe);
        typesHaveTheirForms(probe);
        noneIsMoreThanTwelveDeep(probe);
        constructorsUseTheirTypes(probe);
        thereAlready(probe);
        probe.end();
    }

    /** "WORD OPERATOR WORD = EXPRESSION (two different words)"; ": can't be declared" */
    private static void operatorsHaveTwoDifferentWords(Probe probe) {
        probe.given();
        for (char c : "+-*/<?@^&".toCharArray()) {
            probe.declared("x" + c + "y=(y,x)", 0, "a -> b -> (b, a)");
            probe.declareRefused("x" + c + "x=1", Probe.NO_TEXT);
            probe.declareRefused("x" + c + "y z=1", Probe.NO_TEXT);
            probe.declareRefused("x y" + c + "z=1", Probe.NO_TEXT);
            probe.declareRefused("x" + c + "=1", Probe.NO_TEXT);
            probe.declareRefused(c + "y=1", Probe.NO_TEXT);
            probe.declareRefused(c + "x y=1", Probe.NO_TEXT);
            probe.declareRefused("x" + c + "y", Probe.NO_TEXT);
            probe.declareRefused("x" + c + "y=", Probe.NO_TEXT);
            probe.declareRefused("x" + c + "1=1", Probe.NO_TEXT);
            probe.declareRefused("x" + c + "_=1", Probe.NO_TEXT);
            probe.declareRefused("x" + c + c + "y=1", Probe.NO_TEXT);
            probe.askRefused("let x" + c + "y=1 in 1", Probe.NO_TEXT);
        }
        // What is no text comes first, all else of the declaration of : behind that.
        probe.declareRefused("x:y=1", Probe.NOT_THERE);
        probe.declareRefused("x:x=1", Probe.NO_TEXT);
        probe.declareRefused("x:y=", Probe.NO_TEXT);
        probe.declareRefused("x:y=z", Probe.NOT_THERE);
        // The operator stands ahead of its expression.
        probe.declareRefused("x:y=1 1", Probe.NOT_THERE);
        probe.declareRefused("x:y=(1 1,z)", Probe.NOT_THERE);
        probe.declareRefused("x:y=x:y", Probe.NOT_THERE);
    }

    /** "data, a word, up to 2 further words (its PARAMETERS" */
    private static void upToTwoParameters(Probe probe) {
        probe.given();
        probe.declared("data t=A", 102);
        probe.asks("A", "t");
        probe.declared("data t a=A", 102);
        probe.asks("A", "t a");
        probe.declared("data t a b=A", 102);
        probe.asks("A", "t a b");
        probe.declareRefused("data t a b c=A", Probe.NO_TEXT);
        probe.declareRefused("data t a b c d=A", Probe.NO_TEXT);
        for (String text : new String[] {"data", "data t", "data t a", "data t a b", "data=A", "data 1=A", "data T=A",
            "data t 1=A", "data t A=A", "data t _=A", "data t (a)=A", "data int=A", "data t int=A", "data _=A",
            "data t a->A", "t a=data A", "data data t=A"}) {
            probe.declareRefused(text, Probe.NO_TEXT);
        }
        probe.askRefused("data t=A", Probe.NO_TEXT);
    }

    /** "different ones"; "A parameter may have the declared word." */
    private static void parametersAreDifferent(Probe probe) {
        probe.given();
        probe.declareRefused("data t a a=A", Probe.NO_TEXT);
        probe.declareRefused("data t t t=A", Probe.NO_TEXT);
        probe.declared("data t t=A t", 102);
        probe.asks("A", "a -> t a");
        probe.declared("data t t a=A t a", 102);
        probe.asks("A", "a -> b -> t a b");
        probe.declared("data t a t=A t a", 102);
        probe.asks("A", "a -> b -> t b a");
        probe.declared("data t bool list=A bool list", 102);
        probe.asks("A 1", "a -> t int a");
    }

    /** "1 to 4 ALTERNATIVES with | between two" */
    private static void oneToFourAlternatives(Probe probe) {
        probe.given();
        probe.declareRefused("data t=", Probe.NO_TEXT);
        probe.declared("data t=A", 102);
        probe.declared("data t=A|B|C|D", 102);
        probe.asks("(A,(B,(C,D)))", "(t, (t, (t, t)))");
        probe.declareRefused("data t=A|B|C|D|E", Probe.NO_TEXT);
        probe.declareRefused("data t=A|B|C|D|E|F|G", Probe.NO_TEXT);
        probe.declareRefused("data t=A|B|C|D|", Probe.NO_TEXT);
        // No text comes first, whatever else is wrong.
        probe.declareRefused("data bool=A|B|C|D|E", Probe.NO_TEXT);
        probe.declareRefused("data t=A|A|A|A|A", Probe.NO_TEXT);
        probe.declared("data t a=A a a|B a a|C a a|D a a", 102);
        for (String text : new String[] {"data t=|A", "data t=A||B", "data t=A B", "data t=A,B", "data t=(A)", "data t=a",
            "data t=1", "data t=int", "data t=_", "data t=A=B", "data t=A:B", "data t=A;B"}) {
            probe.declareRefused(text, Probe.NO_TEXT);
        }
    }

    /** "a constructor and up to 2 TYPE ATOMS" */
    private static void upToTwoTypeAtoms(Probe probe) {
        probe.given();
        probe.declared("data t=A", 102);
        probe.asks("A", "t");
        probe.declared("data t=A int", 102);
        probe.asks("A", "int -> t");
        probe.declared("data t=A int bool", 102);
        probe.asks("A", "int -> bool -> t");
        probe.declareRefused("data t=A int int int", Probe.NO_TEXT);
        probe.declareRefused("data t=A|B int bool t", Probe.NO_TEXT);
        probe.declareRefused("data t a=A (a) (a) (a)", Probe.NO_TEXT);
        probe.declareRefused("data t=A int int x", Probe.NO_TEXT);
        for (String text : new String[] {"A 1", "A B", "A _", "A ()", "A (", "A (int", "A int)", "A int,int", "A int->int",
            "A->int", "A,int", "A in", "A -int"}) {
            probe.declareRefused("data t=" + text, Probe.NO_TEXT);
        }
    }

    /** "int; a parameter; a word that is a data type without parameters, also the one that is declared" */
    private static void typeAtomsThatAreWords(Probe probe) {
        probe.given("data u=U", "data v a=V a");
        probe.declared("data t a=A int a|B bool u", 104);
        probe.asks("A", "int -> a -> t a");
        probe.asks("B", "bool -> u -> t a");
        probe.declared("data t=A t t", 104);
        probe.asks("A", "t -> t -> t");
        // Not there; or there, with parameters.
        probe.declareRefused("data t=A a", Probe.NOT_THERE);
        probe.declareRefused("data t a=A b", Probe.NOT_THERE);
        probe.declareRefused("data t a b=A c", Probe.NOT_THERE);
        probe.declareRefused("data t=A (z)", Probe.NOT_THERE);
        probe.declareRefused("data t=A list", Probe.NOT_THERE);
        probe.declareRefused("data t=A v", Probe.NOT_THERE);
        probe.declareRefused("data t=A (v)", Probe.NOT_THERE);
        probe.declareRefused("data t a=A t", Probe.NOT_THERE);
        probe.declareRefused("data t a=A v a", Probe.NOT_THERE);
        probe.declareRefused("data t=A (v->int)", Probe.NOT_THERE);
        probe.declareRefused("data t=A (int->v)", Probe.NOT_THERE);
        probe.declareRefused("data t=A (int,v)", Probe.NOT_THERE);
        // Names of another kind are no data types.
        probe.given("u=1", "f x=x");
        probe.declareRefused("data t=A u", Probe.NOT_THERE);
        probe.declareRefused("data t=A (f int)", Probe.NOT_THERE);
        probe.declared("data u=A u", 102);
    }

    /** "a word that is a data type, and as many type atoms as that has parameters (at least one)" */
    private static void dataTypesHaveTheirTypes(Probe probe) {
        probe.given("data u=U", "data v a=V a", "data w a b=W a b");
        probe.declared("data t=A (v int)(w int bool)", 105);
        probe.asks("A", "v int -> w int bool -> t");
        probe.declared("data t a=A (t int)(list(t a))", 105);
        probe.asks("A", "t int -> list (t a) -> t a");
        probe.declared("data t a b=A (t b a)", 105);
        probe.asks("A", "t a b -> t b a");
        String[] wrong = {"(bool int)", "(u int)", "(list int int)", "(v int int)", "(w int)", "(w int int int)", "w",
            "(w)", "(v)", "(t int)", "(t int int)", "(z int)", "(list)", "(list (v))", "(v (v int int))",
            "(w" + Probe.times(12, " int") + ")"};
        for (String atom : wrong) {
            probe.declareRefused("data t=A " + atom, Probe.NOT_THERE);
        }
        probe.declareRefused("data t a=A (t a a)", Probe.NOT_THERE);
        probe.declareRefused("data t a b=A (t a)", Probe.NOT_THERE);
        probe.declareRefused("data t a b=A (t a b a)", Probe.NOT_THERE);
        probe.declareRefused("data t a b=A t", Probe.NOT_THERE);
    }

    /** "Where types stand behind a word it is a data type, even if a parameter has this word; else it is the parameter." */
    private static void wordsWithTypesBehindAreDataTypes(Probe probe) {
        probe.given();
        probe.declared("data t list=A list (list list)", 102);
        probe.asks("A", "a -> list a -> t a");
        probe.declared("data t list=A (list(list int))", 102);
        probe.asks("A", "list (list int) -> t a");
        probe.declared("data t t=A t (t t)", 102);
        probe.asks("A", "a -> t a -> t a");
        probe.declared("data t t=A (t,t)(t->t)", 102);
        probe.asks("A", "(a, a) -> (a -> a) -> t a");
        probe.declared("data t bool=A bool", 102);
        probe.asks("A 1", "t int");
        probe.declareRefused("data t a=A (a int)", Probe.NOT_THERE);
        probe.declareRefused("data t bool=A (bool int)", Probe.NOT_THERE);
        probe.declareRefused("data t a=A (a a)", Probe.NOT_THERE);
        probe.declared("data t a=A (a)(a->a)", 102);
    }

    /** "A TYPE: a type atom; a type atom, ->, and a type; a type atom, a comma and a type atom" */
    private static void typesHaveTheirForms(Probe probe) {
        probe.given();
        probe.declared("data t a=A (int->a->bool)((int->a)->bool)", 102);
        probe.asks("A", "(int -> a -> bool) -> ((int -> a) -> bool) -> t a");
        probe.declared("data t a=A (int,a)((int,a)->(a,int))", 102);
        probe.asks("A", "(int, a) -> ((int, a) -> (a, int)) -> t a");
        probe.declared("data t=A (int->list int)(int->int,bool)", 102);
        probe.asks("A", "(int -> list int) -> (int -> (int, bool)) -> t");
        String[] wrong = {"()", "(int,int,int)", "(int,int->int)", "(list int->int)", "(list int,int)", "(int,list int)",
            "(int int)", "((int) int)", "(int->)", "(->int)", "(int,)", "(,int)", "(int->int", "(int=int)", "(int|int)",
            "(A)", "(1)", "(_)", "(int:int)", "(int-int)", "(int- >int)", "(list 1)", "(list int)int)"};
        for (String atom : wrong) {
            probe.declareRefused("data t=A " + atom, Probe.NO_TEXT);
            probe.declareRefused("data t=A|B int " + atom, Probe.NO_TEXT);
        }
    }

    /** "A type in brackets, or behind ->, lies one deeper than what it is part of, alternatives 0 deep; none more than 12." */
    private static void noneIsMoreThanTwelveDeep(Probe probe) {
        probe.given("data l a=L a");
        deep(probe, "(", "int");
        deep(probe, "(", "a");
        deep(probe, "(a,", "a");
        deep(probe, "(l", " a");
        probe.given();
        probe.declared("data t a=A(" + Probe.times(11, "a->") + "a)", 102);
        probe.declareRefused("data t a=A(" + Probe.times(12, "a->") + "a)", Probe.NO_TEXT);
        probe.declared("data t a=A(" + Probe.times(10, "a->") + "(a))", 102);
        probe.declareRefused("data t a=A(" + Probe.times(11, "a->") + "(a))", Probe.NO_TEXT);
        // What stands before -> lies no deeper for that.
        probe.declared("data t a=A" + Probe.times(11, "(") + "(a)->a" + Probe.times(11, ")"), 102);
        probe.declareRefused("data t a=A" + Probe.times(12, "(") + "(a)->a" + Probe.times(12, ")"), Probe.NO_TEXT);
        probe.declareRefused("data t a=A" + Probe.times(12, "(") + "a->a" + Probe.times(12, ")"), Probe.NO_TEXT);
        probe.declared("data t a=A" + Probe.times(11, "(") + "a->a" + Probe.times(11, ")"), 102);
        probe.declared("data t a=A" + Probe.times(12, "(") + "a,a" + Probe.times(12, ")"), 102);
        // Each of two atoms, and of the alternatives, begins anew.
        String twelve = Probe.times(12, "(") + "a" + Probe.times(12, ")");
        probe.declared("data t a=A" + twelve + twelve, 102);
        probe.declared("data t a=A" + twelve + "|B" + twelve, 102);
        probe.declareRefused("data t a=A" + twelve + "(" + twelve + ")", Probe.NO_TEXT);
        probe.declareRefused("data t a=A|B a(" + twelve + ")", Probe.NO_TEXT);
    }

    /** The middle in 12 of these brackets, and in 13. */
    private static void deep(Probe probe, String left, String middle) {
        probe.declared("data t a=A" + Probe.times(12, left) + middle + Probe.times(12, ")"), 103);
        probe.declareRefused("data t a=A" + Probe.times(13, left) + middle + Probe.times(13, ")"), Probe.NO_TEXT);
    }

    /** "(A constructor C with types t, u: t -> u -> its data type, its parameters general.)" */
    private static void constructorsUseTheirTypes(Probe probe) {
        probe.given("data t a b=A|B a|C b a");
        probe.asked("A", "t a b");
        probe.asked("B", "a -> t a b");
        probe.asked("C", "a -> b -> t b a");
        probe.asked("(B 1,B True)", "(t int a, t bool b)");
        probe.asked("(C 1,C True)", "(a -> t a int, b -> t b bool)");
        probe.askRefused("B 1 2", Probe.NO_TYPE);
        probe.askRefused("A 1", Probe.NO_TYPE);
    }

    /** "a constructor or data type that is there already (in the same declaration, too" */
    private static void thereAlready(Probe probe) {
        probe.given("data u=U");
        for (String word : new String[] {"bool", "list", "u"}) {
            probe.declareRefused("data " + word + "=A", Probe.NOT_THERE);
            probe.declareRefused("data " + word + " a=A", Probe.NOT_THERE);
        }
        for (String name : new String[] {"True", "False", "Nil", "U"}) {
            probe.declareRefused("data t=" + name, Probe.NOT_THERE);
            probe.declareRefused("data t=A|" + name + " int", Probe.NOT_THERE);
            probe.declareRefused("data t=A|B|C|" + name, Probe.NOT_THERE);
        }
        probe.declareRefused("data t=A|A", Probe.NOT_THERE);
        probe.declareRefused("data t=A|B|C|A int", Probe.NOT_THERE);
        probe.declareRefused("data t=A|B|B|C", Probe.NOT_THERE);
        // What was refused with them is not there behind that.
        probe.anew();
        probe.declareThrows("data t=A|A", Probe.NOT_THERE);
        probe.askThrows("A", Probe.NOT_THERE);
        probe.askThrows("case 1 of A->1", Probe.NOT_THERE);
        probe.declareThrows("data w=W t", Probe.NOT_THERE);
        probe.counts(0, 2);
        probe.declares("data t=A", 102);
        probe.asks("A", "t");
        probe.counts(0, 3);
        // Names and data types do not get into each other's way.
        probe.declares("t=1", 0, "int");
        probe.declares("bool=1", 1, "int");
        probe.declares("list x=x", 2, "a -> a");
        probe.declares("data v=V bool", 103);
    }
}

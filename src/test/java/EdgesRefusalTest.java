/** The edges that the document names under REFUSALS and promises 3 and 4, a method for each sentence or part of one. */
public final class EdgesRefusalTest {
    public static void main(String[] args) {
        Probe probe = new Probe("edges of REFUSALS");
        allOfTheTextComesFirst(probe);
        thenAsThePartsAreGoneThrough(probe);
        dataTypeThenAlternativesInOrder(probe);
        roomComesLast(probe);
        twentyFourNames(probe);
        namesOfAllKindsCount(probe);
        sixDataTypes(probe);
        onesRoomIsNotTheOthers(probe);
        numbersGoOnBehindRefusedOnes(probe);
        draftIsEmptyThen(probe);
        draftIsEmptyBehindTakenOnes(probe);
        whatIsRefusedIsNotThere(probe);
        anEmptyDraftIsThrown(probe);
        fiftyNineAreNotSixty(probe);
        sixtyOfEachKind(probe);
        falseAndMinusOneCountNothing(probe);
        whatIsTakenCountsNothing(probe);
        givenUpChangesNothing(probe);
        givenUpLeavesTheDraft(probe);
        allElseGoesOn(probe);
        probe.end();
    }

    /** "the text (all of it) is no declaration or no expression: IllegalArgumentException. Then, .." */
    private static void allOfTheTextComesFirst(Probe probe) {
        probe.given("data t=A");
        String[] wrongInside = {"z", "Z", "1 1", "A 1", "case A of D->1", "case A of A x->1", "1+True"};
        String[] wrongBehind = {")", " >", " 12345", " abcdefg", " aB", " @ 1", " +", "+1+1+1+1+1+1+1+1+1+1+1+1", " ;", " =1", "|", ",1"};
        for (String inside : wrongInside) {
            for (String behind : wrongBehind) {
                probe.askRefused(inside + behind, Probe.NO_TEXT);
                probe.declareRefused("x=" + inside + behind, Probe.NO_TEXT);
            }
        }
        probe.declareRefused("data bool=A|", Probe.NO_TEXT);
        probe.declareRefused("data t=A z z z", Probe.NO_TEXT);
        probe.declareRefused("data t=True)", Probe.NO_TEXT);
        probe.declareRefused("x:y=1)", Probe.NO_TEXT);
        // What is one of them is not the other.
        probe.declareRefused("1", Probe.NO_TEXT);
        probe.declareRefused("A", Probe.NO_TEXT);
        probe.askRefused("x=1", Probe.NO_TEXT);
        probe.askRefused("data u=B", Probe.NO_TEXT);
        probe.askRefused("x^y=1", Probe.NO_TEXT);
    }

    /** "as the parts are gone through": of two that are wrong the first one is told */
    private static void thenAsThePartsAreGoneThrough(Probe probe) {
        probe.given("data t=A|B int", "f x y=x+y");
        // # is gone through ahead of @ in each.
        String[] forms = {"(#,@)", "f # @", "f # @ 1", "# @", "# + @", "# : @", "if # then @ else 1", "if # then 1 else @",
            "if True then # else @", "let x=# in @", "let x y=# in @", "case # of _->@", "case 1 of 1->#|_->@",
            "case # of A->@", "case 1 of 1->#|D->@", "(fn x->#) @", "((#),(@))", "(1,(#,@))", "1+#*@", "#*1+@"};
        for (String form : forms) {
            probe.askRefused(form.replace("#", "(1 1)").replace("@", "z"), Probe.NO_TYPE);
            probe.askRefused(form.replace("#", "z").replace("@", "(1 1)"), Probe.NOT_THERE);
            probe.askRefused(form.replace("#", "(1 1)").replace("@", "(case A of D->1)"), Probe.NO_TYPE);
            probe.askRefused(form.replace("#", "(case A of B->1)").replace("@", "(1 1)"), Probe.NOT_THERE);
            probe.declareRefused("x=" + form.replace("#", "(1 1)").replace("@", "z"), Probe.NO_TYPE);
            probe.declareRefused("x=" + form.replace("#", "z").replace("@", "(1 1)"), Probe.NOT_THERE);
        }
        // Whether its type is general is looked at behind all its parts.
        probe.declareRefused("x=((fn x->x)Nil,z)", Probe.NOT_THERE);
        probe.declareRefused("x=((fn x->x)Nil,1)", Probe.NO_TYPE);
    }

    /** "the data type first, then each alternative, its constructor, its types": all of these are of one kind, but for room */
    private static void dataTypeThenAlternativesInOrder(Probe probe) {
        probe.given("data t=A");
        for (String text : new String[] {"data t=B", "data bool=True z", "data u=A", "data u=B z", "data u=B int z", "data u=B|A z",
            "data u=B|C (z int)", "data u=B|B", "data u=B|C|D list", "data list=A"}) {
            probe.declareRefused(text, Probe.NOT_THERE);
        }
        // A data type is there for its own types, its constructors are there for none.
        probe.declared("data u=B u|C (u->t)", 103);
        probe.asks("(B,C)", "(u -> u, (u -> t) -> u)");
    }

    private static void fill(Probe probe) {
        for (int i = 0; i < 24; i++) {
            probe.declares("x=" + i, i);
        }
        for (int i = 2; i < 6; i++) {
            probe.declares("data t" + (char) ('a' + i) + "=T" + (char) ('a' + i), 100 + i);
        }
    }

    /** "Last, no room" */
    private static void roomComesLast(Probe probe) {
        probe.given(EdgesRefusalTest::fill);
        probe.declareRefused("y=1", Probe.NO_ROOM);
        probe.declareRefused("y=1)", Probe.NO_TEXT);
        probe.declareRefused("y=", Probe.NO_TEXT);
        probe.declareRefused("", Probe.NO_TEXT);
        probe.declareRefused("y=z", Probe.NOT_THERE);
        probe.declareRefused("y=1 1", Probe.NO_TYPE);
        probe.declareRefused("y=(fn x->x)Nil", Probe.NO_TYPE);
        probe.declareRefused("f a b c d e g h i j k l=(1,1)", Probe.NO_TYPE);
        probe.declareRefused("f a b c d e g h i j k l=Nil", Probe.NO_ROOM);
        probe.declareRefused("x:y=1", Probe.NOT_THERE);
        probe.declareRefused("data u=U", Probe.NO_ROOM);
        probe.declareRefused("data u a b=U a|V b", Probe.NO_ROOM);
        probe.declareRefused("data u=U|", Probe.NO_TEXT);
        probe.declareRefused("data tc=U", Probe.NOT_THERE);
        probe.declareRefused("data bool=U", Probe.NOT_THERE);
        probe.declareRefused("data u=Tc", Probe.NOT_THERE);
        probe.declareRefused("data u=U|U", Probe.NOT_THERE);
        probe.declareRefused("data u=U z", Probe.NOT_THERE);
        probe.declareRefused("data u=U|V list", Probe.NOT_THERE);
        // ask() needs no room.
        probe.asked("let y=1 in (x,y)", "(int, int)");
        probe.asked("let f y=y in (f x,Tc)", "(int, tc)");
    }

    /** "(at most 24, without those that are there at first": "what would be the 25th name" */
    private static void twentyFourNames(Probe probe) {
        probe.anew();
        for (int i = 0; i < 24; i++) {
            probe.counts(i, 2);
            probe.declares("g" + (char) ('a' + i) + " x=x", i);
        }
        probe.scheme(23, "a -> a");
        probe.declareThrows("gy x=x", Probe.NO_ROOM);
        probe.counts(24, 2);
        probe.same("scheme(24)", probe.scheme(24), -1);
        probe.same("written stays", probe.written(), "a -> a");
        probe.askThrows("gy", Probe.NOT_THERE);
        probe.asks("gx 1", "int");
        probe.asks("ga 1", "int");
        probe.declareThrows("ga x=1", Probe.NO_ROOM);
        probe.asks("ga True", "bool");
        probe.scheme(0, "a -> a");
        probe.counts(24, 2);
    }

    /** "a name that is declared again is a new one, which holds from then on" */
    private static void namesOfAllKindsCount(Probe probe) {
        probe.anew();
        for (int i = 0; i < 8; i++) {
            probe.declares("x=1", 3 * i, "int");
            probe.declares("x+y=True", 3 * i + 1, "a -> b -> bool");
            probe.declares("x=True", 3 * i + 2, "bool");
            probe.asks("x", "bool");
        }
        probe.counts(24, 2);
        probe.declareThrows("x=1", Probe.NO_ROOM);
        probe.declareThrows("x+y=1", Probe.NO_ROOM);
        probe.declareThrows("x*y=1", Probe.NO_ROOM);
        probe.asks("x", "bool");
        probe.asks("1+2", "bool");
        probe.asks("1*2", "int");
    }

    /** "the number of the data type (bool 0, list 1, at most 6)": "the 7th data type" */
    private static void sixDataTypes(Probe probe) {
        probe.anew();
        for (int i = 2; i < 6; i++) {
            probe.counts(0, i);
            probe.declares("data t" + (char) ('a' + i) + "=T" + (char) ('a' + i), 100 + i);
        }
        probe.counts(0, 6);
        probe.same("count(7)", probe.count(7), 1);
        probe.same("count(8)", probe.count(8), -1);
        probe.declareThrows("data tg=Tg", Probe.NO_ROOM);
        probe.counts(0, 6);
        probe.same("count(8)", probe.count(8), -1);
        probe.askThrows("Tg", Probe.NOT_THERE);
        probe.declareThrows("data tg=Tg tg", Probe.NO_ROOM);
        probe.asks("(Tc,Tf)", "(tc, tf)");
    }

    private static void onesRoomIsNotTheOthers(Probe probe) {
        probe.anew();
        for (int i = 0; i < 24; i++) {
            probe.declares("x=1", i);
        }
        probe.declareThrows("x=1", Probe.NO_ROOM);
        for (int i = 2; i < 6; i++) {
            probe.declares("data t" + (char) ('a' + i) + "=T" + (char) ('a' + i), 100 + i);
        }
        probe.declareThrows("data u=U", Probe.NO_ROOM);
        probe.counts(24, 6);
        probe.anew();
        for (int i = 2; i < 6; i++) {
            probe.declares("data t" + (char) ('a' + i) + "=T" + (char) ('a' + i), 100 + i);
        }
        probe.declareThrows("data u=U", Probe.NO_ROOM);
        for (int i = 0; i < 24; i++) {
            probe.declares("x=1", i);
        }
        probe.declareThrows("x=1", Probe.NO_ROOM);
        probe.counts(24, 6);
    }

    /** "Answers the number of the name that it gave a type, 0, 1, .." */
    private static void numbersGoOnBehindRefusedOnes(Probe probe) {
        probe.anew();
        probe.declareThrows("x=z", Probe.NOT_THERE);
        probe.declares("x=1", 0);
        probe.declareThrows("x=1 1", Probe.NO_TYPE);
        probe.declares("data t=A", 102);
        probe.declareThrows("data t=A", Probe.NOT_THERE);
        probe.declares("y=2", 1);
        probe.declareThrows("x", Probe.NO_TEXT);
        probe.declares("data u=B", 103);
        probe.asks("let z=1 in z", "int");
        probe.declares("z=2", 2);
    }

    /** "What is refused changes nothing, but the draft is empty then." */
    private static void draftIsEmptyThen(Probe probe) {
        String[] texts = {"1)", "z", "1 1", "data", "  ", "12345"};
        for (String text : texts) {
            for (int declared = 0; declared < 2; declared++) {
                probe.anew();
                Object answer = declared == 0 ? probe.askAnswer(text) : probe.declareAnswer("x=" + text);
                probe.same("'" + text + "' is refused", answer instanceof Class, true);
                // All 80 places are free again.
                probe.typed(Probe.times(79, " ") + "1");
                probe.same("no 81st", probe.type(' '), false);
                probe.asks("", "int");
                probe.askThrows("", Probe.NO_TEXT);
            }
        }
        probe.anew();
        fill(probe);
        probe.declareThrows("y=1", Probe.NO_ROOM);
        probe.typed(Probe.times(79, " ") + "1");
        probe.asks("", "int");
        probe.declareThrows("data u=U", Probe.NO_ROOM);
        probe.typed(Probe.times(79, " ") + "1");
        probe.asks("", "int");
    }

    /** "The draft as a declaration; then it is empty.", "The draft as an expression; then it is empty." */
    private static void draftIsEmptyBehindTakenOnes(Probe probe) {
        probe.anew();
        for (String text : new String[] {"x=1", "f x=x", "x^y=1", "data t=A"}) {
            probe.same("taken", probe.declareAnswer(text) instanceof Integer, true);
            probe.typed(Probe.times(79, " ") + "1");
            probe.same("no 81st", probe.type(' '), false);
            probe.asks("", "int");
            probe.typed(Probe.times(80, " "));
            probe.declareThrows("", Probe.NO_TEXT);
            probe.askThrows("", Probe.NO_TEXT);
        }
    }

    private static void whatIsRefusedIsNotThere(Probe probe) {
        probe.anew();
        probe.declareThrows("x=(1,1 1)", Probe.NO_TYPE);
        probe.askThrows("x", Probe.NOT_THERE);
        probe.askThrows("let y=1 in z", Probe.NOT_THERE);
        probe.askThrows("y", Probe.NOT_THERE);
        probe.askThrows("fn y->1 1", Probe.NO_TYPE);
        probe.askThrows("y", Probe.NOT_THERE);
        probe.askThrows("case 1 of y->1 1", Probe.NO_TYPE);
        probe.askThrows("y", Probe.NOT_THERE);
        probe.declareThrows("f y=y y", Probe.NO_TYPE);
        probe.askThrows("f", Probe.NOT_THERE);
        probe.askThrows("y", Probe.NOT_THERE);
        probe.declareThrows("x+y=1 1", Probe.NO_TYPE);
        probe.asks("1+2", "int");
        probe.declareThrows("x^y=1 1", Probe.NO_TYPE);
        probe.infix('^', 1, true);
        probe.askThrows("1^2", Probe.NOT_THERE);
        probe.declareThrows("data t=A|B z", Probe.NOT_THERE);
        probe.askThrows("A", Probe.NOT_THERE);
        probe.declareThrows("data u=A t", Probe.NOT_THERE);
        probe.declareThrows("data t=A (int->int)|True", Probe.NOT_THERE);
        probe.declares("data t=A", 102);
        probe.same("it allows", probe.count(4), 1);
        probe.asks("A?A", "bool");
        // A use that was refused leaves the name as general as it was.
        probe.declares("i x=x", 0, "a -> a");
        probe.declares("eq x y=x?y", 1, "'a -> 'a -> bool");
        probe.askThrows("(i 1,i 1 1)", Probe.NO_TYPE);
        probe.askThrows("eq i", Probe.NO_TYPE);
        probe.askThrows("(eq 1,eq 1 True)", Probe.NO_TYPE);
        probe.scheme(0, "a -> a");
        probe.scheme(1, "'a -> 'a -> bool");
        probe.asks("(i 1,i True)", "(int, bool)");
    }

    /** "(An empty draft is thrown, too" */
    private static void anEmptyDraftIsThrown(Probe probe) {
        probe.anew();
        probe.askThrows("", Probe.NO_TEXT);
        probe.declareThrows("", Probe.NO_TEXT);
        probe.asks("1", "int");
        probe.askThrows("", Probe.NO_TEXT);
        probe.declares("x=1", 0);
        probe.declareThrows("", Probe.NO_TEXT);
        probe.same("written stays", probe.written(), "int");
    }

    private static void refuse(Probe probe, int times) {
        for (int i = 0; i < times; i++) {
            probe.askThrows("", Probe.NO_TEXT);
        }
    }

    /** "After 60 texts that were refused with something thrown the finder has GIVEN UP" */
    private static void fiftyNineAreNotSixty(Probe probe) {
        probe.anew();
        refuse(probe, 59);
        probe.asks("1", "int");
        probe.declares("x=1", 0);
        probe.declares("data t=A", 102);
        probe.asks("(x,A)", "(int, t)");
        // The 60th is thrown; only those behind it answer -2.
        probe.askThrows("", Probe.NO_TEXT);
        probe.same("ask", probe.askAnswer("1"), -2);
        probe.same("declare", probe.declareAnswer(""), -2);
        probe.anew();
        refuse(probe, 59);
        probe.declareThrows("", Probe.NO_TEXT);
        probe.same("declare", probe.declareAnswer("x=1"), -2);
        probe.same("ask", probe.askAnswer(""), -2);
        probe.same("declare", probe.declareAnswer(""), -2);
    }

    private static void sixtyOfEachKind(Probe probe) {
        String[] asked = {"", "1)", "z", "1 1"};
        for (String text : asked) {
            probe.anew();
            for (int i = 0; i < 60; i++) {
                probe.same(i + " times '" + text + "'", probe.askAnswer(text) instanceof Class, true);
            }
            probe.same("given up behind '" + text + "'", probe.askAnswer("1"), -2);
        }
        String[] declared = {"", "1", "x=z", "x=1 1", "data t=True", "x:y=1", "data u=U", "y=1"};
        for (String text : declared) {
            probe.anew();
            fill(probe);
            for (int i = 0; i < 60; i++) {
                probe.same(i + " times '" + text + "'", probe.declareAnswer(text) instanceof Class, true);
            }
            probe.same("given up behind '" + text + "'", probe.askAnswer("1"), -2);
        }
        // All kinds count together.
        probe.anew();
        fill(probe);
        for (int i = 0; i < 60; i++) {
            String text = declared[i % declared.length];
            Object answer = i % 3 == 0 ? probe.askAnswer(asked[i % asked.length]) : probe.declareAnswer(text);
            probe.same(i + " refused", answer instanceof Class, true);
        }
        probe.same("given up", probe.declareAnswer("data t=True"), -2);
    }

    /** "-1 and false count nothing" */
    private static void falseAndMinusOneCountNothing(Probe probe) {
        probe.anew();
        refuse(probe, 59);
        for (int i = 0; i < 60; i++) {
            probe.same("type", probe.type(i % 2 == 0 ? 0 : 127), false);
            probe.same("infix", probe.infix(':', i, true), false);
            probe.same("scheme", probe.scheme(i), -1);
            probe.same("written", probe.written(i), -1);
            probe.same("matches", probe.matches(2 + i), -1);
            probe.same("count", probe.count(4 + i), -1);
        }
        probe.asks("1", "int");
        probe.askThrows("", Probe.NO_TEXT);
        probe.same("given up", probe.askAnswer("1"), -2);
    }

    private static void whatIsTakenCountsNothing(Probe probe) {
        probe.anew();
        for (int i = 0; i < 59; i++) {
            probe.askThrows("", Probe.NO_TEXT);
            probe.same("asked", probe.askAnswer("1"), 3);
            if (i < 24) {
                probe.declares("x=1", i);
            }
        }
        probe.same("asked", probe.askAnswer("1"), 3);
        probe.askThrows("", Probe.NO_TEXT);
        probe.same("given up", probe.askAnswer("1"), -2);
    }

    /** "declare() and ask() answer -2 from then on and change nothing" */
    private static void givenUpChangesNothing(Probe probe) {
        probe.anew();
        probe.declares("f x=case x of 1->2|1->3", 0, "int -> int");
        refuse(probe, 60);
        String before = probe.state();
        for (String text : new String[] {"y=1", "", "data t=A", ")", "z", "x^y=1"}) {
            probe.same("declare", probe.declareAnswer(text), -2);
            probe.same("ask", probe.askAnswer(""), -2);
            probe.same("all is as it was", probe.state(), before);
        }
        probe.same("scheme(1)", probe.scheme(1), -1);
        probe.scheme(0, "int -> int");
    }

    /** "change nothing, the draft neither" */
    private static void givenUpLeavesTheDraft(Probe probe) {
        probe.anew();
        refuse(probe, 60);
        probe.typed("12345678");
        probe.same("ask", probe.askAnswer(""), -2);
        probe.same("declare", probe.declareAnswer(""), -2);
        // 72 more find room, a 73rd does not.
        probe.typed(Probe.times(72, "x"));
        probe.same("full", probe.type('x'), false);
        probe.same("ask", probe.askAnswer(""), -2);
        probe.same("full", probe.type('x'), false);
        probe.same("declare", probe.declareAnswer(""), -2);
        probe.same("full", probe.type('x'), false);
        // An empty one stays empty.
        probe.anew();
        refuse(probe, 60);
        probe.same("ask", probe.askAnswer(""), -2);
        probe.typed(Probe.times(80, "x"));
        probe.same("full", probe.type('x'), false);
    }

    /** "all else goes on" */
    private static void allElseGoesOn(Probe probe) {
        probe.anew();
        probe.declares("f x=case x of 1->2", 0);
        probe.declares("data t=A (int->int)", 102);
        probe.asks("case True of True->1|True->2", "int");
        refuse(probe, 60);
        probe.same("ask", probe.askAnswer(""), -2);
        probe.same("written", probe.written(), "int");
        probe.scheme(0, "int -> int");
        probe.same("scheme(1)", probe.scheme(1), -1);
        probe.same("written stays", probe.written(), "int -> int");
        probe.matches(1, 1);
        probe.counts(1, 3);
        probe.same("count(2)", probe.count(2), 1);
        probe.same("count(4)", probe.count(4), 0);
        probe.same("count(5)", probe.count(5), -1);
        probe.same("infix", probe.infix('^', 3, true), true);
        probe.same("infix", probe.infix('^', 10, true), false);
        probe.same("type", probe.type('x'), true);
        probe.same("type", probe.type(0), false);
    }
}

/** The edges that the document names under MATCHES and promise 8, a method for each sentence or part of one. */
public final class EdgesMatchesTest {
    public static void main(String[] args) {
        Probe probe = new Probe("edges of MATCHES");
        otherWhats(probe);
        aheadOfAll(probe);
        behindOneThatMatchesAll(probe);
        behindTheSameNumber(probe);
        behindTheSameConstructor(probe);
        behindAllConstructors(probe);
        pairsBehindPairs(probe);
        openWithNumbers(probe);
        openWithoutAllConstructors(probe);
        closed(probe);
        allCasesOfAText(probe);
        latestThatWasNotRefused(probe);
        ofData(probe);
        afterItHasGivenUp(probe);
        probe.end();
    }

    private static void cases(Probe probe, String alternatives, int open, int idle) {
        String text = "fn z->case z of " + alternatives;
        probe.askedAsText(text);
        probe.same("open in '" + text + "'", probe.matches(0), open);
        probe.same("idle in '" + text + "'", probe.matches(1), idle);
    }

    /** "-1 for another what" */
    private static void otherWhats(Probe probe) {
        probe.anew();
        for (int round = 0; round < 2; round++) {
            for (int what : new int[] {-1, 2, -2, 3, 10, 256, 257, 65536, Integer.MAX_VALUE, Integer.MIN_VALUE, Integer.MIN_VALUE + 1}) {
                probe.same("matches(" + what + ")", probe.matches(what), -1);
            }
            probe.asks("case 1 of 1->1|1->2", "int");
            probe.matches(1, 1);
        }
    }

    /** "(.. ahead of all, 0)" */
    private static void aheadOfAll(Probe probe) {
        probe.anew();
        probe.matches(0, 0);
        probe.infix('+', 1, true);
        probe.typed("case 1 of 1->1|1->1");
        probe.matches(0, 0);
        probe.asks("", "int");
        probe.matches(1, 1);
        probe.anew();
        // Refused ones alone leave it as it is ahead of all.
        probe.askThrows("case 1 of 1->1|1->z", Probe.NOT_THERE);
        probe.declareThrows("x=case 1 of 1->1|1->1 1", Probe.NO_TYPE);
        probe.matches(0, 0);
    }

    /** "one that matches all (a word, _, or a pair) came before" */
    private static void behindOneThatMatchesAll(Probe probe) {
        probe.given("data t=A|B int");
        for (String all : new String[] {"x", "_"}) {
            cases(probe, all + "->1", 0, 0);
            for (String behind : new String[] {"1", "x", "_", "(x,y)", "x:y", "Nil", "True", "A", "B x"}) {
                cases(probe, all + "->1|" + behind + "->1", 0, 1);
                cases(probe, all + "->1|" + behind + "->1|" + behind + "->1", 0, 2);
                cases(probe, behind + "->1|" + all + "->1|" + behind + "->1",
                        0, behind.equals("x") || behind.equals("_") || behind.equals("(x,y)") ? 2 : 1);
            }
        }
        for (String behind : new String[] {"x", "_", "(x,y)", "(_,_)"}) {
            cases(probe, "(a,_)->1|" + behind + "->1", 0, 1);
        }
        cases(probe, "1->1|x->1|2->1|_->1|3->1", 0, 3);
    }

    /** "the same number (7 and 007 are)" */
    private static void behindTheSameNumber(Probe probe) {
        probe.given();
        cases(probe, "7->1|7->1", 1, 1);
        cases(probe, "7->1|007->1", 1, 1);
        cases(probe, "0007->1|7->1", 1, 1);
        cases(probe, "7->1|70->1|700->1|7000->1", 1, 0);
        cases(probe, "7->1|8->1|7->1|8->1|9->1", 1, 2);
        cases(probe, "0->1|00->1|000->1|0000->1", 1, 3);
        cases(probe, "9999->1|999->1|9999->1", 1, 1);
        cases(probe, "9->1|10->1|11->1|99->1|100->1|0101->1", 1, 0);
        cases(probe, "12->1|21->1|1->1|2->1|102->1", 1, 0);
        cases(probe, "1->1|2->1|3->1|2->1|_->1", 0, 1);
        cases(probe, "1->1|10->1|01->1|010->1|_->1", 0, 2);
    }

    /** "or constructor" */
    private static void behindTheSameConstructor(Probe probe) {
        probe.given("data t=A|B int|C t t");
        cases(probe, "A->1|A->1", 1, 1);
        cases(probe, "A->1|B _->1|A->1", 1, 1);
        cases(probe, "B _->1|B x->1", 1, 1);
        cases(probe, "C x y->1|C _ _->1|C y x->1", 1, 2);
        cases(probe, "x:y->1|_:_->1", 1, 1);
        cases(probe, "Nil->1|Nil->1|x:y->1", 0, 1);
        cases(probe, "True->1|True->1|False->1", 0, 1);
        cases(probe, "A->1|A->1|_->1", 0, 1);
    }

    /** "or all constructors of its type" */
    private static void behindAllConstructors(Probe probe) {
        probe.given("data t=A|B int|C t t|D", "data u=E");
        for (String behind : new String[] {"_", "x", "True", "False"}) {
            cases(probe, "True->1|False->1|" + behind + "->1", 0, 1);
            cases(probe, "False->1|True->1|" + behind + "->1", 0, 1);
        }
        cases(probe, "Nil->1|_:_->1|_->1", 0, 1);
        cases(probe, "_:_->1|Nil->1|x->1|_->1", 0, 2);
        cases(probe, "E->1|_->1", 0, 1);
        cases(probe, "E->1|E->1", 0, 1);
        cases(probe, "A->1|B _->1|C _ _->1|D->1|_->1", 0, 1);
        cases(probe, "D->1|C _ _->1|B _->1|A->1|x->1", 0, 1);
        // The same one twice does not stand for another.
        cases(probe, "A->1|B _->1|C _ _->1|C _ _->1|_->1", 0, 1);
        cases(probe, "A->1|A->1|A->1|A->1|_->1", 0, 3);
        cases(probe, "A->1|B _->1|C _ _->1|_->1", 0, 0);
        cases(probe, "True->1|_->1", 0, 0);
        cases(probe, "True->1|True->1|_->1", 0, 1);
    }

    /** "a pair behind a pair, too" */
    private static void pairsBehindPairs(Probe probe) {
        probe.given();
        cases(probe, "(x,y)->1", 0, 0);
        cases(probe, "(x,y)->1|(y,x)->1", 0, 1);
        cases(probe, "(_,_)->1|(_,_)->1|(_,_)->1", 0, 2);
    }

    /** "A case is OPEN if none matches all, and it has numbers" */
    private static void openWithNumbers(Probe probe) {
        probe.given();
        cases(probe, "0->1", 1, 0);
        cases(probe, "0->1|1->1", 1, 0);
        cases(probe, "0->1|1->1|_->1", 0, 0);
        cases(probe, "0->1|1->1|x->1", 0, 0);
        cases(probe, "_->1|0->1", 0, 1);
        cases(probe, "0->1|1->1|2->1|3->1|4->1|5->1|6->1|7->1|8->1|9->1", 1, 0);
    }

    /** "or not all constructors of its type" */
    private static void openWithoutAllConstructors(Probe probe) {
        probe.given("data t=A|B int|C t t|D", "data u=E");
        cases(probe, "True->1", 1, 0);
        cases(probe, "False->1", 1, 0);
        cases(probe, "Nil->1", 1, 0);
        cases(probe, "_:_->1", 1, 0);
        for (String one : new String[] {"A", "B _", "C _ _", "D"}) {
            cases(probe, one + "->1", 1, 0);
        }
        cases(probe, "A->1|B _->1|C _ _->1", 1, 0);
        cases(probe, "B _->1|C _ _->1|D->1", 1, 0);
        cases(probe, "A->1|B _->1|D->1|D->1", 1, 1);
        cases(probe, "A->1|C _ _->1|D->1|A->1|C _ _->1|D->1", 1, 3);
    }

    private static void closed(Probe probe) {
        probe.given("data t=A|B int|C t t|D", "data u=E");
        cases(probe, "True->1|False->1", 0, 0);
        cases(probe, "Nil->1|_:_->1", 0, 0);
        cases(probe, "E->1", 0, 0);
        cases(probe, "A->1|B _->1|C _ _->1|D->1", 0, 0);
        cases(probe, "D->1|A->1|C _ _->1|B _->1", 0, 0);
        cases(probe, "D->1|_->1", 0, 0);
        cases(probe, "x->1", 0, 0);
        cases(probe, "_->1", 0, 0);
    }

    /** "How many matches of the latest declare() or ask() .. are open (what 0), or how many alternatives are idle (1)" */
    private static void allCasesOfAText(Probe probe) {
        probe.given();
        probe.asked("(case 1 of 1->1,(case 2 of 2->2|2->3,case True of True->1))", "(int, (int, int))");
        probe.matches(3, 1);
        probe.asked("case(case 1 of 1->1|1->1)of 1->(case 2 of 2->2)|1->1", "int");
        probe.matches(3, 2);
        probe.asked("let f x=case x of 1->1 in (f 1,(f 1,f 1))", "(int, (int, int))");
        probe.matches(1, 0);
        probe.asked("if case 1 of 1->True then case 1 of _->1 else case 1 of _->1|_->2", "int");
        probe.matches(1, 1);
        probe.asked("(fn x->case x of _->1|_->2|_->3)(case 1 of _->1|_->2)+(case 1 of 1->1)", "int");
        probe.matches(1, 3);
        probe.declared("f x=case x of 1->(case x of 1->1)|1->2", 0, "int -> int");
        probe.matches(2, 1);
        probe.declares("x^y=case x of True->y", 1, "bool -> a -> a");
        probe.matches(1, 0);
        // Those of a name that is used are not those of the text.
        probe.asks("f 1", "int");
        probe.matches(0, 0);
    }

    /** "of the latest declare() or ask() that was not refused" */
    private static void latestThatWasNotRefused(Probe probe) {
        probe.anew();
        probe.asks("(case 1 of 1->1|1->1,case 1 of 1->1)", "(int, int)");
        probe.matches(2, 1);
        probe.askThrows("", Probe.NO_TEXT);
        probe.matches(2, 1);
        probe.askThrows("case 1 of", Probe.NO_TEXT);
        probe.askThrows("(case 1 of 1->1,z)", Probe.NOT_THERE);
        probe.askThrows("(case 1 of 1->1,1 1)", Probe.NO_TYPE);
        probe.declareThrows("x=(case 1 of 1->1,z)", Probe.NOT_THERE);
        probe.declareThrows("data t=True", Probe.NOT_THERE);
        probe.declareThrows("x=(fn x->x)Nil", Probe.NO_TYPE);
        probe.matches(2, 1);
        probe.declares("x=case 1 of 1->1", 0, "int");
        probe.matches(1, 0);
        // No other call changes it.
        probe.same("scheme", probe.scheme(0), 3);
        probe.same("scheme", probe.scheme(1), -1);
        probe.typed("case 1 of 1->1|1->1");
        probe.same("type", probe.type(0), false);
        probe.infix('+', 3, true);
        probe.infix(':', 3, true);
        probe.counts(1, 2);
        probe.same("written", probe.written(), "int");
        probe.matches(1, 0);
        probe.asks("", "int");
        probe.matches(1, 1);
        probe.asks("1", "int");
        probe.matches(0, 0);
    }

    /** "(of data, .. 0)" */
    private static void ofData(Probe probe) {
        probe.anew();
        probe.asks("case 1 of 1->1|1->1", "int");
        probe.matches(1, 1);
        probe.declareThrows("data t=A|A", Probe.NOT_THERE);
        probe.matches(1, 1);
        probe.declares("data t=A|B", 102);
        probe.matches(0, 0);
        probe.asks("case A of A->1|A->1", "int");
        probe.matches(1, 1);
        // Without room it is refused, and all stays.
        for (char c = 'C'; c <= 'E'; c++) {
            probe.declares("data " + Character.toLowerCase(c) + "=" + c, 103 + c - 'C');
        }
        probe.asks("case A of A->1|A->1", "int");
        probe.declareThrows("data f=F", Probe.NO_ROOM);
        probe.matches(1, 1);
    }

    private static void afterItHasGivenUp(Probe probe) {
        probe.anew();
        probe.asks("case 1 of 1->1|1->1", "int");
        for (int i = 0; i < 60; i++) {
            probe.askThrows("", Probe.NO_TEXT);
        }
        probe.same("ask", probe.askAnswer("1"), -2);
        probe.same("declare", probe.declareAnswer(""), -2);
        probe.matches(1, 1);
        probe.same("matches(2)", probe.matches(2), -1);
    }
}

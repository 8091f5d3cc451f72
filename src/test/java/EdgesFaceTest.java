/** The edges that the document names under promises 1, 2, 5 and 6, a method for each sentence or part of one. */
public final class EdgesFaceTest {
    public static void main(String[] args) {
        Probe probe = new Probe("edges of the face");
        newObject(probe);
        firstFunctions(probe);
        typeUpToEight(probe);
        typeLowestByteZero(probe);
        typeUpToTheFirstZeroByte(probe);
        typeEveryByte(probe);
        typeUpToEighty(probe);
        typeRefusedLeavesTheDraft(probe);
        schemeHasNone(probe);
        schemeOfEachName(probe);
        writtenHasNone(probe);
        writtenLatest(probe);
        askTellsHowMany(probe);
        functionsInBrackets(probe);
        dataInBrackets(probe);
        variablesInTheirOrder(probe);
        comparableOnes(probe);
        manyVariables(probe);
        probe.end();
    }

    /** Promise 1: "The operators and data types that are there at first" */
    private static void newObject(Probe probe) {
        probe.anew();
        probe.counts(0, 2);
        probe.same("bool", probe.count(2), 1);
        probe.same("list", probe.count(3), 1);
        probe.same("no more", probe.count(4), -1);
        probe.same("scheme(0)", probe.scheme(0), -1);
        probe.same("written(0)", probe.written(0), -1);
        probe.matches(0, 0);
        probe.askThrows("", Probe.NO_TEXT);
        probe.asks("1", "int");
        // One object knows nothing of another.
        probe.declares("x=1", 0);
        probe.declares("data t=A", 102);
        probe.infix('^', 1, true);
        probe.infix('+', 1, true);
        probe.typed("12345");
        probe.anew();
        probe.counts(0, 2);
        probe.same("written(0)", probe.written(0), -1);
        probe.askThrows("", Probe.NO_TEXT);
        probe.askThrows("x", Probe.NOT_THERE);
        probe.askThrows("A", Probe.NOT_THERE);
        probe.askThrows("1^2", Probe.NO_TEXT);
        probe.asks("1+2<3", "bool");
        // Nor does one that has given up bar another.
        for (int i = 0; i < 60; i++) {
            probe.askAnswer("");
        }
        probe.anew();
        probe.asks("1", "int");
    }

    /** Promise 1: "+ - * /: int -> int -> int; <: int -> int -> bool; ?: compares: 'a -> 'a -> bool" */
    private static void firstFunctions(Probe probe) {
        probe.given();
        for (char c : "+-*/".toCharArray()) {
            probe.asked("fn x->fn y->x" + c + "y", "int -> int -> int");
            probe.askRefused("True" + c + "1", Probe.NO_TYPE);
            probe.askRefused("1" + c + "True", Probe.NO_TYPE);
        }
        probe.asked("fn x->fn y->x<y", "int -> int -> bool");
        probe.askRefused("True<1", Probe.NO_TYPE);
        probe.askRefused("1<True", Probe.NO_TYPE);
        probe.asked("fn x->fn y->x?y", "'a -> 'a -> bool");
        probe.askRefused("1?True", Probe.NO_TYPE);
        probe.askRefused("(fn x->x)?(fn x->x)", Probe.NO_TYPE);
        for (char c : "@^&".toCharArray()) {
            probe.askRefused("1" + c + "2", Probe.NO_TEXT);
        }
        // They do not count as names, and have no scheme.
        probe.anew();
        probe.declares("x=1", 0, "int");
        probe.same("scheme(1)", probe.scheme(1), -1);
        probe.same("scheme(-1)", probe.scheme(-1), -1);
    }

    /** Promise 2: "Puts up to eight characters behind the DRAFT (none at first)", "the lowest first" */
    private static void typeUpToEight(Probe probe) {
        for (int n = 1; n <= 8; n++) {
            probe.anew();
            String text = "(1,True)".substring(0, n);
            probe.same(n + " at once", probe.type(Probe.bytes(text)), true);
            probe.asks("(1,True)".substring(n), "(int, bool)");
        }
        // One by one, in their order.
        probe.anew();
        for (char c : "(1,True)".toCharArray()) {
            probe.same("one", probe.type(c), true);
        }
        probe.asks("", "(int, bool)");
        probe.anew();
        probe.same("eight", probe.type(0x31323334_35363738L), true);
        probe.askThrows("", Probe.NO_TEXT);
        probe.same("lowest first", probe.type(0x2931_2c657572_54L << 8 | '('), true);
        probe.asks("", "(bool, int)");
    }

    /** Promise 2: "False, refused, if the lowest byte is 0" */
    private static void typeLowestByteZero(Probe probe) {
        probe.anew();
        probe.typed("(1,");
        probe.same("0", probe.type(0), false);
        for (int shift = 8; shift < 64; shift += 8) {
            probe.same("only a higher byte", probe.type((long) '1' << shift), false);
        }
        probe.same("seven behind 0", probe.type(Probe.bytes("1111111") << 8), false);
        probe.same("the lowest long", probe.type(Long.MIN_VALUE), false);
        probe.asks("True)", "(int, bool)");
    }

    /** Promise 2: "up to the first zero byte (what is behind doesn't matter)" */
    private static void typeUpToTheFirstZeroByte(Probe probe) {
        for (int n = 1; n <= 7; n++) {
            for (int garbage : new int[] {'x', 1, 31, 127, 128, 255}) {
                if (n < 7) {
                    probe.anew();
                    long s = Probe.bytes("(1,True)".substring(0, n)) | (long) garbage << 8 * (n + 1) | (long) garbage << 56;
                    probe.same("behind the zero", probe.type(s), true);
                    probe.asks("(1,True)".substring(n), "(int, bool)");
                }
            }
        }
        // They count neither towards the 80.
        probe.anew();
        probe.typed(Probe.times(79, " "));
        probe.same("one, and others behind the zero", probe.type('1' | 0x7878787878L << 16), true);
        probe.same("full", probe.type(' '), false);
        probe.asks("", "int");
    }

    /** Promise 2: "one of them is not 32 .. 126" */
    private static void typeEveryByte(Probe probe) {
        for (int c = 1; c < 256; c++) {
            probe.anew();
            boolean taken = c >= 32 && c <= 126;
            for (int place = 0; place < 8; place++) {
                long s = Probe.bytes(Probe.times(place, " ")) | (long) c << 8 * place;
                probe.same("byte " + c + " at " + place, probe.type(s), taken);
            }
            long first = (long) c | Probe.bytes("        ") & ~255L;
            probe.same("byte " + c + " ahead of others", probe.type(first), taken);
        }
        probe.anew();
        probe.same("all bits", probe.type(-1L), false);
    }

    /** Promise 2: "or it would have more than 80" */
    private static void typeUpToEighty(Probe probe) {
        for (int n = 1; n <= 8; n++) {
            probe.anew();
            probe.typed(Probe.times(80 - n, " "));
            if (n < 8) {
                probe.same("one too many", probe.type(Probe.bytes(Probe.times(n, "1") + "1")), false);
            }
            probe.same("eight of which too many", probe.type(Probe.bytes("11111111")), n == 8);
            if (n < 8) {
                probe.same("as many as there is room", probe.type(Probe.bytes(Probe.times(n, " "))), true);
            }
            for (int more = 1; more <= 8; more++) {
                probe.same("full", probe.type(Probe.bytes(Probe.times(more, " "))), false);
            }
            probe.askThrows("", Probe.NO_TEXT);
            // Empty again, it takes 80 again.
            probe.typed(Probe.times(74, " ") + "(1,2) ");
            probe.same("full", probe.type(' '), false);
            probe.asks("", "(int, int)");
        }
    }

    /** Promise 2: what is refused puts nothing behind the draft, not even what stands before the wrong byte. */
    private static void typeRefusedLeavesTheDraft(Probe probe) {
        probe.anew();
        probe.typed("(1,");
        probe.same("refused", probe.type(Probe.bytes("1111") | 31L << 32), false);
        probe.same("refused", probe.type(Probe.bytes("1111111") | 127L << 56), false);
        probe.same("refused", probe.type(127), false);
        probe.asks("True)", "(int, bool)");
        probe.typed(Probe.times(72, " ") + "(1,2");
        probe.same("five for four", probe.type(Probe.bytes(",3,4)")), false);
        probe.asks(")   ", "(int, int)");
        // No other call changes the draft.
        probe.declares("x=1", 0);
        probe.typed("(1,");
        probe.scheme(0);
        probe.scheme(1);
        probe.written(0);
        probe.matches(0);
        probe.count(0);
        probe.infix('+', 3, false);
        probe.infix('+', -3, false);
        probe.asks("2)", "(int, int)");
    }

    /** Promise 5: "-1 if there is none; what was written before stays then" */
    private static void schemeHasNone(Probe probe) {
        probe.anew();
        int[] none = {-1, 24, 25, 100, 101, 102, 256, 65536, Integer.MIN_VALUE, Integer.MAX_VALUE, Integer.MAX_VALUE - 1};
        for (int k : none) {
            probe.same("scheme(" + k + ")", probe.scheme(k), -1);
            probe.same("nothing is written", probe.written(0), -1);
        }
        probe.same("scheme(0)", probe.scheme(0), -1);
        probe.declares("f x=x", 0);
        probe.same("declare() writes nothing", probe.written(0), -1);
        probe.declares("data t=A", 102);
        probe.scheme(0, "a -> a");
        for (int k : none) {
            probe.same("scheme(" + k + ")", probe.scheme(k), -1);
        }
        probe.same("scheme(1)", probe.scheme(1), -1);
        probe.same("written stays", probe.written(), "a -> a");
        probe.asks("1", "int");
        probe.same("scheme(1)", probe.scheme(1), -1);
        probe.same("written stays", probe.written(), "int");
        probe.declares("g x=1", 1);
        probe.same("scheme(2)", probe.scheme(2), -1);
        probe.scheme(1, "a -> int");
    }

    /** Promise 5: "The type of name k (as numbered by declare()) is written: answers how many characters that has" */
    private static void schemeOfEachName(Probe probe) {
        probe.anew();
        probe.declares("x=1", 0);
        probe.declares("data t=A", 102);
        probe.declares("x=A", 1);
        probe.declares("x+y=x", 2);
        probe.declareThrows("x=z", Probe.NOT_THERE);
        probe.declares("x=(x,fn y->y+x)", 3);
        probe.scheme(0, "int");
        probe.scheme(1, "t");
        probe.scheme(2, "a -> b -> a");
        probe.scheme(3, "(t, a -> a)");
        probe.scheme(0, "int");
        // Uses leave it as it is.
        probe.asks("(1+True,True+1)", "(int, bool)");
        probe.scheme(2, "a -> b -> a");
    }

    /** Promise 6: "Character i (from 0) of what was written latest; -1 if there is none." */
    private static void writtenHasNone(Probe probe) {
        probe.anew();
        int[] none = {-1, -2, 100, 256, 65536, Integer.MIN_VALUE, Integer.MAX_VALUE};
        probe.same("written(0)", probe.written(0), -1);
        for (int i : none) {
            probe.same("written(" + i + ")", probe.written(i), -1);
        }
        probe.asks("1", "int");
        probe.same("written(0)", probe.written(0), (int) 'i');
        probe.same("written(1)", probe.written(1), (int) 'n');
        probe.same("written(2)", probe.written(2), (int) 't');
        probe.same("written(3)", probe.written(3), -1);
        for (int i : none) {
            probe.same("written(" + i + ")", probe.written(i), -1);
        }
    }

    private static void writtenLatest(Probe probe) {
        probe.anew();
        probe.asks("(1,(True,Nil))", "(int, (bool, list a))");
        probe.asks("1", "int");
        probe.same("nothing of the longer one", probe.written(3), -1);
        probe.declares("f x=True", 0);
        probe.same("written", probe.written(), "int");
        probe.askThrows("z", Probe.NOT_THERE);
        probe.same("written", probe.written(), "int");
        probe.same("scheme", probe.scheme(0), 9);
        probe.same("written", probe.written(), "a -> bool");
        probe.same("ask", probe.askAnswer("True"), 4);
        probe.same("written", probe.written(), "bool");
    }

    /** Promise 4: "Its type is WRITTEN: answers how many characters that has." */
    private static void askTellsHowMany(Probe probe) {
        probe.given();
        probe.asked("1", "int");
        probe.asked("(1,1)", "(int, int)");
        probe.asked("fn x->x", "a -> a");
        probe.asked("fn x->x?x", "'a -> bool");
        // "(Variables that are not general are written, too.)"
        probe.asked("(fn x->x)Nil", "list a");
        probe.asked("(fn x->x)(fn x->x?x)", "'a -> bool");
        // One of the longest: 23 parts, most of them data types of six letters, with brackets.
        probe.anew();
        probe.declares("data abcdef a b=A a b", 102);
        String type = "int";
        String text = "1";
        for (int i = 0; i < 11; i++) {
            type = "abcdef int " + (i == 0 ? type : "(" + type + ")");
            text = "A 1(" + text + ")";
        }
        probe.asks(text, type);
    }

    /** Promise 6: "t -> u, t in brackets if it is a function" */
    private static void functionsInBrackets(Probe probe) {
        probe.given("data t a b=T a b", "data u=U");
        probe.asked("fn x->fn y->x", "a -> b -> a");
        probe.asked("fn f->f 1", "(int -> a) -> a");
        probe.asked("fn f->f (fn x->x+1)", "((int -> int) -> a) -> a");
        probe.asked("fn f->fn x->f x x", "(a -> a -> b) -> a -> b");
        probe.asked("fn f->(f 1,fn g->g)", "(int -> a) -> (a, b -> b)");
        probe.asked("fn p->case p of (f,_)->f 1", "(int -> a, b) -> a");
        probe.asked("fn l->case l of x:_->x 1", "list (int -> a) -> a");
        probe.asked("fn x->case x of T a b->a b", "t (a -> b) a -> b");
        probe.asked("fn x->case x of U->x", "u -> u");
    }

    /** Promise 6: "a blank before each of its types, these in brackets if they are functions or data types with parameters" */
    private static void dataInBrackets(Probe probe) {
        probe.given("data t a b=T a b", "data u=U", "data v a=V a");
        probe.asked("U", "u");
        probe.asked("V 1", "v int");
        probe.asked("V U", "v u");
        probe.asked("V True", "v bool");
        probe.asked("V (V 1)", "v (v int)");
        probe.asked("V (1,2)", "v (int, int)");
        probe.asked("V ((V 1),U)", "v (v int, u)");
        probe.asked("V (fn x->x)", "v (a -> a)");
        probe.asked("V (fn x->fn y->x)", "v (a -> b -> a)");
        probe.asked("T 1 True", "t int bool");
        probe.asked("T U (V U)", "t u (v u)");
        probe.asked("T (V U) U", "t (v u) u");
        probe.asked("T (T 1 2) (T U (V U))", "t (t int int) (t u (v u))");
        probe.asked("T (fn x->x) (fn x->x)", "t (a -> a) (b -> b)");
        probe.asked("T (1,2) (V 1,V 2)", "t (int, int) (v int, v int)");
        probe.asked("(V 1,V (V 2))", "(v int, v (v int))");
        probe.asked("fn x->V x", "a -> v a");
        probe.asked("fn x->case x of V y->y+1", "v int -> int");
        probe.asked("V Nil", "v (list a)");
    }

    /** Promise 6: "Variables are a, b, .. in the order in which they first stand" */
    private static void variablesInTheirOrder(Probe probe) {
        probe.given("f x y z=(z,(y,x))", "data t a b=T b a");
        probe.asked("f", "a -> b -> c -> (c, (b, a))");
        probe.asked("fn x->fn y->fn x->(y,x)", "a -> b -> c -> (b, c)");
        probe.asked("T", "a -> b -> t b a");
        probe.asked("fn z->fn y->(y,z)", "a -> b -> (b, a)");
        probe.asked("(Nil,(Nil,fn x->x))", "(list a, (list b, c -> c))");
        probe.anew();
        probe.declares("f x y=(y,x)", 0, "a -> b -> (b, a)");
        probe.declares("g=(f,f)", 1, "(a -> b -> (b, a), c -> d -> (d, c))");
    }

    /** Promise 6: "with ' before it if it is comparable" */
    private static void comparableOnes(Probe probe) {
        probe.given();
        probe.asked("fn x->fn y->fn z->x?z", "'a -> b -> 'a -> bool");
        probe.asked("fn x->fn y->fn z->y?z", "a -> 'b -> 'b -> bool");
        probe.asked("fn x->fn y->(x?x,y)", "'a -> b -> (bool, b)");
        probe.asked("fn x->(x?Nil,x)", "list 'a -> (bool, list 'a)");
        probe.asked("fn x->fn f->(f x,x?x)", "'a -> ('a -> b) -> (b, bool)");
    }

    /** Promise 6: "(There are at most 24 of them.)" */
    private static void manyVariables(Probe probe) {
        probe.given();
        probe.asked("fn a->fn b->fn c->fn d->fn e->fn f->fn g->fn h->fn i->fn j->fn k->k",
                "a -> b -> c -> d -> e -> f -> g -> h -> i -> j -> k -> k");
        probe.asked("fn a->fn b->fn c->fn d->fn e->fn f->fn g->fn h->fn i->fn j->fn k->Nil",
                "a -> b -> c -> d -> e -> f -> g -> h -> i -> j -> k -> list l");
        probe.declared("f a b c d e g h i j k l=Nil", 0, "a -> b -> c -> d -> e -> f -> g -> h -> i -> j -> k -> list l");
    }
}

/** Promise 3: what is a declaration as a text, and what is none. */
public final class Promise3TextTest {
    public static void main(String[] args) {
        Probe probe = new Probe("promise 3, texts");
        words(probe);
        definitions(probe);
        operatorDefinitions(probe);
        dataForms(probe);
        dataDepth(probe);
        expressionDepth(probe);
        probe.end();
    }

    private static void words(Probe probe) {
        probe.anew();
        probe.declares("abcdef=1", 0, "int");
        probe.declareThrows("abcdefg=1", Probe.NO_TEXT);
        probe.declareThrows("aB=1", Probe.NO_TEXT);
        probe.declareThrows("Ab=1", Probe.NO_TEXT);
        probe.declareThrows("x1=1", Probe.NO_TEXT);
        probe.declares("x y=y 0001", 1, "(int -> a) -> a");
        probe.declares("x y=y1", 2, "(int -> a) -> a");
        probe.declareThrows("x=00001", Probe.NO_TEXT);
        probe.declareThrows("x=1 > 2", Probe.NO_TEXT);
        probe.declareThrows("x=fn y - > y", Probe.NO_TEXT);
        probe.declareThrows("x=1;", Probe.NO_TEXT);
        probe.declareThrows("x='1", Probe.NO_TEXT);
        String[] keywords = {"fn", "let", "in", "if", "then", "else", "case", "of", "data", "int"};
        for (String keyword : keywords) {
            probe.declareThrows(keyword + " = 1", Probe.NO_TEXT);
        }
        probe.declares("inn=1", 3, "int");
        probe.declareThrows("data T=A", Probe.NO_TEXT);
        probe.declareThrows("data t=AB", Probe.NO_TEXT);
        probe.declareThrows("data t=Abcdefg", Probe.NO_TEXT);
        probe.declares("data t=Abcdef|A|Z|Zz", 102);
        probe.asks("(Z, Zz)", "(t, t)");
        probe.declares("z=(fn az->az)(9,0)", 4, "(int, int)");
        // As many words, numbers and signs as there is room for.
        probe.askThrows("1" + Probe.times(23, "(1)") + "(1,1)(1,1)", Probe.NO_TYPE);
        probe.askThrows("1" + Probe.times(23, "(1)") + "(1,1)(1,1", Probe.NO_TEXT);
    }

    private static void definitions(Probe probe) {
        probe.anew();
        probe.declares("  x   =   1   ", 0, "int");
        probe.declares("f x y z=y", 1, "a -> b -> c -> b");
        probe.declareThrows("f x x=1", Probe.NO_TEXT);
        probe.declareThrows("f f=1", Probe.NO_TEXT);
        probe.declareThrows("f x f=1", Probe.NO_TEXT);
        probe.declareThrows("f _=1", Probe.NO_TEXT);
        probe.declareThrows("f 1=1", Probe.NO_TEXT);
        probe.declareThrows("f (x)=1", Probe.NO_TEXT);
        probe.declareThrows("f x", Probe.NO_TEXT);
        probe.declareThrows("f=", Probe.NO_TEXT);
        probe.declareThrows("=1", Probe.NO_TEXT);
        probe.declareThrows("1", Probe.NO_TEXT);
        probe.declareThrows("f=1 f=2", Probe.NO_TEXT);
        probe.declareThrows("f=1)", Probe.NO_TEXT);
        probe.declareThrows("   ", Probe.NO_TEXT);
        probe.declareThrows("let f=1 in f", Probe.NO_TEXT);
        probe.same("nothing of these is kept", probe.count(0), 2);
    }

    private static void operatorDefinitions(Probe probe) {
        probe.anew();
        probe.declares("x ^ y = (y, x)", 0, "a -> b -> (b, a)");
        probe.askThrows("1 ^ 2", Probe.NO_TEXT);
        probe.infix('^', 0, false);
        probe.asks("1 ^ True", "(bool, int)");
        probe.declares("x-y=x", 1, "a -> b -> a");
        probe.declareThrows("x ^ x = 1", Probe.NO_TEXT);
        probe.declareThrows("x ^ y z = 1", Probe.NO_TEXT);
        probe.declareThrows("^ x y = 1", Probe.NO_TEXT);
        probe.declareThrows("x ^ = 1", Probe.NO_TEXT);
        probe.declareThrows("x ^ 1 = 1", Probe.NO_TEXT);
        probe.declareThrows("x ^ _ = 1", Probe.NO_TEXT);
        probe.declareThrows("x y ^ z = 1", Probe.NO_TEXT);
        probe.declareThrows("x ^ y ^ z = 1", Probe.NO_TEXT);
        probe.declareThrows("x -> y = 1", Probe.NO_TEXT);
        probe.declareThrows("let x ^ y = 1", Probe.NO_TEXT);
        probe.askThrows("let x ^ y = 1 in 2", Probe.NO_TEXT);
        probe.declareThrows("x : y = ", Probe.NO_TEXT);
        probe.declareThrows("x : x = 1", Probe.NO_TEXT);
    }

    private static void dataForms(Probe probe) {
        probe.anew();
        probe.declareThrows("data", Probe.NO_TEXT);
        probe.declareThrows("data t", Probe.NO_TEXT);
        probe.declareThrows("data t=", Probe.NO_TEXT);
        probe.declareThrows("data t=a", Probe.NO_TEXT);
        probe.declareThrows("data t=|A", Probe.NO_TEXT);
        probe.declareThrows("data t=A|", Probe.NO_TEXT);
        probe.declareThrows("data int=A", Probe.NO_TEXT);
        probe.declareThrows("data t a b c=A", Probe.NO_TEXT);
        probe.declareThrows("data t a a=A", Probe.NO_TEXT);
        probe.declareThrows("data t _=A", Probe.NO_TEXT);
        probe.declareThrows("data t=A|B|C|D|E", Probe.NO_TEXT);
        probe.declareThrows("data t=A int int int", Probe.NO_TEXT);
        probe.declareThrows("data t=A 1", Probe.NO_TEXT);
        probe.declareThrows("data t=A A", Probe.NO_TEXT);
        probe.declareThrows("data t=A ()", Probe.NO_TEXT);
        probe.declareThrows("data t=A int,int", Probe.NO_TEXT);
        probe.declareThrows("data t=A int->int", Probe.NO_TEXT);
        probe.declareThrows("data t=A (int,int,int)", Probe.NO_TEXT);
        probe.declareThrows("data t=A (int,int->int)", Probe.NO_TEXT);
        probe.declareThrows("data t=A (list int->int)", Probe.NO_TEXT);
        probe.declareThrows("data t=A (list int,int)", Probe.NO_TEXT);
        probe.declareThrows("data t=A (int int)", Probe.NO_TEXT);
        probe.declareThrows("data t=A (int", Probe.NO_TEXT);
        probe.declareThrows("data t=A in", Probe.NO_TEXT);
        probe.declareThrows("data t=A:int", Probe.NO_TEXT);
        probe.declares("data t a b=A (a->b,int)(list(list a))|B((int))|C|D(t b a)", 102);
        probe.asks("A", "(a -> (b, int)) -> list (list a) -> t a b");
    }

    private static void dataDepth(Probe probe) {
        probe.anew();
        probe.declareThrows("data t=A " + Probe.times(13, "(") + "int" + Probe.times(13, ")"), Probe.NO_TEXT);
        probe.declares("data t=A " + Probe.times(12, "(") + "int" + Probe.times(12, ")"), 102);
        // The brackets lie 1 deep, and what stands behind each arrow one deeper.
        probe.declareThrows("data u a=B(" + Probe.times(12, "a->") + "a)", Probe.NO_TEXT);
        probe.declares("data u a=B(" + Probe.times(11, "a->") + "a)", 103);
        probe.declares("data v=C" + Probe.times(11, "(int,") + "(int)" + Probe.times(11, ")"), 104);
        probe.declareThrows("data w=D" + Probe.times(6, "((int,") + "(int)" + Probe.times(12, ")"), Probe.NO_TEXT);
        probe.declareThrows("data w=D" + Probe.times(6, "((list") + "(int)" + Probe.times(12, ")"), Probe.NO_TEXT);
        probe.declares("data w=D(list" + Probe.times(5, "((list") + "(int)" + Probe.times(11, ")"), 105);
    }

    private static void expressionDepth(Probe probe) {
        probe.anew();
        probe.declares("x=" + Probe.times(12, "(") + "1" + Probe.times(12, ")"), 0, "int");
        probe.declareThrows("x=" + Probe.times(13, "(") + "1" + Probe.times(13, ")"), Probe.NO_TEXT);
        probe.declares("x ^ y=" + Probe.times(12, "(") + "1" + Probe.times(12, ")"), 1);
        probe.declareThrows("x ^ y=" + Probe.times(13, "(") + "1" + Probe.times(13, ")"), Probe.NO_TEXT);
        probe.askThrows("let x=" + Probe.times(12, "(") + "1" + Probe.times(12, ")") + " in 1", Probe.NO_TEXT);
        probe.asks("let x=" + Probe.times(11, "(") + "1" + Probe.times(11, ")") + " in 1", "int");
    }
}

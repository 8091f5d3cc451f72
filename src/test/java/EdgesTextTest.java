/** The edges that the document names under TEXT, a method for each sentence or part of one. */
public final class EdgesTextTest {
    private static final String[] KEYWORDS = {"fn", "let", "in", "if", "then", "else", "case", "of", "data", "int"};
    /** Wherever a word may stand, with W for that word; those of declare() here, those of ask() below. */
    private static final String[] DECLARED_WITH_A_WORD = {"W=1", "W x=1", "f W=1", "f x W=1", "W^x=1", "x^W=1",
        "data W=A", "data t W=A W", "data t x W=A x W"};
    private static final String[] ASKED_WITH_A_WORD = {"fn W->W", "let W=1 in W", "let W x=x in W 1", "let f W=W in f 1",
        "case 1 of W->W", "case(1,2)of(W,_)->W", "case(1,2)of(_,W)->W", "case 1:Nil of W:_->W", "case 1:Nil of _:W->W",
        "fn x->case x of A W->W"};

    public static void main(String[] args) {
        Probe probe = new Probe("edges of TEXT");
        wordsHaveOneToSixLetters(probe);
        keywordsAreNoWords(probe);
        constructorsHaveUpToFiveSmallLetters(probe);
        numbersHaveOneToFourDigits(probe);
        everyCharacterBetweenNumbers(probe);
        everyCharacterBetweenWords(probe);
        everyCharacterAlone(probe);
        lettersBelongTogether(probe);
        digitsBelongTogether(probe);
        minusAndGreaterAreOneSign(probe);
        blanksStandBetween(probe);
        probe.end();
    }

    /** "WORDS are 1 to 6 letters a .. z" */
    private static void wordsHaveOneToSixLetters(Probe probe) {
        for (String word : new String[] {"a", "z", "q", "az", "abcdef", "zzzzzz"}) {
            everywhere(probe, word, true);
        }
        for (String word : new String[] {"abcdefg", "zzzzzzz", "aaaaaaaa", "aB", "abcdeF"}) {
            everywhere(probe, word, false);
        }
        // The first six letters of a longer row do not stand for it.
        probe.given("abcdef=1");
        probe.asked("abcdef", "int");
        probe.askRefused("abcdefg", Probe.NO_TEXT);
        probe.askRefused("abcde", Probe.NOT_THERE);
        probe.given("data abcdef=Q");
        probe.declared("data t=A abcdef", 103);
        probe.declareRefused("data t=A abcdefg", Probe.NO_TEXT);
        probe.declareRefused("data t=A abcde", Probe.NOT_THERE);
    }

    private static void everywhere(Probe probe, String word, boolean isWord) {
        probe.given("data u a=A a");
        for (String form : DECLARED_WITH_A_WORD) {
            String text = form.replace("data t", "data v").replace("=A", "=B").replace("W", word);
            if (isWord) {
                probe.declared(text, text.startsWith("data") ? 103 : 0);
            } else {
                probe.declareRefused(text, Probe.NO_TEXT);
            }
        }
        for (String form : ASKED_WITH_A_WORD) {
            String text = form.replace("W", word);
            if (isWord) {
                probe.askedAsText(text);
            } else {
                probe.askRefused(text, Probe.NO_TEXT);
            }
        }
    }

    /** "fn, let, in, if, then, else, case, of, data and int are KEYWORDS and no words" */
    private static void keywordsAreNoWords(Probe probe) {
        for (String keyword : KEYWORDS) {
            everywhere(probe, keyword, false);
            probe.given();
            probe.askRefused(keyword, Probe.NO_TEXT);
            probe.askRefused("(" + keyword + ")", Probe.NO_TEXT);
            probe.askRefused("1 + " + keyword, Probe.NO_TEXT);
            // A letter more or less, and it is a word.
            probe.declared(keyword + "s=1", 0, "int");
            probe.declared(keyword.substring(1) + "=1", 0, "int");
            probe.declared("x" + keyword + "=1", 0, "int");
        }
        probe.given();
        probe.declared("data t=A int", 102);
        probe.declareRefused("data t=A in", Probe.NO_TEXT);
        probe.declareRefused("data t=A fn", Probe.NO_TEXT);
    }

    /** "CONSTRUCTORS are a letter A .. Z and up to 5 letters a .. z behind it" */
    private static void constructorsHaveUpToFiveSmallLetters(Probe probe) {
        probe.given();
        for (String name : new String[] {"A", "Z", "Q", "Az", "Abcdef", "Zzzzzz"}) {
            probe.declared("data t=" + name, 102);
            probe.asks(name, "t");
            probe.asks("fn x->case x of " + name + "->1", "t -> int");
        }
        for (String name : new String[] {"Abcdefg", "Zzzzzzz", "AB", "AbC", "AbcdeF", "ABCDEF"}) {
            probe.declareRefused("data t=" + name, Probe.NO_TEXT);
            probe.declareRefused("data t=A|" + name, Probe.NO_TEXT);
            probe.askRefused(name, Probe.NO_TEXT);
            probe.askRefused("case 1 of " + name + "->1", Probe.NO_TEXT);
        }
        probe.given("data t=Abcdef");
        probe.askRefused("Abcde", Probe.NOT_THERE);
        probe.askRefused("Abcdefg", Probe.NO_TEXT);
        probe.askRefused("abcdef", Probe.NOT_THERE);
    }

    /** "NUMBERS are 1 to 4 digits" */
    private static void numbersHaveOneToFourDigits(Probe probe) {
        probe.given();
        for (String number : new String[] {"0", "9", "10", "999", "9999", "0000", "0009"}) {
            probe.asked(number, "int");
            probe.asked("case 1 of " + number + "->True", "bool");
            probe.declared("x=" + number, 0, "int");
        }
        for (String number : new String[] {"10000", "00000", "99999", "00001", "123456789"}) {
            probe.askRefused(number, Probe.NO_TEXT);
            probe.askRefused("case 1 of " + number + "->True", Probe.NO_TEXT);
            probe.declareRefused("x=" + number, Probe.NO_TEXT);
        }
    }

    /** "OPERATORS are the characters ..", "other characters (> without -, too) .. are no text" */
    private static void everyCharacterBetweenNumbers(Probe probe) {
        for (char c = 32; c <= 126; c++) {
            String text = "1" + c + "2";
            probe.given();
            if (isDigit(c)) {
                probe.asked(text, "int");
            } else if ("+-*/".indexOf(c) >= 0) {
                probe.asked(text, "int");
            } else if (c == '<' || c == '?') {
                probe.asked(text, "bool");
            } else if (c == ':' || c == ' ') {
                probe.askRefused(text, Probe.NO_TYPE);
            } else if (isLetter(c)) {
                probe.askRefused(text, Probe.NOT_THERE);
            } else {
                probe.askRefused(text, Probe.NO_TEXT);
            }
            // Those of @ ^ & are no other characters: with a level they are looked for.
            probe.given(p -> {
                p.infix('@', 3, true);
                p.infix('^', 0, true);
                p.infix('&', 9, false);
            });
            if ("@^&".indexOf(c) >= 0) {
                probe.askRefused(text, Probe.NOT_THERE);
            }
        }
    }

    private static void everyCharacterBetweenWords(Probe probe) {
        probe.given();
        for (char c = 32; c <= 126; c++) {
            String text = "x" + c + "y=1";
            if ("+-*/<?@^&".indexOf(c) >= 0) {
                probe.declared(text, 0, "a -> b -> int");
            } else if (c == ':') {
                probe.declareRefused(text, Probe.NOT_THERE);
            } else if (c == ' ') {
                probe.declared(text, 0, "a -> int");
            } else if (c >= 'a' && c <= 'z') {
                probe.declared(text, 0, "int");
            } else {
                probe.declareRefused(text, Probe.NO_TEXT);
            }
        }
    }

    private static void everyCharacterAlone(Probe probe) {
        probe.given();
        for (char c = 32; c <= 126; c++) {
            String text = String.valueOf(c);
            if (isDigit(c)) {
                probe.asked(text, "int");
            } else {
                probe.askRefused(text, isLetter(c) ? Probe.NOT_THERE : Probe.NO_TEXT);
            }
            // Behind a whole text, too.
            if (!isDigit(c) && !isLetter(c) && c != ' ') {
                probe.askRefused("True" + c, Probe.NO_TEXT);
                probe.askRefused(c + "(True", Probe.NO_TEXT);
            }
        }
    }

    private static boolean isDigit(char c) {
        return c >= '0' && c <= '9';
    }

    private static boolean isLetter(char c) {
        return c >= 'a' && c <= 'z' || c >= 'A' && c <= 'Z';
    }

    /** "Letters (of both kinds) that stand side by side belong together" */
    private static void lettersBelongTogether(Probe probe) {
        probe.given("f x=x");
        probe.asked("f True", "bool");
        probe.askRefused("fTrue", Probe.NO_TEXT);
        probe.askRefused("Truef", Probe.NOT_THERE);
        probe.askRefused("TrueTrue", Probe.NO_TEXT);
        probe.askRefused("NilNil", Probe.NO_TEXT);
        probe.askRefused("fnx->x", Probe.NO_TEXT);
        probe.askRefused("ifTrue then 1 else 2", Probe.NO_TEXT);
        probe.askRefused("if True then f else1", Probe.NO_TYPE);
        probe.asked("if True then1else2", "int");
        probe.askRefused("if True thenf else f", Probe.NO_TEXT);
        probe.asked("if(True)then(1)else(2)", "int");
        probe.askRefused("let x=1 inx", Probe.NO_TEXT);
        probe.asked("let x=1in(x)", "int");
        probe.askRefused("letx=1 in x", Probe.NO_TEXT);
        probe.asked("case 1of 1->1", "int");
        probe.askRefused("case 1 ofx->1", Probe.NO_TEXT);
        probe.declared("datat=True", 1, "bool");
        probe.declared("data t=Aint", 102);
        probe.asks("Aint", "t");
    }

    /** "so do digits"; "(x1 is a word and a number)" */
    private static void digitsBelongTogether(Probe probe) {
        probe.given();
        probe.asked("fn f->f12", "(int -> a) -> a");
        probe.asked("fn f->f1 2", "(int -> int -> a) -> a");
        probe.asked("fn f->f1234", "(int -> a) -> a");
        probe.askRefused("fn f->f12345", Probe.NO_TEXT);
        probe.asked("fn f->f1234 5", "(int -> int -> a) -> a");
        probe.asked("fn x->x1", "(int -> a) -> a");
        probe.askRefused("fn x1->x1", Probe.NO_TEXT);
        probe.declareRefused("x1=1", Probe.NO_TEXT);
        probe.declareRefused("data t=A1", Probe.NO_TEXT);
        probe.askRefused("1fn x->x", Probe.NO_TEXT);
        probe.askRefused("1x", Probe.NOT_THERE);
        probe.askRefused("1True", Probe.NO_TYPE);
        probe.askRefused("1(2)", Probe.NO_TYPE);
    }

    /** "- and > side by side are the sign ->" */
    private static void minusAndGreaterAreOneSign(Probe probe) {
        probe.given();
        probe.asked("fn x->x", "a -> a");
        probe.asked("fn x -> x", "a -> a");
        probe.askRefused("fn x- >x", Probe.NO_TEXT);
        probe.askRefused("fn x-x", Probe.NO_TEXT);
        probe.askRefused("fn x>x", Probe.NO_TEXT);
        probe.askRefused("fn x-->x", Probe.NO_TEXT);
        probe.askRefused("fn x->>x", Probe.NO_TEXT);
        probe.askRefused("fn x->->x", Probe.NO_TEXT);
        probe.askRefused("1->2", Probe.NO_TEXT);
        probe.askRefused("1->", Probe.NO_TEXT);
        probe.askRefused("1-", Probe.NO_TEXT);
        probe.askRefused("->", Probe.NO_TEXT);
        probe.asked("1-2", "int");
        probe.askRefused("1--2", Probe.NO_TEXT);
        probe.declareRefused("data t=A(int- >int)", Probe.NO_TEXT);
        probe.declared("data t=A(int->int)", 102);
        // The sign may be cut by type(): only the draft counts.
        probe.anew();
        probe.typed("fn x -");
        probe.typed(">x");
        probe.asks("", "a -> a");
    }

    /** "Blanks may stand between all these" */
    private static void blanksStandBetween(Probe probe) {
        probe.given();
        probe.asked("(1,True)", "(int, bool)");
        probe.asked("  (  1  ,  True  )  ", "(int, bool)");
        probe.asked("case 1:Nil of x:_->x|Nil->0", "int");
        probe.asked(" case 1 : Nil of x : _ -> x | Nil -> 0 ", "int");
        probe.declared("f x=x+1", 0, "int -> int");
        probe.declared(" f  x  =  x  +  1 ", 0, "int -> int");
        probe.declared("data t a=A(a->int)|B", 102);
        probe.declared(" data  t  a  =  A  (  a  ->  int  )  |  B ", 102);
        // Within a row of letters or digits they part it.
        probe.askRefused("Tr ue", Probe.NOT_THERE);
        probe.askRefused("1 2", Probe.NO_TYPE);
        probe.askRefused("i f True then 1 else 2", Probe.NO_TEXT);
        probe.askRefused(" ", Probe.NO_TEXT);
        probe.askRefused(Probe.times(80, " "), Probe.NO_TEXT);
        probe.asked(Probe.times(79, " ") + "1", "int");
        probe.asked("1" + Probe.times(79, " "), "int");
    }
}

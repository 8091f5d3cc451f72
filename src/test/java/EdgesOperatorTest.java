/** The edges that the document names under OPERATORS and promise 7, a method for each sentence or part of one. */
public final class EdgesOperatorTest {
    private static final String ALL = "+-*/<?:@^&";
    private static final String FREE = "+-*/<?@^&";
    private static final String LEFT = "((int, int), int)";
    private static final String RIGHT = "(int, (int, int))";

    public static void main(String[] args) {
        Probe probe = new Probe("edges of OPERATORS");
        atFirst(probe);
        levelsAreZeroToNine(probe);
        charactersThatAreNoOperators(probe);
        colonKeepsItsLevel(probe);
        whatIsRefusedChangesNothing(probe);
        greaterLevelsBindFirst(probe);
        leftOnesFromTheLeft(probe);
        rightOnesFromTheRight(probe);
        neighboursOfBothKindsAreNoText(probe);
        neighboursWithOthersBetween(probe);
        withoutALevelItIsNoText(probe);
        aLevelAloneMakesNoFunction(probe);
        levelsHoldForTextsBehind(probe);
        infixLeavesAllElse(probe);
        probe.end();
    }

    /** Both operators make pairs, so that what is joined first can be read. */
    private static void pairs(Probe probe, char one, char other) {
        probe.declares("x" + one + "y=(x,y)", 0);
        if (one != other) {
            probe.declares("x" + other + "y=(x,y)", 1);
        }
    }

    /** "At first: * and / 7, + and - 6, < and ? 4, all left; : 5, right." */
    private static void atFirst(Probe probe) {
        String operators = "*/+-<?";
        int[] levels = {7, 7, 6, 6, 4, 4};
        for (int i = 0; i < operators.length(); i++) {
            char c = operators.charAt(i);
            // Another one at the same level shows level and side: from the left it is taken, from the right it is no text.
            for (int level = 0; level <= 9; level++) {
                int at = level;
                probe.given(p -> {
                    pairs(p, c, '@');
                    p.infix('@', at, false);
                });
                probe.asked("1" + c + "2@3", level <= levels[i] ? LEFT : RIGHT);
                probe.asked("1@2" + c + "3", level >= levels[i] ? LEFT : RIGHT);
                if (level == levels[i]) {
                    probe.given(p -> {
                        pairs(p, c, '@');
                        p.infix('@', at, true);
                    });
                    probe.askRefused("1" + c + "2@3", Probe.NO_TEXT);
                    probe.askRefused("1@2" + c + "3", Probe.NO_TEXT);
                }
            }
        }
        for (int level = 0; level <= 9; level++) {
            colonAt(probe, level);
        }
    }

    private static void colonAt(Probe probe, int level) {
        for (boolean right : new boolean[] {false, true}) {
            probe.given(p -> {
                p.declares("x@y=(x,y)", 0);
                p.infix('@', level, right);
            });
            if (level == 5 && !right) {
                probe.askRefused("1:Nil@2", Probe.NO_TEXT);
                probe.askRefused("1@2:Nil", Probe.NO_TEXT);
            } else if (level < 5) {
                probe.asked("1:Nil@2", "(list int, int)");
                probe.asked("1@2:Nil", "(int, list int)");
            } else {
                probe.askRefused("1:Nil@2", Probe.NO_TYPE);
                probe.asked("1@2:Nil", level == 5 ? "(int, list int)" : "list (int, int)");
            }
        }
        probe.given();
        probe.asked("1:2:Nil", "list int");
    }

    /** "False, refused, if .. level is not 0 .. 9" */
    private static void levelsAreZeroToNine(Probe probe) {
        for (char c : FREE.toCharArray()) {
            probe.anew();
            for (boolean right : new boolean[] {false, true}) {
                for (int level = 0; level <= 9; level++) {
                    probe.same("infix " + c + " " + level, probe.infix(c, level, right), true);
                }
                for (int level : new int[] {-1, 10, -2, 11, 19, 100, 256, 65536, Integer.MIN_VALUE, Integer.MAX_VALUE}) {
                    probe.same("infix " + c + " " + level, probe.infix(c, level, right), false);
                }
            }
        }
    }

    /** "False, refused, if c is no operator" */
    private static void charactersThatAreNoOperators(Probe probe) {
        probe.anew();
        for (char c = 0; c < 300; c++) {
            boolean free = FREE.indexOf(c) >= 0;
            probe.same("infix of character " + (int) c, probe.infix(c, 3, c % 2 == 0), free);
        }
        probe.anew();
        for (char c : ALL.toCharArray()) {
            // Nor is one whose lower byte is that of an operator.
            probe.same("infix of a far character", probe.infix((char) (c + 256), 3, true), false);
            probe.same("infix of a far character", probe.infix((char) (c + 0x8000), 3, true), false);
        }
        probe.same("infix of the last character", probe.infix(Character.MAX_VALUE, 0, false), false);
    }

    /** "or :" */
    private static void colonKeepsItsLevel(Probe probe) {
        probe.anew();
        for (int level = -1; level <= 10; level++) {
            probe.same("infix : " + level, probe.infix(':', level, false), false);
            probe.same("infix : " + level, probe.infix(':', level, true), false);
        }
        probe.asks("1:2:Nil", "list int");
        probe.asks("1+2:Nil?Nil", "bool");
    }

    private static void whatIsRefusedChangesNothing(Probe probe) {
        for (int level : new int[] {-1, 10}) {
            probe.given(p -> {
                p.infix('@', 3, false);
                p.same("refused", p.infix('@', level, true), false);
                p.same("refused", p.infix('+', level, true), false);
                p.same("refused", p.infix('^', level, true), false);
                pairs(p, '+', '@');
            });
            probe.asked("1@2@3", LEFT);
            probe.asked("1+2+3", LEFT);
            probe.asked("1@2+3", RIGHT);
            // + is still of 6: < of 4 comes behind it, and - of 6 from the left.
            probe.askRefused("1+2<3", Probe.NO_TYPE);
            probe.askRefused("1+2-3", Probe.NO_TYPE);
            probe.asked("3-1+2", "(int, int)");
            probe.askRefused("1^2", Probe.NO_TEXT);
        }
        // What is refused counts nothing: 60 of these do not make it give up.
        probe.anew();
        for (int i = 0; i < 100; i++) {
            probe.same("refused", probe.infix('+', 10, true), false);
        }
        probe.asks("1+2", "int");
    }

    /** "those of a greater level bind their neighbours first" */
    private static void greaterLevelsBindFirst(Probe probe) {
        for (int low = 0; low <= 8; low++) {
            for (int side = 0; side < 4; side++) {
                int lower = low;
                boolean lowRight = side % 2 == 1;
                boolean highRight = side / 2 == 1;
                probe.given(p -> {
                    pairs(p, '@', '^');
                    p.infix('@', lower, lowRight);
                    p.infix('^', lower + 1, highRight);
                });
                probe.asked("1@2^3", RIGHT);
                probe.asked("1^2@3", LEFT);
                probe.asked("1^2@3^4", "((int, int), (int, int))");
            }
        }
        probe.given(p -> {
            pairs(p, '@', '^');
            p.infix('@', 0, true);
            p.infix('^', 9, false);
        });
        probe.asked("1@2^3", RIGHT);
        probe.asked("1@2^3^4@5", "(int, (((int, int), int), int))");
        // Applications bind ahead of all.
        probe.asked("1^(fn x->x) 2", "(int, int)");
    }

    /** "neighbours of one level from the left, if both are LEFT ones" */
    private static void leftOnesFromTheLeft(Probe probe) {
        for (int level = 0; level <= 9; level++) {
            int at = level;
            probe.given(p -> {
                pairs(p, '@', '^');
                p.infix('@', at, false);
                p.infix('^', at, false);
            });
            probe.asked("1@2@3", LEFT);
            probe.asked("1@2^3", LEFT);
            probe.asked("1^2@3", LEFT);
            probe.asked("1@2^3@4", "(((int, int), int), int)");
        }
    }

    /** "from the right, if both are RIGHT ones" */
    private static void rightOnesFromTheRight(Probe probe) {
        for (int level = 0; level <= 9; level++) {
            int at = level;
            probe.given(p -> {
                pairs(p, '@', '^');
                p.infix('@', at, true);
                p.infix('^', at, true);
            });
            probe.asked("1@2@3", RIGHT);
            probe.asked("1@2^3", RIGHT);
            probe.asked("1^2@3", RIGHT);
            probe.asked("1@2^3@4", "(int, (int, (int, int)))");
        }
    }

    /** "else it is no text" */
    private static void neighboursOfBothKindsAreNoText(Probe probe) {
        for (int level = 0; level <= 9; level++) {
            int at = level;
            probe.given(p -> {
                pairs(p, '@', '^');
                p.infix('@', at, false);
                p.infix('^', at, true);
            });
            probe.askRefused("1@2^3", Probe.NO_TEXT);
            probe.askRefused("1^2@3", Probe.NO_TEXT);
            probe.askRefused("1@2@3^4", Probe.NO_TEXT);
            probe.askRefused("1^2^3@4", Probe.NO_TEXT);
            probe.askRefused("z@z^z", Probe.NO_TEXT);
            probe.declareRefused("x=1@2^3", Probe.NO_TEXT);
            probe.asked("1@2@3", LEFT);
            probe.asked("1^2^3", RIGHT);
            // Brackets part them.
            probe.asked("(1@2)^3", LEFT);
            probe.asked("1@(2^3)", RIGHT);
        }
    }

    /** "(neighbours are also two with only such between as bind ahead of both)" */
    private static void neighboursWithOthersBetween(Probe probe) {
        probe.given(p -> {
            pairs(p, '@', '^');
            p.declares("x&y=(x,y)", 2);
            p.infix('@', 4, false);
            p.infix('^', 4, true);
            p.infix('&', 4, false);
        });
        probe.askRefused("1@2+3^4", Probe.NO_TEXT);
        probe.askRefused("1^2+3@4", Probe.NO_TEXT);
        probe.askRefused("1@2+3*4-5^6", Probe.NO_TEXT);
        probe.askRefused("1@2*3+4*5^6", Probe.NO_TEXT);
        probe.asked("1@2+3&4", LEFT);
        probe.asked("1@2*3+4*5&6", LEFT);
        probe.asked("1^2+3^4", RIGHT);
        // One between that binds behind them, or among them, parts them.
        probe.given(p -> {
            pairs(p, '@', '^');
            p.declares("x&y=(x,y)", 2);
            p.infix('@', 4, false);
            p.infix('^', 4, true);
            p.infix('&', 3, false);
        });
        probe.asked("1@2&3^4", "((int, int), (int, int))");
        probe.asked("1^2&3@4", "((int, int), (int, int))");
        probe.asked("1@2+3&4*5^6", "((int, int), (int, int))");
        probe.askRefused("1@2+3&4^5*6@7", Probe.NO_TEXT);
        probe.askRefused("1&2@3+4^5&6", Probe.NO_TEXT);
    }

    /** "A chain with an operator without a level is no text, either" */
    private static void withoutALevelItIsNoText(Probe probe) {
        probe.given("x@y=1", "x^y=1", "x&y=1");
        for (String text : new String[] {"1@2", "1^2", "1&2", "1+2@3", "1@2+3", "1*2^3*4", "(1@2)", "fn x->x@x", "z@z"}) {
            probe.askRefused(text, Probe.NO_TEXT);
            probe.declareRefused("x=" + text, Probe.NO_TEXT);
        }
        probe.given(p -> {
            p.declares("x@y=1", 0);
            p.same("a level", p.infix('@', 0, false), true);
        });
        probe.asked("1@2", "int");
        probe.askRefused("1^2", Probe.NO_TEXT);
        probe.askRefused("1@2^3", Probe.NO_TEXT);
    }

    /** "a level alone (of ^, say) makes no function" */
    private static void aLevelAloneMakesNoFunction(Probe probe) {
        for (char c : "@^&".toCharArray()) {
            probe.given(p -> p.infix(c, 5, true));
            probe.askRefused("1" + c + "2", Probe.NOT_THERE);
            probe.declareRefused("x=1" + c + "2", Probe.NOT_THERE);
            // It may call itself while it is declared.
            probe.declared("x" + c + "y=x" + c + "y", 0, "a -> b -> c");
            probe.asks("1" + c + "2", "a");
        }
    }

    private static void levelsHoldForTextsBehind(Probe probe) {
        probe.anew();
        probe.declares("x@y=(x,y)", 0);
        probe.infix('@', 1, false);
        probe.declares("f x=x@x@x", 1, "a -> ((a, a), a)");
        // A text that is typed but not yet read goes by the newer level.
        probe.typed("1@2@3");
        probe.infix('@', 1, true);
        probe.asks("", RIGHT);
        probe.scheme(1, "a -> ((a, a), a)");
        probe.declares("f x=x@x@x", 2, "a -> (a, (a, a))");
        // A level stays where a function comes anew.
        probe.declares("x@y=(y,x)", 3);
        probe.asks("1@2@True", "((bool, int), int)");
    }

    private static void infixLeavesAllElse(Probe probe) {
        probe.anew();
        probe.declares("x@y=case x of 1->y", 0, "int -> a -> a");
        probe.typed("1+1");
        probe.same("infix", probe.infix('@', 2, true), true);
        probe.same("infix", probe.infix('=', 2, true), false);
        probe.matches(1, 0);
        probe.counts(1, 2);
        probe.same("written", probe.written(), "int -> a -> a");
        probe.asks("", "int");
    }
}

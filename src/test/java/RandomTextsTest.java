import java.util.Random;

/**
 * Promises 2 to 9 on texts of chance (always the same ones): nothing but what the document tells is
 * thrown, what is refused changes nothing, and the finder gives up after 60 refusals.
 */
public final class RandomTextsTest {
    private static final String[] PARTS = {"x", "y", "f", "list", "bool", "t", "a", "1", "007", "True", "Nil", "A", "B",
        "fn ", "let ", " in ", "if ", " then ", " else ", "case ", " of ", "data ", "int", "=", "|", "(", ")", ",", "_",
        "->", "+", "*", "<", "?", ":", "@", "^", "&", "-", " ", "x", "(", ")", "1", "x->", "f x=", "'", ">"};
    private static final String[] WHOLES = {"x", "1", "(x,y)", "fn x->x", "f x", "x:y", "x ? y", "Nil", "A", "B x y",
        "let f x=x in f", "case x of Nil->1|a:b->2", "case x of A->1|B a b->2", "if x then y else 1", "x+1", "(f,x)",
        "f x=(f)", "x=1", "y=Nil", "f x=x", "f x y=(y,x)", "data t a=A|B a(t a)", "data u=C(int->int)"};

    private final Probe probe = new Probe("texts of chance");
    private final Random random = new Random(20261115);

    public static void main(String[] args) {
        RandomTextsTest test = new RandomTextsTest();
        for (int i = 0; i < 2000; i++) {
            test.oneObject(i % 2 == 0);
        }
        for (int i = 0; i < 200; i++) {
            test.untilGivenUp();
        }
        test.probe.end();
    }

    /** A text, its state before and behind it, and what is written take less than 200 calls. */
    private void oneObject(boolean sensible) {
        probe.anew();
        while (probe.callsLeft() >= 200) {
            String text = sensible ? nested() : soup();
            if (text.length() > 80) {
                text = text.substring(0, 80);
            }
            boolean declared = random.nextBoolean();
            String before = probe.state();
            Object answer = declared ? probe.declareAnswer(text) : probe.askAnswer(text);
            if (answer instanceof Class) {
                probe.same("state after '" + text + "' was refused", probe.state(), before);
                probe.same("throws as told for '" + text + "'", isTold((Class<?>) answer, declared), true);
            } else {
                probe.same("an answer for '" + text + "'", isAnswer((Integer) answer, declared), true);
            }
        }
    }

    private void untilGivenUp() {
        probe.anew();
        int refusals = 0;
        while (refusals < 60 && probe.callsLeft() >= 100) {
            String text = soup();
            text = text.substring(0, Math.min(text.length(), 16));
            if (probe.askAnswer(text) instanceof Class) {
                refusals++;
            }
        }
        String before = probe.state();
        probe.same("given up", probe.askAnswer("1"), refusals < 60 ? 3 : -2);
        if (refusals == 60) {
            probe.same("state of the finder that has given up", probe.state(), before);
        }
    }

    private static boolean isTold(Class<?> thrown, boolean declared) {
        return thrown == Probe.NO_TEXT || thrown == Probe.NOT_THERE || thrown == Probe.NO_TYPE
                || declared && thrown == Probe.NO_ROOM;
    }

    private boolean isAnswer(int answer, boolean declared) {
        if (!declared) {
            return answer > 0 && answer == probe.written().length();
        }
        return answer == probe.count(0) - 1 || answer == 99 + probe.count(1);
    }

    private String soup() {
        StringBuilder text = new StringBuilder(random.nextBoolean() ? "x=" : "");
        int parts = random.nextInt(25);
        for (int i = 0; i < parts; i++) {
            text.append(PARTS[random.nextInt(PARTS.length)]);
        }
        return text.toString();
    }

    /** A text of several, put one into the other where a letter x stands. */
    private String nested() {
        String text = WHOLES[random.nextInt(WHOLES.length)];
        int steps = random.nextInt(8);
        for (int i = 0; i < steps; i++) {
            int at = text.lastIndexOf('x', random.nextInt(text.length()));
            if (at >= 0) {
                text = text.substring(0, at) + "(" + WHOLES[random.nextInt(WHOLES.length)] + ")" + text.substring(at + 1);
            }
        }
        return text;
    }
}

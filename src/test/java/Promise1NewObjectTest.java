/** Promise 1: what is there at first. */
public final class Promise1NewObjectTest {
    public static void main(String[] args) {
        Probe probe = new Probe("promise 1");
        nothingDeclared(probe);
        firstTypes(probe);
        firstLevels(probe);
        firstConstructors(probe);
        objectsOfTheirOwn(probe);
        probe.end();
    }

    private static void nothingDeclared(Probe probe) {
        probe.anew();
        probe.same("names", probe.count(0), 0);
        probe.same("data types", probe.count(1), 2);
        probe.same("bool is compared", probe.count(2), 1);
        probe.same("list is compared", probe.count(3), 1);
        probe.same("no third data type", probe.count(4), -1);
        probe.same("no scheme", probe.scheme(0), -1);
        probe.same("nothing written", probe.written(0), -1);
        probe.matches(0, 0);
        probe.askThrows("", Probe.NO_TEXT);
        probe.declareThrows("", Probe.NO_TEXT);
    }

    private static void firstTypes(Probe probe) {
        probe.anew();
        probe.asks("fn x -> fn y -> x + y", "int -> int -> int");
        probe.asks("fn x -> fn y -> x - y", "int -> int -> int");
        probe.asks("fn x -> fn y -> x * y", "int -> int -> int");
        probe.asks("fn x -> fn y -> x / y", "int -> int -> int");
        probe.asks("fn x -> fn y -> x < y", "int -> int -> bool");
        probe.asks("fn x -> fn y -> x ? y", "'a -> 'a -> bool");
        probe.asks("fn x -> fn y -> x : y", "a -> list a -> list a");
    }

    private static void firstLevels(Probe probe) {
        probe.anew();
        probe.asks("1 < 2 ? True", "bool");
        probe.askThrows("True ? 1 < 2", Probe.NO_TYPE);
        probe.asks("1 + 2 < 3 - 4", "bool");
        probe.asks("1 : 2 : Nil", "list int");
        probe.asks("1 + 2 : Nil", "list int");
        probe.asks("1 : Nil ? Nil", "bool");
        probe.askThrows("1 < 2 : Nil", Probe.NO_TYPE);
        probe.declares("x * y = (x, y)", 0);
        probe.asks("(1, 2) ? 1 * 2", "bool");
        probe.askThrows("1 * 2 + 3", Probe.NO_TYPE);
        probe.askThrows("3 + 1 * 2", Probe.NO_TYPE);
        probe.asks("1 * 2 * 3", "((int, int), int)");
        probe.asks("4 / 2 * 3", "(int, int)");
        probe.askThrows("4 * 2 / 3", Probe.NO_TYPE);
        probe.declares("x - y = (x, y)", 1);
        probe.asks("1 + 2 - 3", "(int, int)");
        probe.askThrows("1 - 2 + 3", Probe.NO_TYPE);
        for (String operator : new String[] {"@", "^", "&"}) {
            probe.askThrows("1 " + operator + " 2", Probe.NO_TEXT);
        }
    }

    private static void firstConstructors(Probe probe) {
        probe.anew();
        probe.asks("True", "bool");
        probe.asks("False", "bool");
        probe.asks("Nil", "list a");
        probe.askThrows("Cons", Probe.NOT_THERE);
        probe.askThrows("bool", Probe.NOT_THERE);
        probe.asks("case True of True -> 1 | False -> 2", "int");
        probe.matches(0, 0);
        probe.asks("case Nil of Nil -> 1 | _ : _ -> 2", "int");
        probe.matches(0, 0);
    }

    private static void objectsOfTheirOwn(Probe probe) {
        probe.anew();
        probe.declares("x = 1", 0);
        probe.infix('^', 3, false);
        probe.anew();
        probe.askThrows("x", Probe.NOT_THERE);
        probe.askThrows("1 ^ 2", Probe.NO_TEXT);
    }
}

/** What README.md shows of the class: its two helpers and its run of calls, with the answers told there. */
public final class ReadmeTest {
    public static void main(String[] args) {
        Probe probe = new Probe("README");
        TypeFinder finder = new TypeFinder();
        type(finder, "eq x y = x ? y");
        int number = finder.declare();
        probe.same("the first name", number, 0);
        probe.same("its length", finder.scheme(number), 16);
        probe.same("its type", written(finder), "'a -> 'a -> bool");
        type(finder, "data opt a = None | Some a");
        probe.same("data type 2", finder.declare(), 102);
        type(finder, "fn x -> case x of Some y -> eq y 1");
        probe.same("the length of what was asked", finder.ask(), 15);
        probe.same("what was asked", written(finder), "opt int -> bool");
        probe.same("None is left out", finder.matches(0), 1);
        type(finder, "eq eq eq");
        probe.same("functions can't be compared", isRefused(finder), true);
        probe.end();
    }

    private static void type(TypeFinder finder, String text) {
        for (int from = 0; from < text.length(); from += 8) {
            long eight = 0;
            for (int i = Math.min(from + 8, text.length()) - 1; i >= from; i--) {
                eight = eight << 8 | text.charAt(i);
            }
            finder.type(eight);
        }
    }

    private static String written(TypeFinder finder) {
        StringBuilder text = new StringBuilder();
        for (int i = 0; finder.written(i) >= 0; i++) {
            text.append((char) finder.written(i));
        }
        return text.toString();
    }

    private static boolean isRefused(TypeFinder finder) {
        try {
            finder.ask();
            return false;
        } catch (IllegalStateException refusal) {
            return true;
        }
    }
}

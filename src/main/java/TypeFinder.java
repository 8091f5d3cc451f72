import java.util.ArrayList;

/**
 * Finds the types of a small language of functions as text: operators that bind as they are told,
 * pairs, data types that are declared, cases, functions that call themselves, names that are
 * general and used at many types, types that can be compared and such that can't; and says which
 * cases leave something out, or can never be come to.
 */
public final class TypeFinder {
    private static final int DRAFT_ROOM = 80;
    private static final int MOST_REFUSALS = 60;
    private static final int GIVEN_UP = -2;
    private static final int NONE = -1;
    private static final int FIRST_DATA_NUMBER = 100;

    private final char[] draft = new char[DRAFT_ROOM];
    private final Parser parser = new Parser();
    private final Known known = new Known();
    private final Checker checker = new Checker(known);
    private final Writer writer = new Writer();
    private int length;
    private int refusals;
    private int openCases;
    private int idleAlternatives;

    public TypeFinder() {
    }

    public boolean type(long s) {
        int bytes = 0;
        while (bytes < 8 && byteOf(s, bytes) != 0) {
            int c = byteOf(s, bytes);
            if (c < 32 || c > 126) {
                return false;
            }
            bytes++;
        }
        if (bytes == 0 || length + bytes > DRAFT_ROOM) {
            return false;
        }
        for (int i = 0; i < bytes; i++) {
            draft[length] = (char) byteOf(s, i);
            length++;
        }
        return true;
    }

    public int declare() throws IllegalArgumentException, UnsupportedOperationException,
            IllegalStateException, IndexOutOfBoundsException {
        if (refusals >= MOST_REFUSALS) {
            return GIVEN_UP;
        }
        Node text = parser.declaration(draft, takeDraft());
        checker.begin();
        int number;
        if (text.kind == Node.DATA) {
            number = FIRST_DATA_NUMBER + known.addData(text);
        } else {
            number = known.addName(checker.declaredName(text));
        }
        keepMatches();
        return number;
    }

    public int ask() throws IllegalArgumentException, UnsupportedOperationException,
            IllegalStateException {
        if (refusals >= MOST_REFUSALS) {
            return GIVEN_UP;
        }
        Node text = parser.question(draft, takeDraft());
        checker.begin();
        Type answer = checker.askedType(text);
        keepMatches();
        return writer.write(answer);
    }

    public int scheme(int k) {
        Name name = known.declaredName(k);
        return name == null ? NONE : writer.write(name.type);
    }

    public int written(int i) {
        return writer.characterAt(i);
    }

    public boolean infix(char c, int level, boolean right) {
        return parser.setLevel(c, level, right);
    }

    public int matches(int what) {
        if (what == 0) {
            return openCases;
        }
        return what == 1 ? idleAlternatives : NONE;
    }

    public int count(int what) {
        if (what == 0) {
            return known.declaredNames();
        }
        if (what == 1) {
            return known.dataTypes.size();
        }
        return what < 0 ? NONE : known.allowance(what - 2);
    }

    private static int byteOf(long s, int i) {
        return (int) (s >>> (8 * i)) & 255;
    }

    /**
     * Counts the text as refused ahead of all: what is thrown on the way leaves the call at once,
     * and only a text that holds comes to keepMatches, which takes that back.
     */
    private int takeDraft() {
        int taken = length;
        length = 0;
        refusals++;
        return taken;
    }

    private void keepMatches() {
        refusals--;
        openCases = checker.openCases;
        idleAlternatives = checker.idleAlternatives;
    }

    /** A text cut into words, constructors, numbers, operators and signs. */
    private static final class Tokens {
        static final int END = 0;
        static final int WORD = 1;
        static final int CONSTRUCTOR = 2;
        static final int NUMBER = 3;
        static final int OPERATOR = 4;
        static final int EQUALS = 5;
        static final int BAR = 6;
        static final int OPEN = 7;
        static final int CLOSE = 8;
        static final int COMMA = 9;
        static final int NOTHING = 10;
        static final int ARROW = 11;
        static final int FN = 12;
        static final int LET = 13;
        static final int IN = 14;
        static final int IF = 15;
        static final int THEN = 16;
        static final int ELSE = 17;
        static final int CASE = 18;
        static final int OF = 19;
        static final int DATA = 20;
        static final int INT = 21;
        static final String OPERATORS = "+-*/<?:@^&";
        // The signs stand in the order of the kinds from EQUALS on, the keywords from FN on.
        private static final String SIGNS = "=|(),_";
        private static final String KEYWORDS = "fn let in if then else case of data int ";
        private static final int LONGEST_WORD = 6;
        private static final int LONGEST_NUMBER = 4;

        private final int[] kinds = new int[DRAFT_ROOM + 1];
        private final long[] values = new long[DRAFT_ROOM + 1];
        private final long[] keywords = new long[INT - FN + 1];
        private int size;
        private int at;

        Tokens() {
            int keyword = 0;
            int start = 0;
            for (int i = 0; i < KEYWORDS.length() && keyword < keywords.length; i++) {
                if (KEYWORDS.charAt(i) == ' ') {
                    keywords[keyword] = packed(KEYWORDS.substring(start, i));
                    keyword++;
                    start = i + 1;
                }
            }
        }

        /** A row of letters as a number, so that words are compared without texts. */
        static long packed(String letters) {
            long word = 0;
            for (int i = 0; i < letters.length(); i++) {
                word = word << 8 | letters.charAt(i);
            }
            return word;
        }

        void read(char[] text, int length) {
            size = 0;
            at = 0;
            int i = 0;
            for (int step = 0; step < length && i < length; step++) {
                char c = text[i];
                int next = i + 1;
                if (isLetter(c)) {
                    next = readLetters(text, i, length);
                } else if (isDigit(c)) {
                    next = readDigits(text, i, length);
                } else if (c == '-' && next < length && text[next] == '>') {
                    put(ARROW, 0);
                    next++;
                } else if (c != ' ') {
                    readSign(c);
                }
                i = next;
            }
            put(END, 0);
        }

        private int readLetters(char[] text, int start, int length) {
            int i = start;
            long word = 0;
            while (i < length && isLetter(text[i])) {
                if (i - start >= LONGEST_WORD || i > start && isCapital(text[i])) {
                    throw new IllegalArgumentException();
                }
                word = word << 8 | text[i];
                i++;
            }
            put(isCapital(text[start]) ? CONSTRUCTOR : wordKind(word), word);
            return i;
        }

        private int readDigits(char[] text, int start, int length) {
            int i = start;
            long number = 0;
            while (i < length && isDigit(text[i])) {
                if (i - start >= LONGEST_NUMBER) {
                    throw new IllegalArgumentException();
                }
                number = number * 10 + (text[i] - '0');
                i++;
            }
            put(NUMBER, number);
            return i;
        }

        private void readSign(char c) {
            int sign = SIGNS.indexOf(c);
            if (sign >= 0) {
                put(EQUALS + sign, c);
            } else if (OPERATORS.indexOf(c) >= 0) {
                put(OPERATOR, c);
            } else {
                throw new IllegalArgumentException();
            }
        }

        private int wordKind(long word) {
            for (int i = 0; i < keywords.length; i++) {
                if (keywords[i] == word) {
                    return FN + i;
                }
            }
            return WORD;
        }

        private static boolean isLetter(char c) {
            return c >= 'a' && c <= 'z' || isCapital(c);
        }

        private static boolean isCapital(char c) {
            return c >= 'A' && c <= 'Z';
        }

        private static boolean isDigit(char c) {
            return c >= '0' && c <= '9';
        }

        private void put(int kind, long value) {
            if (size >= kinds.length) {
                throw new IllegalArgumentException();
            }
            kinds[size] = kind;
            values[size] = value;
            size++;
        }

        int kind() {
            return kinds[at];
        }

        boolean is(int kind) {
            return kinds[at] == kind;
        }

        int kindBehind() {
            return at + 1 < size ? kinds[at + 1] : END;
        }

        long value() {
            return values[at];
        }

        boolean accept(int kind) {
            if (kinds[at] != kind) {
                return false;
            }
            if (at + 1 < size) {
                at++;
            }
            return true;
        }

        long take(int kind) {
            if (kinds[at] != kind) {
                throw new IllegalArgumentException();
            }
            long value = values[at];
            if (at + 1 < size) {
                at++;
            }
            return value;
        }
    }

    /** A part of a text, with its own parts in a row. */
    private static final class Node {
        static final int NUMBER = 0;
        static final int WORD = 1;
        static final int CONSTRUCTOR = 2;
        static final int OPERATOR = 3;
        static final int APPLICATION = 4;
        // The parts of a chain stand as they are gone through: each operator behind its two.
        static final int CHAIN = 5;
        static final int PAIR = 6;
        static final int FN = 7;
        static final int LET = 8;
        static final int IF = 9;
        static final int CASE = 10;
        static final int ALTERNATIVE = 11;
        // The arguments of a definition come first, its expression is the last part.
        static final int DEFINITION = 12;
        // A name with the value 0 is _.
        static final int NAME = 13;
        static final int DATA = 14;
        static final int INT_TYPE = 15;
        static final int WORD_TYPE = 16;
        static final int FUNCTION_TYPE = 17;
        static final int PAIR_TYPE = 18;

        final int kind;
        final long value;
        Node first;
        Node last;
        Node next;

        Node(int kind, long value) {
            this.kind = kind;
            this.value = value;
        }

        void add(Node part) {
            part.next = null;
            if (last == null) {
                first = part;
            } else {
                last.next = part;
            }
            last = part;
        }

        void addName(long word) {
            for (Node part = first; part != null; part = part.next) {
                if (word != 0 && part.value == word) {
                    throw new IllegalArgumentException();
                }
            }
            add(new Node(NAME, word));
        }
    }

    /** Reads declarations and expressions, or refuses what is no text. */
    private static final class Parser {
        static final int DEEPEST = 12;
        private static final int LONGEST_CHAIN = 12;
        private static final int NO_LEVEL = -1;
        private static final int HIGHEST_LEVEL = 9;

        private final Tokens tokens = new Tokens();
        private final DataParser dataParser = new DataParser(tokens);
        // Both rows go by the place in Tokens.OPERATORS.
        private final int[] levels = {6, 6, 7, 7, 4, 4, 5, NO_LEVEL, NO_LEVEL, NO_LEVEL};
        private final boolean[] rights = {false, false, false, false, false, false, true, false, false, false};

        Parser() {
        }

        boolean setLevel(char c, int level, boolean right) {
            int place = Tokens.OPERATORS.indexOf(c);
            if (place < 0 || c == ':' || level < 0 || level > HIGHEST_LEVEL) {
                return false;
            }
            levels[place] = level;
            rights[place] = right;
            return true;
        }

        Node declaration(char[] text, int length) {
            tokens.read(text, length);
            Node declared;
            if (tokens.accept(Tokens.DATA)) {
                declared = dataParser.declaration();
            } else if (tokens.kindBehind() == Tokens.OPERATOR) {
                declared = operatorDefinition();
            } else {
                declared = definition(0);
            }
            tokens.take(Tokens.END);
            return declared;
        }

        Node question(char[] text, int length) {
            tokens.read(text, length);
            Node asked = expression(0);
            tokens.take(Tokens.END);
            return asked;
        }

        private Node operatorDefinition() {
            long left = tokens.take(Tokens.WORD);
            Node definition = new Node(Node.DEFINITION, tokens.take(Tokens.OPERATOR));
            definition.addName(left);
            definition.addName(tokens.take(Tokens.WORD));
            tokens.take(Tokens.EQUALS);
            definition.add(expression(0));
            return definition;
        }

        /** The expression of the definition lies as deep as is told. */
        private Node definition(int depth) {
            long word = tokens.take(Tokens.WORD);
            Node definition = new Node(Node.DEFINITION, word);
            for (int i = 0; i < DRAFT_ROOM && tokens.is(Tokens.WORD); i++) {
                long argument = tokens.take(Tokens.WORD);
                if (argument == word) {
                    throw new IllegalArgumentException();
                }
                definition.addName(argument);
            }
            tokens.take(Tokens.EQUALS);
            definition.add(expression(depth));
            return definition;
        }

        private Node expression(int depth) {
            if (depth > DEEPEST) {
                throw new IllegalArgumentException();
            }
            if (tokens.accept(Tokens.FN)) {
                return function(depth);
            }
            if (tokens.accept(Tokens.LET)) {
                return let(depth);
            }
            if (tokens.accept(Tokens.IF)) {
                return choice(depth);
            }
            if (tokens.accept(Tokens.CASE)) {
                return cases(depth);
            }
            return chain(depth);
        }

        private Node function(int depth) {
            Node function = new Node(Node.FN, tokens.take(Tokens.WORD));
            tokens.take(Tokens.ARROW);
            function.add(expression(depth + 1));
            return function;
        }

        private Node let(int depth) {
            Node let = new Node(Node.LET, 0);
            let.add(definition(depth + 1));
            tokens.take(Tokens.IN);
            let.add(expression(depth + 1));
            return let;
        }

        private Node choice(int depth) {
            Node choice = new Node(Node.IF, 0);
            choice.add(expression(depth + 1));
            tokens.take(Tokens.THEN);
            choice.add(expression(depth + 1));
            tokens.take(Tokens.ELSE);
            choice.add(expression(depth + 1));
            return choice;
        }

        private Node cases(int depth) {
            Node cases = new Node(Node.CASE, 0);
            cases.add(expression(depth + 1));
            tokens.take(Tokens.OF);
            boolean more = true;
            for (int i = 0; i < DRAFT_ROOM && more; i++) {
                Node alternative = new Node(Node.ALTERNATIVE, 0);
                alternative.add(pattern());
                tokens.take(Tokens.ARROW);
                alternative.add(expression(depth + 1));
                cases.add(alternative);
                more = tokens.accept(Tokens.BAR);
            }
            return cases;
        }

        private Node pattern() {
            if (tokens.is(Tokens.NUMBER)) {
                return new Node(Node.NUMBER, tokens.take(Tokens.NUMBER));
            }
            if (tokens.accept(Tokens.OPEN)) {
                Node pair = new Node(Node.PAIR, 0);
                pair.addName(name());
                tokens.take(Tokens.COMMA);
                pair.addName(name());
                tokens.take(Tokens.CLOSE);
                return pair;
            }
            if (tokens.is(Tokens.CONSTRUCTOR)) {
                Node pattern = new Node(Node.CONSTRUCTOR, tokens.take(Tokens.CONSTRUCTOR));
                for (int i = 0; i < DRAFT_ROOM && startsName(); i++) {
                    pattern.addName(name());
                }
                return pattern;
            }
            long word = name();
            if (tokens.is(Tokens.OPERATOR) && tokens.value() == ':') {
                Node pattern = new Node(Node.CONSTRUCTOR, tokens.take(Tokens.OPERATOR));
                pattern.addName(word);
                pattern.addName(name());
                return pattern;
            }
            return new Node(Node.NAME, word);
        }

        private boolean startsName() {
            return tokens.is(Tokens.WORD) || tokens.is(Tokens.NOTHING);
        }

        private long name() {
            return tokens.accept(Tokens.NOTHING) ? 0 : tokens.take(Tokens.WORD);
        }

        private Node chain(int depth) {
            Node application = application(depth);
            if (!tokens.is(Tokens.OPERATOR)) {
                return application;
            }
            Node chain = new Node(Node.CHAIN, 0);
            chain.add(application);
            Node waiting = null;
            for (int i = 1; tokens.is(Tokens.OPERATOR); i++) {
                if (i >= LONGEST_CHAIN) {
                    throw new IllegalArgumentException();
                }
                Node operator = new Node(Node.OPERATOR, tokens.take(Tokens.OPERATOR));
                refuseWithoutLevel(operator.value);
                waiting = placeAhead(chain, waiting, operator);
                operator.next = waiting;
                waiting = operator;
                chain.add(application(depth));
            }
            while (waiting != null) {
                Node behind = waiting.next;
                chain.add(waiting);
                waiting = behind;
            }
            return chain;
        }

        /** Places those waiting operators that bind ahead of the new one; answers those left. */
        private Node placeAhead(Node chain, Node waiting, Node operator) {
            Node left = waiting;
            while (left != null && bindsAhead(left.value, operator.value)) {
                Node behind = left.next;
                chain.add(left);
                left = behind;
            }
            return left;
        }

        private boolean bindsAhead(long left, long right) {
            int leftPlace = placeOf(left);
            int rightPlace = placeOf(right);
            if (levels[leftPlace] != levels[rightPlace]) {
                return levels[leftPlace] > levels[rightPlace];
            }
            if (rights[leftPlace] != rights[rightPlace]) {
                throw new IllegalArgumentException();
            }
            return !rights[leftPlace];
        }

        private void refuseWithoutLevel(long operator) {
            if (levels[placeOf(operator)] == NO_LEVEL) {
                throw new IllegalArgumentException();
            }
        }

        private static int placeOf(long operator) {
            int place = Tokens.OPERATORS.indexOf((char) operator);
            if (place < 0) {
                throw new IllegalArgumentException();
            }
            return place;
        }

        private Node application(int depth) {
            Node head = atom(depth);
            if (!startsAtom()) {
                return head;
            }
            Node application = new Node(Node.APPLICATION, 0);
            application.add(head);
            for (int i = 0; i < DRAFT_ROOM && startsAtom(); i++) {
                application.add(atom(depth));
            }
            return application;
        }

        private boolean startsAtom() {
            return tokens.is(Tokens.NUMBER) || tokens.is(Tokens.WORD)
                    || tokens.is(Tokens.CONSTRUCTOR) || tokens.is(Tokens.OPEN);
        }

        private Node atom(int depth) {
            if (tokens.is(Tokens.NUMBER)) {
                return new Node(Node.NUMBER, tokens.take(Tokens.NUMBER));
            }
            if (tokens.is(Tokens.WORD)) {
                return new Node(Node.WORD, tokens.take(Tokens.WORD));
            }
            if (tokens.is(Tokens.CONSTRUCTOR)) {
                return new Node(Node.CONSTRUCTOR, tokens.take(Tokens.CONSTRUCTOR));
            }
            tokens.take(Tokens.OPEN);
            Node inner = expression(depth + 1);
            if (tokens.accept(Tokens.COMMA)) {
                Node pair = new Node(Node.PAIR, 0);
                pair.add(inner);
                pair.add(expression(depth + 1));
                inner = pair;
            }
            tokens.take(Tokens.CLOSE);
            return inner;
        }
    }

    /** Reads what stands behind the keyword data. */
    private static final class DataParser {
        private static final int MOST_PARAMETERS = 2;
        private static final int MOST_ALTERNATIVES = 4;
        private static final int MOST_ATOMS = 2;

        private final Tokens tokens;

        DataParser(Tokens tokens) {
            this.tokens = tokens;
        }

        Node declaration() {
            Node data = new Node(Node.DATA, tokens.take(Tokens.WORD));
            for (int i = 0; tokens.is(Tokens.WORD); i++) {
                if (i >= MOST_PARAMETERS) {
                    throw new IllegalArgumentException();
                }
                data.addName(tokens.take(Tokens.WORD));
            }
            tokens.take(Tokens.EQUALS);
            data.add(alternative());
            for (int i = 1; tokens.accept(Tokens.BAR); i++) {
                if (i >= MOST_ALTERNATIVES) {
                    throw new IllegalArgumentException();
                }
                data.add(alternative());
            }
            return data;
        }

        private Node alternative() {
            Node alternative = new Node(Node.ALTERNATIVE, tokens.take(Tokens.CONSTRUCTOR));
            for (int i = 0; startsAtom(tokens.kind()); i++) {
                if (i >= MOST_ATOMS) {
                    throw new IllegalArgumentException();
                }
                alternative.add(typeAtom(0));
            }
            return alternative;
        }

        private static boolean startsAtom(int kind) {
            return kind == Tokens.INT || kind == Tokens.WORD || kind == Tokens.OPEN;
        }

        private Node wholeType(int depth) {
            if (depth > Parser.DEEPEST) {
                throw new IllegalArgumentException();
            }
            if (tokens.is(Tokens.WORD) && startsAtom(tokens.kindBehind())) {
                Node data = new Node(Node.WORD_TYPE, tokens.take(Tokens.WORD));
                for (int i = 0; i < DRAFT_ROOM && startsAtom(tokens.kind()); i++) {
                    data.add(typeAtom(depth));
                }
                return data;
            }
            Node atom = typeAtom(depth);
            if (tokens.accept(Tokens.ARROW)) {
                return joined(Node.FUNCTION_TYPE, atom, wholeType(depth + 1));
            }
            if (tokens.accept(Tokens.COMMA)) {
                return joined(Node.PAIR_TYPE, atom, typeAtom(depth));
            }
            return atom;
        }

        private static Node joined(int kind, Node left, Node right) {
            Node whole = new Node(kind, 0);
            whole.add(left);
            whole.add(right);
            return whole;
        }

        private Node typeAtom(int depth) {
            if (tokens.accept(Tokens.INT)) {
                return new Node(Node.INT_TYPE, 0);
            }
            if (tokens.is(Tokens.WORD)) {
                return new Node(Node.WORD_TYPE, tokens.take(Tokens.WORD));
            }
            tokens.take(Tokens.OPEN);
            Node inner = wholeType(depth + 1);
            tokens.take(Tokens.CLOSE);
            return inner;
        }
    }

    /** A type; one that was put for a variable, or found the same as another, has a link. */
    private static final class Type {
        static final int INTEGER = 0;
        static final int FUNCTION = 1;
        static final int PAIR = 2;
        static final int DATA = 3;
        static final int VARIABLE = 4;
        static final int GENERAL = 5;

        int kind;
        boolean comparable;
        final DataType data;
        final Type left;
        final Type right;
        Type link;
        // Only of use while the mark is that of the walk that goes on.
        Type twin;
        int mark;

        /** A new variable. */
        Type() {
            kind = VARIABLE;
            data = null;
            left = null;
            right = null;
        }

        Type(int kind, DataType data, Type left, Type right) {
            this.kind = kind;
            this.data = data;
            this.left = left;
            this.right = right;
        }

        Type end() {
            Type at = this;
            for (int i = 0; i < Unifier.MOST_STEPS && at.link != null; i++) {
                at = at.link;
            }
            return at;
        }
    }

    /** Makes types the same, copies them, and tells what is general in them. */
    private static final class Unifier {
        // Stands far above what a text of 80 characters can need.
        static final int MOST_STEPS = 1000000;
        private static final int GREATEST_SIZE = 24;
        private static final int DEEPEST_COPY = 60;

        private final ArrayList<Type> todo = new ArrayList<>();
        private final ArrayList<Type> open = new ArrayList<>();
        private final ArrayList<Type> walk = new ArrayList<>();
        private int walks;

        Unifier() {
        }

        static Type function(Type argument, Type result) {
            return new Type(Type.FUNCTION, null, argument, result);
        }

        /** Types that have been found the same are linked, so that none is gone through twice. */
        void unify(Type one, Type other) {
            todo.clear();
            open.clear();
            pushPair(one, other);
            for (int step = 0; !todo.isEmpty(); step++) {
                if (step >= MOST_STEPS) {
                    throw new IllegalStateException();
                }
                Type right = popped(todo);
                Type left = popped(todo);
                if (left == null || right == null) {
                    linkOpen();
                    continue;
                }
                left = left.end();
                right = right.end();
                if (left == right) {
                    continue;
                }
                if (left.kind == Type.VARIABLE) {
                    bind(left, right);
                } else if (right.kind == Type.VARIABLE) {
                    bind(right, left);
                } else {
                    openParts(left, right);
                }
            }
        }

        private void pushPair(Type left, Type right) {
            todo.add(left);
            todo.add(right);
        }

        private static Type popped(ArrayList<Type> stack) {
            return stack.isEmpty() ? null : stack.remove(stack.size() - 1);
        }

        /** The empty pair comes up when all parts have been made the same. */
        private void openParts(Type left, Type right) {
            if (left.kind != right.kind || left.data != right.data) {
                throw new IllegalStateException();
            }
            if (left.left != null) {
                open.add(left);
                open.add(right);
                pushPair(null, null);
                if (left.right != null) {
                    pushPair(left.right, right.right);
                }
                pushPair(left.left, right.left);
            }
        }

        private void linkOpen() {
            Type right = popped(open);
            Type left = popped(open);
            if (left != null) {
                left.link = right;
            }
        }

        private void bind(Type variable, Type type) {
            startWalk(type);
            for (int step = 0; step < MOST_STEPS && !walk.isEmpty(); step++) {
                Type part = nextPart();
                if (part == variable) {
                    throw new IllegalStateException();
                }
                if (part != null && variable.comparable) {
                    makeComparable(part);
                }
            }
            variable.link = type;
        }

        private static void makeComparable(Type part) {
            if (part.kind == Type.FUNCTION || part.data != null && !part.data.allows) {
                throw new IllegalStateException();
            }
            if (part.kind == Type.VARIABLE) {
                part.comparable = true;
            }
        }

        private void startWalk(Type type) {
            walks++;
            walk.clear();
            walk.add(type);
        }

        /** The next part of the types on the walk; null if it has been there already. */
        private Type nextPart() {
            Type top = popped(walk);
            if (top == null) {
                return null;
            }
            Type part = top.end();
            if (part.mark == walks) {
                return null;
            }
            part.mark = walks;
            if (part.right != null) {
                walk.add(part.right);
            }
            if (part.left != null) {
                walk.add(part.left);
            }
            return part;
        }

        /** Parts that stand at several places count at each of them. */
        boolean tooGreat(Type type) {
            walk.clear();
            walk.add(type);
            int size = 0;
            while (!walk.isEmpty() && size <= GREATEST_SIZE) {
                size++;
                Type part = walk.remove(walk.size() - 1).end();
                if (part.right != null) {
                    walk.add(part.right);
                }
                if (part.left != null) {
                    walk.add(part.left);
                }
            }
            return size > GREATEST_SIZE;
        }

        /** The type with new variables for the general ones. */
        Type copy(Type type) {
            walks++;
            return copied(type, 0);
        }

        private Type copied(Type type, int depth) {
            if (depth > DEEPEST_COPY) {
                throw new IllegalStateException();
            }
            Type from = type.end();
            if (from.kind == Type.GENERAL) {
                if (from.mark != walks || from.twin == null) {
                    from.mark = walks;
                    from.twin = new Type();
                    from.twin.comparable = from.comparable;
                }
                return from.twin;
            }
            if (from.left == null) {
                return from;
            }
            Type left = copied(from.left, depth + 1);
            Type right = from.right == null ? null : copied(from.right, depth + 1);
            return new Type(from.kind, from.data, left, right);
        }

        /** Makes those variables of the type general that stand in no name's type. */
        void generalize(Type type, ArrayList<Name> names) {
            walks++;
            walk.clear();
            for (int i = 0; i < names.size(); i++) {
                walk.add(names.get(i).type);
            }
            for (int step = 0; step < MOST_STEPS && !walk.isEmpty(); step++) {
                nextPart();
            }
            walk.add(type);
            for (int step = 0; step < MOST_STEPS && !walk.isEmpty(); step++) {
                Type part = nextPart();
                if (part != null && part.kind == Type.VARIABLE) {
                    part.kind = Type.GENERAL;
                }
            }
        }

        boolean hasVariable(Type type) {
            startWalk(type);
            for (int step = 0; step < MOST_STEPS && !walk.isEmpty(); step++) {
                Type part = nextPart();
                if (part != null && part.kind == Type.VARIABLE) {
                    return true;
                }
            }
            return false;
        }
    }

    /** A data type, with general variables for its parameters. */
    private static final class DataType {
        final long word;
        final int parameters;
        final ArrayList<Name> constructors = new ArrayList<>();
        Type whole;
        boolean allows = true;

        private DataType(long word, int parameters) {
            this.word = word;
            this.parameters = parameters;
        }

        static DataType made(long word, int parameters) {
            DataType data = new DataType(word, parameters);
            Type left = parameters > 0 ? new Type(Type.GENERAL, null, null, null) : null;
            Type right = parameters > 1 ? new Type(Type.GENERAL, null, null, null) : null;
            data.whole = new Type(Type.DATA, data, left, right);
            return data;
        }
    }

    /** A name or a constructor with its type; only a general one is copied when it is used. */
    private static final class Name {
        final long word;
        final Type type;
        final boolean general;

        Name(long word, Type type, boolean general) {
            this.word = word;
            this.type = type;
            this.general = general;
        }
    }

    /** What has been declared, and what is there at first. */
    private static final class Known {
        private static final int MOST_NAMES = 24;
        private static final int MOST_DATA_TYPES = 6;
        private static final int DEEPEST_TYPE = 60;

        final Type integer = new Type(Type.INTEGER, null, null, null);
        final Type truth;
        final ArrayList<DataType> dataTypes = new ArrayList<>();
        private final ArrayList<Name> names = new ArrayList<>();
        private final int firstNames;

        Known() {
            DataType bool = DataType.made(Tokens.packed("bool"), 0);
            truth = bool.whole;
            bool.constructors.add(new Name(Tokens.packed("True"), truth, true));
            bool.constructors.add(new Name(Tokens.packed("False"), truth, true));
            dataTypes.add(bool);
            DataType list = DataType.made(Tokens.packed("list"), 1);
            Type joining = Unifier.function(list.whole.left, Unifier.function(list.whole, list.whole));
            list.constructors.add(new Name(Tokens.packed("Nil"), list.whole, true));
            list.constructors.add(new Name(':', joining, true));
            dataTypes.add(list);
            Type reckoning = Unifier.function(integer, Unifier.function(integer, integer));
            names.add(new Name('+', reckoning, true));
            names.add(new Name('-', reckoning, true));
            names.add(new Name('*', reckoning, true));
            names.add(new Name('/', reckoning, true));
            names.add(new Name('<', Unifier.function(integer, Unifier.function(integer, truth)), true));
            Type compared = new Type(Type.GENERAL, null, null, null);
            compared.comparable = true;
            names.add(new Name('?', Unifier.function(compared, Unifier.function(compared, truth)), true));
            firstNames = names.size();
        }

        int declaredNames() {
            return names.size() - firstNames;
        }

        Name declaredName(int number) {
            return number < 0 || number >= declaredNames() ? null : names.get(firstNames + number);
        }

        int allowance(int number) {
            if (number < 0 || number >= dataTypes.size()) {
                return NONE;
            }
            return dataTypes.get(number).allows ? 1 : 0;
        }

        Name latest(long word) {
            for (int i = names.size() - 1; i >= 0; i--) {
                if (names.get(i).word == word) {
                    return names.get(i);
                }
            }
            return null;
        }

        Name constructor(long word) {
            for (int i = 0; i < dataTypes.size(); i++) {
                Name found = constructorOf(dataTypes.get(i), word);
                if (found != null) {
                    return found;
                }
            }
            return null;
        }

        private static Name constructorOf(DataType data, long word) {
            for (int i = 0; i < data.constructors.size(); i++) {
                if (data.constructors.get(i).word == word) {
                    return data.constructors.get(i);
                }
            }
            return null;
        }

        int addName(Name name) {
            if (declaredNames() >= MOST_NAMES) {
                throw new IndexOutOfBoundsException();
            }
            names.add(name);
            return declaredNames() - 1;
        }

        int addData(Node declared) {
            if (dataType(declared.value) != null) {
                throw new UnsupportedOperationException();
            }
            int parameters = 0;
            Node part = declared.first;
            while (part != null && part.kind == Node.NAME) {
                parameters++;
                part = part.next;
            }
            DataType data = DataType.made(declared.value, parameters);
            while (part != null) {
                addConstructor(data, part, declared.first);
                part = part.next;
            }
            if (dataTypes.size() >= MOST_DATA_TYPES) {
                throw new IndexOutOfBoundsException();
            }
            dataTypes.add(data);
            return dataTypes.size() - 1;
        }

        private DataType dataType(long word) {
            for (int i = 0; i < dataTypes.size(); i++) {
                if (dataTypes.get(i).word == word) {
                    return dataTypes.get(i);
                }
            }
            return null;
        }

        private void addConstructor(DataType data, Node alternative, Node words) {
            long word = alternative.value;
            if (constructor(word) != null || constructorOf(data, word) != null) {
                throw new UnsupportedOperationException();
            }
            Node one = alternative.first;
            Node two = one == null ? null : one.next;
            Type first = one == null ? null : typeOf(one, data, words, 0);
            Type second = two == null ? null : typeOf(two, data, words, 0);
            Type type = data.whole;
            if (second != null) {
                type = Unifier.function(second, type);
            }
            if (first != null) {
                type = Unifier.function(first, type);
            }
            data.constructors.add(new Name(word, type, true));
        }

        /** The words are those of the parameters; a function bars the data type from being compared. */
        private Type typeOf(Node node, DataType data, Node words, int depth) {
            if (depth > DEEPEST_TYPE) {
                throw new IllegalStateException();
            }
            if (node.kind == Node.INT_TYPE) {
                return integer;
            }
            if (node.kind == Node.WORD_TYPE) {
                Type parameter = node.first == null ? parameterType(node.value, data, words) : null;
                return parameter != null ? parameter : dataTypeOf(node, data, words, depth);
            }
            Type left = node.first == null ? integer : typeOf(node.first, data, words, depth + 1);
            Type right = node.last == null ? integer : typeOf(node.last, data, words, depth + 1);
            if (node.kind == Node.FUNCTION_TYPE) {
                data.allows = false;
                return Unifier.function(left, right);
            }
            return new Type(Type.PAIR, null, left, right);
        }

        private static Type parameterType(long word, DataType data, Node words) {
            if (data.parameters > 0 && words.value == word) {
                return data.whole.left;
            }
            if (data.parameters > 1 && words.next != null && words.next.value == word) {
                return data.whole.right;
            }
            return null;
        }

        private Type dataTypeOf(Node node, DataType data, Node words, int depth) {
            DataType meant = node.value == data.word ? data : dataType(node.value);
            int types = 0;
            for (Node part = node.first; part != null; part = part.next) {
                types++;
            }
            if (meant == null || meant.parameters != types) {
                throw new UnsupportedOperationException();
            }
            if (!meant.allows) {
                data.allows = false;
            }
            Node one = node.first;
            Node two = one == null ? null : one.next;
            Type left = one == null ? null : typeOf(one, data, words, depth + 1);
            Type right = two == null ? null : typeOf(two, data, words, depth + 1);
            return new Type(Type.DATA, meant, left, right);
        }
    }

    /** Goes through the parts of a text and finds their types. */
    private static final class Checker {
        private static final int DEEPEST_PART = 60;

        private final Known known;
        private final Unifier unifier = new Unifier();
        private final ArrayList<Name> scope = new ArrayList<>();
        private final ArrayList<Type> operands = new ArrayList<>();
        int openCases;
        int idleAlternatives;

        Checker(Known known) {
            this.known = known;
        }

        void begin() {
            scope.clear();
            operands.clear();
            openCases = 0;
            idleAlternatives = 0;
        }

        Type askedType(Node expression) {
            return found(expression, 0);
        }

        Name declaredName(Node definition) {
            if (definition.value == ':') {
                throw new UnsupportedOperationException();
            }
            Name name = defined(definition, 0);
            if (unifier.hasVariable(name.type)) {
                throw new IllegalStateException();
            }
            return name;
        }

        private Name defined(Node definition, int depth) {
            boolean function = definition.first != definition.last;
            Type type = function ? functionType(definition, depth) : found(definition.first, depth + 1);
            boolean general = function || isValue(definition.first, 0);
            if (general) {
                unifier.generalize(type, scope);
            }
            return new Name(definition.value, type, general);
        }

        private Type functionType(Node definition, int depth) {
            int outer = scope.size();
            Type whole = addWord(definition.value);
            Node part = definition.first;
            while (part.next != null) {
                addWord(part.value);
                part = part.next;
            }
            Type type = found(part, depth + 1);
            for (int i = scope.size() - 1; i > outer; i--) {
                type = Unifier.function(scope.get(i).type, type);
            }
            unifier.unify(whole, type);
            leave(outer);
            return checked(type);
        }

        private Type addWord(long word) {
            Type type = new Type();
            scope.add(new Name(word, type, false));
            return type;
        }

        private void leave(int outer) {
            while (scope.size() > outer) {
                scope.remove(scope.size() - 1);
            }
        }

        private Type checked(Type type) {
            if (unifier.tooGreat(type)) {
                throw new IllegalStateException();
            }
            return type;
        }

        private Type found(Node node, int depth) {
            if (node == null || depth > DEEPEST_PART) {
                throw new IllegalStateException();
            }
            switch (node.kind) {
                case Node.NUMBER:
                    return known.integer;
                case Node.WORD:
                    return use(nameOf(node.value));
                case Node.CONSTRUCTOR:
                    return use(known.constructor(node.value));
                case Node.APPLICATION:
                    return application(node, depth);
                case Node.CHAIN:
                    return chain(node, depth);
                case Node.PAIR:
                    return checked(pair(node, depth));
                case Node.FN:
                    return checked(function(node, depth));
                case Node.LET:
                    return checked(let(node, depth));
                case Node.IF:
                    return checked(choice(node, depth));
                default:
                    return checked(cases(node, depth));
            }
        }

        /** The size comes first: what is copied is no greater than it may be. */
        private Type use(Name name) {
            if (name == null) {
                throw new UnsupportedOperationException();
            }
            checked(name.type);
            return name.general ? unifier.copy(name.type) : name.type;
        }

        private Name nameOf(long word) {
            for (int i = scope.size() - 1; i >= 0; i--) {
                if (scope.get(i).word == word) {
                    return scope.get(i);
                }
            }
            return known.latest(word);
        }

        private Type application(Node node, int depth) {
            Type type = found(node.first, depth + 1);
            for (Node part = node.first.next; part != null; part = part.next) {
                Type argument = found(part, depth + 1);
                Type result = new Type();
                unifier.unify(type, Unifier.function(argument, result));
                type = checked(result);
            }
            return type;
        }

        private Type chain(Node node, int depth) {
            for (Node part = node.first; part != null; part = part.next) {
                if (part.kind == Node.OPERATOR) {
                    Type right = takeOperand();
                    Type left = takeOperand();
                    Type result = new Type();
                    unifier.unify(operatorUse(part.value), Unifier.function(left, Unifier.function(right, result)));
                    operands.add(checked(result));
                } else {
                    operands.add(found(part, depth + 1));
                }
            }
            return takeOperand();
        }

        /** Only what an operator joins is looked at for its size, not its own type. */
        private Type operatorUse(long operator) {
            Name name = operator == ':' ? known.constructor(operator) : nameOf(operator);
            if (name == null) {
                throw new UnsupportedOperationException();
            }
            return name.general ? unifier.copy(name.type) : name.type;
        }

        private Type takeOperand() {
            if (operands.isEmpty()) {
                throw new IllegalStateException();
            }
            return operands.remove(operands.size() - 1);
        }

        private Type pair(Node node, int depth) {
            Type left = found(node.first, depth + 1);
            Type right = found(node.last, depth + 1);
            return new Type(Type.PAIR, null, left, right);
        }

        private Type function(Node node, int depth) {
            int outer = scope.size();
            Type argument = addWord(node.value);
            Type result = found(node.first, depth + 1);
            leave(outer);
            return Unifier.function(argument, result);
        }

        private Type let(Node node, int depth) {
            int outer = scope.size();
            scope.add(defined(node.first, depth + 1));
            Type type = found(node.last, depth + 1);
            leave(outer);
            return type;
        }

        private Type choice(Node node, int depth) {
            unifier.unify(found(node.first, depth + 1), known.truth);
            Type chosen = found(node.first.next, depth + 1);
            unifier.unify(chosen, found(node.last, depth + 1));
            return chosen;
        }

        private Type cases(Node node, int depth) {
            Type subject = found(node.first, depth + 1);
            Type type = null;
            for (Node part = node.first.next; part != null; part = part.next) {
                int outer = scope.size();
                Node pattern = part.first;
                boolean built = pattern.kind == Node.CONSTRUCTOR;
                unifier.unify(built ? constructorPattern(pattern) : plainPattern(pattern), subject);
                Type answer = found(part.last, depth + 1);
                leave(outer);
                if (type == null) {
                    type = answer;
                } else {
                    unifier.unify(type, answer);
                }
            }
            judge(node);
            return type == null ? subject : type;
        }

        private Type plainPattern(Node pattern) {
            if (pattern.kind == Node.NUMBER) {
                return known.integer;
            }
            if (pattern.kind == Node.PAIR) {
                Type left = addWord(pattern.first.value);
                Type right = addWord(pattern.last.value);
                return new Type(Type.PAIR, null, left, right);
            }
            return addWord(pattern.value);
        }

        /** The names simply have the types of the constructor: nothing else is known of them yet. */
        private Type constructorPattern(Node pattern) {
            Name constructor = known.constructor(pattern.value);
            if (constructor == null) {
                throw new UnsupportedOperationException();
            }
            Type type = unifier.copy(constructor.type);
            for (Node part = pattern.first; part != null; part = part.next) {
                if (type.kind != Type.FUNCTION) {
                    throw new UnsupportedOperationException();
                }
                scope.add(new Name(part.value, type.left, false));
                type = type.right;
            }
            if (type.kind != Type.DATA) {
                throw new UnsupportedOperationException();
            }
            return type;
        }

        private static boolean isValue(Node node, int depth) {
            if (depth > DEEPEST_PART) {
                throw new IllegalStateException();
            }
            switch (node.kind) {
                case Node.NUMBER:
                case Node.WORD:
                case Node.CONSTRUCTOR:
                case Node.FN:
                    return true;
                case Node.PAIR:
                    return partsAreValues(node, depth);
                case Node.APPLICATION:
                    return buildsData(node.first) && partsAreValues(node, depth);
                default:
                    return false;
            }
        }

        private static boolean partsAreValues(Node node, int depth) {
            for (Node part = node.first; part != null; part = part.next) {
                if (!isValue(part, depth + 1)) {
                    return false;
                }
            }
            return true;
        }

        /** An application in front is asked by isValue in its turn whether it builds data. */
        private static boolean buildsData(Node head) {
            return head.kind == Node.CONSTRUCTOR || head.kind == Node.APPLICATION;
        }

        private void judge(Node cases) {
            boolean all = false;
            boolean numbers = false;
            int missing = NONE;
            for (Node part = cases.first.next; part != null; part = part.next) {
                Node pattern = part.first;
                if (all || missing == 0 || stoodBefore(cases, part)) {
                    idleAlternatives++;
                } else if (pattern.kind == Node.CONSTRUCTOR) {
                    missing = (missing == NONE ? constructorsBeside(pattern.value) : missing) - 1;
                }
                numbers = numbers || pattern.kind == Node.NUMBER;
                all = all || pattern.kind == Node.NAME || pattern.kind == Node.PAIR;
            }
            if (!all && (numbers || missing > 0)) {
                openCases++;
            }
        }

        private static boolean stoodBefore(Node cases, Node alternative) {
            Node pattern = alternative.first;
            for (Node part = cases.first.next; part != alternative && part != null; part = part.next) {
                if (part.first.kind == pattern.kind && part.first.value == pattern.value) {
                    return true;
                }
            }
            return false;
        }

        /** How many constructors the type of this one has. */
        private int constructorsBeside(long word) {
            Name constructor = known.constructor(word);
            Type type = constructor == null ? known.truth : constructor.type;
            for (int i = 0; i < Unifier.MOST_STEPS && type.kind == Type.FUNCTION; i++) {
                type = type.right;
            }
            return type.data == null ? 0 : type.data.constructors.size();
        }
    }

    /** Writes types as texts. */
    private static final class Writer {
        private static final int DEEPEST_TYPE = 60;

        private final StringBuilder text = new StringBuilder();
        private final ArrayList<Type> variables = new ArrayList<>();

        Writer() {
        }

        int write(Type type) {
            text.setLength(0);
            variables.clear();
            put(type, 0);
            return text.length();
        }

        int characterAt(int i) {
            return i < 0 || i >= text.length() ? NONE : text.charAt(i);
        }

        private void put(Type type, int depth) {
            if (depth > DEEPEST_TYPE) {
                return;
            }
            Type end = type.end();
            switch (end.kind) {
                case Type.INTEGER:
                    text.append("int");
                    break;
                case Type.FUNCTION:
                    putBracketed(end.left, end.left.end().kind == Type.FUNCTION, depth + 1);
                    text.append(" -> ");
                    put(end.right, depth + 1);
                    break;
                case Type.PAIR:
                    text.append('(');
                    put(end.left, depth + 1);
                    text.append(", ");
                    put(end.right, depth + 1);
                    text.append(')');
                    break;
                case Type.DATA:
                    putWord(end.data.word);
                    putParameter(end.left, depth + 1);
                    putParameter(end.right, depth + 1);
                    break;
                default:
                    putVariable(end);
            }
        }

        private void putBracketed(Type type, boolean brackets, int depth) {
            if (brackets) {
                text.append('(');
            }
            put(type, depth);
            if (brackets) {
                text.append(')');
            }
        }

        private void putParameter(Type type, int depth) {
            if (type != null) {
                Type end = type.end();
                text.append(' ');
                putBracketed(end, end.kind == Type.FUNCTION || end.kind == Type.DATA && end.left != null, depth);
            }
        }

        private void putWord(long word) {
            for (int shift = 56; shift >= 0; shift -= 8) {
                char c = (char) (word >>> shift & 255);
                if (c != 0) {
                    text.append(c);
                }
            }
        }

        private void putVariable(Type variable) {
            int number = 0;
            while (number < variables.size() && variables.get(number) != variable) {
                number++;
            }
            if (number == variables.size()) {
                variables.add(variable);
            }
            if (variable.comparable) {
                text.append('\'');
            }
            text.append((char) ('a' + number));
        }
    }
}

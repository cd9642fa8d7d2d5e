import java.util.Arrays;

/**
 * A language for what the nodes of a graph do in rounds, and the machine that runs it.
 * All rows are made in constructors and used again; a text is read once into code for a
 * small stack machine, so that a TURN needs neither recursion nor new objects.
 */
public final class VertexLanguage {
    public static final int BAD = -1, NONE = -2, FULL = -3, FAILED = -4;

    private static final int TEXT_ROOM = 4000;
    private static final int FED = 20;

    private final Text tape;
    private final Text text;
    private final Text printed;
    private final Tokens tokens;
    private final Names names;
    private final Code code;
    private final Statements statements;
    private final Graph graph;
    private final Rounds rounds;
    private boolean ready;

    public VertexLanguage() {
        tape = new Text(TEXT_ROOM);
        text = new Text(TEXT_ROOM);
        printed = new Text(TEXT_ROOM + Tokens.MOST);
        tokens = new Tokens(text);
        names = new Names(text);
        code = new Code();
        statements = new Statements(tokens, names, code);
        graph = new Graph();
        rounds = new Rounds(graph, names, code);
        ready = false;
    }

    public int feed(int a, int b, int c, int d, int e) {
        if (tape.size > TEXT_ROOM - FED) {
            return FULL;
        }
        tape.addNumber(a);
        tape.addNumber(b);
        tape.addNumber(c);
        tape.addNumber(d);
        tape.addNumber(e);
        return tape.size;
    }

    public int end(int n) {
        if (n < 0 || n > FED || tape.size < FED) {
            return BAD;
        }
        tape.cut(tape.size - FED + n);
        return tape.size;
    }

    public int program() {
        text.become(tape);
        tape.cut(0);
        rounds.close();
        tokens.open();
        statements.open();
        statements.tellAll();
        tokens.want(Tokens.START);
        code.markStart();
        statements.block(0);
        tokens.want(Tokens.ROUND);
        code.markRound();
        statements.block(0);
        code.markEnd();
        tokens.wantEnd();
        ready = tokens.faultNumber() == 0;
        if (!ready) {
            return -10 - tokens.faultNumber();
        }
        tokens.printTo(printed);
        return statements.made;
    }

    public int fault(int what) {
        if (what != 0 && what != 1) {
            return BAD;
        }
        if (tokens.faultNumber() == 0) {
            return NONE;
        }
        return what == 0 ? tokens.faultPlace() : text.lineOf(tokens.faultPlace());
    }

    public int print(int i) {
        if (!ready) {
            return BAD;
        }
        if (i == -1) {
            return printed.size;
        }
        return i >= 0 && i < printed.size ? printed.at(i) : BAD;
    }

    public int name() {
        if (!ready) {
            return BAD;
        }
        int found = names.find(tape, 0, tape.size);
        tape.cut(0);
        return found < 0 ? NONE : 100 * names.sortOf(found) + names.numberOf(found);
    }

    public int count(int what) {
        switch (what) {
            case Names.COLUMN:
            case Names.STATE:
            case Names.FOLD:
            case Names.GLOBAL:
                return ready ? names.amount(what) : 0;
            case 4:
                return ready ? statements.made : 0;
            case 5:
                return graph.nodeCount;
            case 6:
                return graph.arcCount;
            default:
                return BAD;
        }
    }

    public int nodes(int n) {
        if (n < 1 || n > Graph.MOST_NODES) {
            return BAD;
        }
        int before = graph.nodeCount;
        graph.become(n);
        rounds.close();
        return before;
    }

    public int arc(int from, int to) {
        if (!graph.hasNode(from) || !graph.hasNode(to)) {
            return BAD;
        }
        if (graph.arcCount >= Graph.MOST_ARCS) {
            return FULL;
        }
        rounds.close();
        return graph.join(from, to);
    }

    public int weight(int arc, int column, int v) {
        if (!graph.hasWeight(arc, column)) {
            return 0;
        }
        int before = graph.weightOf(arc, column);
        graph.weigh(arc, column, v);
        return before;
    }

    public int begin(int seed) {
        if (!ready) {
            return BAD;
        }
        rounds.open(seed);
        return 1;
    }

    public int run(int turns) {
        if (!rounds.there || turns < 1 || turns > 100) {
            return BAD;
        }
        int done = 0;
        while (done < turns && !rounds.isEnded()) {
            if (!rounds.doTurn()) {
                return FAILED;
            }
            done++;
        }
        return done;
    }

    public int undo() {
        if (!rounds.there) {
            return BAD;
        }
        return rounds.goBack() ? rounds.turn : NONE;
    }

    public int told(int what) {
        return rounds.there ? rounds.tell(what) : BAD;
    }

    public int state(int node, int k) {
        return rounds.holds(node, Names.STATE, k) ? rounds.now().stateOf(node, k) : 0;
    }

    public int message(int node, int fold) {
        return rounds.holds(node, Names.FOLD, fold) ? rounds.now().foldOf(node, fold) : 0;
    }

    public int messages(int node, int fold) {
        return rounds.holds(node, Names.FOLD, fold) ? rounds.now().arrivedOf(node, fold) : BAD;
    }

    public int global(int k) {
        return rounds.holds(0, Names.GLOBAL, k) ? rounds.now().globalOf(k) : 0;
    }

    public int halted(int node) {
        if (!rounds.there || !graph.hasNode(node)) {
            return BAD;
        }
        return rounds.now().hasHalted(node) ? 1 : 0;
    }

    private static int item(int[] row, int i) {
        return i >= 0 && i < row.length ? row[i] : 0;
    }

    private static void setItem(int[] row, int i, int v) {
        if (i >= 0 && i < row.length) {
            row[i] = v;
        }
    }

    /** Bytes behind one another, up to a room that is set when it is made. */
    private static final class Text {
        private final byte[] bytes;
        int size;

        Text(int room) {
            bytes = new byte[Math.max(room, 0)];
            size = 0;
        }

        void add(int b) {
            if (size >= 0 && size < bytes.length) {
                bytes[size] = (byte) b;
                size++;
            }
        }

        void addNumber(int v) {
            add(v >> 24);
            add(v >> 16);
            add(v >> 8);
            add(v);
        }

        int at(int i) {
            return i >= 0 && i < size && i < bytes.length ? bytes[i] & 255 : -1;
        }

        void cut(int n) {
            if (n >= 0 && n < size) {
                size = n;
            }
        }

        void become(Text other) {
            size = 0;
            addPart(other, 0, other.size);
        }

        void addPart(Text other, int from, int length) {
            for (int i = 0; i < length; i++) {
                add(other.at(from + i));
            }
        }

        boolean hasPart(int from, Text other, int otherFrom, int length) {
            if (from < 0 || otherFrom < 0 || length < 0) {
                return false;
            }
            if (from > bytes.length - length || otherFrom > other.bytes.length - length) {
                return false;
            }
            for (int i = 0; i < length; i++) {
                if (bytes[from + i] != other.bytes[otherFrom + i]) {
                    return false;
                }
            }
            return true;
        }

        int lineOf(int place) {
            int line = 1;
            for (int i = 0; i < place && i < size; i++) {
                if (at(i) == 10) {
                    line++;
                }
            }
            return line;
        }
    }

    /** The TOKENS of a text, the one that reading is at, the FAULT so far, and which ( ) are not printed. */
    private static final class Tokens {
        static final int MOST = 1000;
        static final int STOPPED = -1, END = 0, NAME = 1, NUMBER = 2, NO_TOKEN = 3;

        private static final int FIRST_WORD = 10;
        private static final String WORDS = "column node int bool true false fold global sum least most first all some start round let send along against give if else loop halt arc has id turn nodes degree indegree draw";
        static final int COLUMN = 10, NODE = 11, INT = 12, BOOL = 13, TRUE = 14, FALSE = 15, FOLD = 16, GLOBAL = 17;
        static final int SUM = 18, ALL = 22, SOME = 23;
        static final int START = 24, ROUND = 25, LET = 26, SEND = 27, ALONG = 28, AGAINST = 29, GIVE = 30, IF = 31;
        static final int ELSE = 32, LOOP = 33, HALT = 34, ARC = 35, HAS = 36, ID = 37, TURN = 38, NODES = 39;
        static final int DEGREE = 40, INDEGREE = 41, DRAW = 42;

        private static final int FIRST_SIGN = 50;
        private static final String SIGNS = "; { } ( ) , . : = == != < <= > >= + - * / % && || !";
        static final int SEMICOLON = 50, LEFT_BRACE = 51, RIGHT_BRACE = 52, LEFT = 53, RIGHT = 54, COMMA = 55;
        static final int DOT = 56, COLON = 57, BECOMES = 58, EQUAL = 59, UNEQUAL = 60, LESS = 61, AT_MOST = 62;
        static final int GREATER = 63, AT_LEAST = 64, PLUS = 65, MINUS = 66, TIMES = 67, OVER = 68, REST = 69;
        static final int AND = 70, OR = 71, NOT = 72;

        static final int WRONG = 1, TOO_MANY = 2, AGAIN = 3, UNKNOWN = 4, OTHER_KIND = 5;

        private static final int LONGEST_NAME = 12;
        private static final long GREATEST = 2147483647L;

        final Text text;
        private final int[] codes = new int[MOST + 2];
        private final int[] places = new int[MOST + 2];
        private final int[] lengths = new int[MOST + 2];
        private final int[] values = new int[MOST + 2];
        private final int[] dropped = new int[MOST + 2];
        private int size;
        private int refused;
        private int marked;
        private int markedPlace;
        int at;
        int code;
        int place;
        int length;
        int value;

        Tokens(Text read) {
            text = read;
        }

        void open() {
            size = 0;
            refused = 0;
            marked = 0;
            markedPlace = 0;
            Arrays.fill(dropped, 0);
            scan();
            at = -1;
            take();
        }

        /** One more than the limit is read, since the TOKEN beyond it is where the FAULT stands. */
        private void scan() {
            int from = 0;
            int last = NAME;
            for (int i = 0; i <= MOST && last != END && last != NO_TOKEN; i++) {
                from = behindBlanks(from);
                last = scanOne(from);
                from += item(lengths, i);
            }
        }

        private int scanOne(int from) {
            int first = text.at(from);
            if (first < 0) {
                return add(END, text.size, 0, 0);
            }
            if (isLetter(first)) {
                return addWord(from, spanEnd(from, true) - from);
            }
            if (isDigit(first)) {
                return addNumber(from, spanEnd(from, false) - from);
            }
            return addSign(from);
        }

        private int add(int sort, int from, int span, int number) {
            setItem(codes, size, sort);
            setItem(places, size, from);
            setItem(lengths, size, span);
            setItem(values, size, number);
            size++;
            return sort;
        }

        private int addWord(int from, int span) {
            if (span > LONGEST_NAME) {
                return add(NO_TOKEN, from, span, 0);
            }
            int word = listed(WORDS, from, span);
            return add(word < 0 ? NAME : FIRST_WORD + word, from, span, 0);
        }

        private int addNumber(int from, int span) {
            long number = 0;
            for (int i = 0; i < span; i++) {
                number = Math.min(number * 10 + text.at(from + i) - '0', GREATEST + 1);
            }
            if (number > GREATEST) {
                return add(NO_TOKEN, from, span, 0);
            }
            return add(NUMBER, from, span, (int) number);
        }

        private int addSign(int from) {
            int longSign = listed(SIGNS, from, 2);
            if (longSign >= 0) {
                return add(FIRST_SIGN + longSign, from, 2, 0);
            }
            int sign = listed(SIGNS, from, 1);
            return add(sign < 0 ? NO_TOKEN : FIRST_SIGN + sign, from, 1, 0);
        }

        private int behindBlanks(int from) {
            boolean passed = false;
            int here = from;
            while (here < text.size) {
                int b = text.at(here);
                if (b == 10) {
                    passed = false;
                } else if (b == '#') {
                    passed = true;
                } else if (b != 32 && !passed) {
                    return here;
                }
                here++;
            }
            return here;
        }

        private int spanEnd(int from, boolean letters) {
            int here = from;
            while (here < text.size && (isDigit(text.at(here)) || letters && isLetter(text.at(here)))) {
                here++;
            }
            return here;
        }

        /** Which word of a list, whose words blanks part, stands in the text with just that length; - 1: none. */
        private int listed(String list, int from, int span) {
            int word = 0;
            int begins = 0;
            for (int i = 0; i <= list.length(); i++) {
                if (i < list.length() && list.charAt(i) != ' ') {
                    continue;
                }
                if (i - begins == span && spells(list, begins, from, span)) {
                    return word;
                }
                word++;
                begins = i + 1;
            }
            return -1;
        }

        private boolean spells(String list, int begins, int from, int span) {
            for (int i = 0; i < span; i++) {
                if (begins + i >= list.length() || list.charAt(begins + i) != text.at(from + i)) {
                    return false;
                }
            }
            return true;
        }

        private static boolean isLetter(int b) {
            return b >= 'a' && b <= 'z' || b >= 'A' && b <= 'Z';
        }

        private static boolean isDigit(int b) {
            return b >= '0' && b <= '9';
        }

        boolean is(int wanted) {
            return code == wanted;
        }

        boolean isWithin(int lowest, int highest) {
            return code >= lowest && code <= highest;
        }

        void take() {
            if (at >= MOST) {
                refuse(TOO_MANY);
            }
            if (refused != 0) {
                return;
            }
            at++;
            code = item(codes, at);
            place = item(places, at);
            length = item(lengths, at);
            value = item(values, at);
        }

        void want(int wanted) {
            if (code == wanted) {
                take();
            } else {
                refuse(WRONG);
            }
        }

        void wantEnd() {
            if (code != END) {
                refuse(WRONG);
            }
        }

        /** A FAULT that ends the reading: from here on no TOKEN is what anybody waits for. */
        void refuse(int number) {
            if (refused == 0) {
                refused = number;
                code = STOPPED;
            }
        }

        /** A FAULT behind which reading goes on, for one of 1, 2 may still come, or one at a lesser place. */
        void mark(int number, int where) {
            if (marked == 0 || where < markedPlace || where == markedPlace && number < marked) {
                marked = number;
                markedPlace = where;
            }
        }

        int faultNumber() {
            return refused != 0 ? refused : marked;
        }

        /** Where reading was ended it has not gone on: the TOKEN it is at is the faulty one. */
        int faultPlace() {
            return refused != 0 ? place : markedPlace;
        }

        void drop(int token) {
            setItem(dropped, token, 1);
        }

        void keep(int token) {
            setItem(dropped, token, 0);
        }

        void printTo(Text out) {
            out.cut(0);
            for (int i = 0; i < size && item(codes, i) != END; i++) {
                if (item(dropped, i) == 1) {
                    continue;
                }
                if (out.size > 0) {
                    out.add(' ');
                }
                out.addPart(text, item(places, i), item(lengths, i));
            }
        }
    }

    /** The NAMES that can be seen: each with its sort, its number among that sort, its kind and one detail. */
    private static final class Names {
        static final int COLUMN = 0, STATE = 1, FOLD = 2, GLOBAL = 3, LET = 4;
        static final int ANY = 0, INT = 1, BOOL = 2;
        static final int STRIDE = 8;

        private static final int[] LIMITS = {4, 8, 4, 4, 8};
        private static final int ROOM = 28;

        private final Text text;
        private final int[] places = new int[ROOM];
        private final int[] lengths = new int[ROOM];
        private final int[] sorts = new int[ROOM];
        private final int[] numbers = new int[ROOM];
        private final int[] kinds = new int[ROOM];
        private final int[] amounts = new int[LIMITS.length];
        private final int[] details = new int[LIMITS.length * STRIDE];
        int size;

        Names(Text read) {
            text = read;
        }

        void clear() {
            size = 0;
            Arrays.fill(amounts, 0);
        }

        int find(Text other, int place, int length) {
            for (int i = 0; i < size; i++) {
                if (item(lengths, i) == length && text.hasPart(item(places, i), other, place, length)) {
                    return i;
                }
            }
            return -1;
        }

        boolean isFull(int sort) {
            return amount(sort) >= item(LIMITS, sort);
        }

        void add(int place, int length, int sort, int kind, int detail) {
            if (isFull(sort) || size >= ROOM) {
                return;
            }
            int number = amount(sort);
            setItem(places, size, place);
            setItem(lengths, size, length);
            setItem(sorts, size, sort);
            setItem(numbers, size, number);
            setItem(kinds, size, kind);
            setItem(details, sort * STRIDE + number, detail);
            setItem(amounts, sort, number + 1);
            size++;
        }

        void forgetDownTo(int kept) {
            while (size > kept && size > 0) {
                size--;
                int sort = sortOf(size);
                setItem(amounts, sort, amount(sort) - 1);
            }
        }

        int amount(int sort) {
            return item(amounts, sort);
        }

        int sortOf(int found) {
            return item(sorts, found);
        }

        int numberOf(int found) {
            return item(numbers, found);
        }

        int kindOf(int found) {
            return item(kinds, found);
        }

        /** Of a state what it is at first, of a fold or a global its way. */
        int detail(int sort, int number) {
            return item(details, sort * STRIDE + number);
        }
    }

    /**
     * What the program does, in orders for a stack machine. Orders below FREE are one STEP each;
     * an operand or operator has the code of the TOKEN that stands for it.
     */
    private static final class Code {
        static final int NEGATE = 90, BEGIN = 91;
        static final int FREE = 100;
        static final int JUMP = 100, BRANCH = 101, KEEP_STATE = 102, KEEP_LET = 103, LOOP = 104, REPEAT = 105;
        static final int ARCS = 106, NEXT_ARC = 107, PUT = 108, GIVE = 109, HALT = 110, DONE = 111;

        private static final int ROOM = 1400;

        private final int[] orders = new int[ROOM];
        private final int[] firsts = new int[ROOM];
        private final int[] seconds = new int[ROOM];
        final int[] owners = new int[ROOM];
        private int owner;
        int size;
        int startEntry;
        int roundEntry;

        void clear() {
            size = 0;
            owner = 0;
            startEntry = 0;
            roundEntry = 0;
        }

        void markStart() {
            startEntry = size;
        }

        void markRound() {
            add(DONE, 0, 0);
            roundEntry = size;
        }

        void markEnd() {
            add(DONE, 0, 0);
        }

        /** The place of the statement whose orders come next: a FAILURE by too many STEPS is told there. */
        void belongTo(int place) {
            owner = place;
        }

        int add(int order, int first, int second) {
            int at = size;
            if (at < ROOM) {
                setItem(orders, at, order);
                setItem(firsts, at, first);
                setItem(seconds, at, second);
                setItem(owners, at, owner);
                size++;
            }
            return at;
        }

        void setFirst(int at, int first) {
            setItem(firsts, at, first);
        }

        void setSecond(int at, int second) {
            setItem(seconds, at, second);
        }

        int order(int at) {
            return at >= 0 && at < size ? item(orders, at) : DONE;
        }

        int first(int at) {
            return item(firsts, at);
        }

        int second(int at) {
            return item(seconds, at);
        }
    }

    /** A part of an exp that has been read: its kind, its line of the grammar, where it begins, the ( ) around it. */
    private static final class Part {
        final int kind;
        final int level;
        final int place;
        int opens;
        int closes;

        Part(int itsKind, int itsLevel, int itsPlace) {
            kind = itsKind;
            level = itsLevel;
            place = itsPlace;
            opens = -1;
            closes = -1;
        }
    }

    /** Reads exps: judges their kinds, drops the ( ) that are not needed, and makes their orders. */
    private static final class Expressions {
        static final int DEEPEST = 12;

        static final int EITHER = 0;
        private static final int NO_LEVEL = -1, BOTH = 1, TEST = 2, SUM = 3, TERM = 4, ONE = 5;
        private static final int[] OPERANDS = {Tokens.COLUMN, Tokens.NODE, Tokens.FOLD, Tokens.GLOBAL, Tokens.LET};

        private final Tokens tokens;
        private final Names names;
        private final Code code;
        private boolean sending;

        Expressions(Tokens itsTokens, Names itsNames, Code itsCode) {
            tokens = itsTokens;
            names = itsNames;
            code = itsCode;
        }

        /** Columns can be read in the exp of a send alone. */
        void setSending(boolean so) {
            sending = so;
        }

        /**
         * Reads an exp, or a part of one whose operators stand on a line of the grammar no lower than this.
         * Behind an operator none of a higher line can follow, and behind one of comparing none of its own.
         */
        Part operation(int lowest, int depth) {
            Part left = one(depth);
            int highest = TERM;
            for (int i = 0; i <= Tokens.MOST; i++) {
                int level = levelOf(tokens.code);
                if (level < lowest || level > highest) {
                    break;
                }
                left = joined(left, level, depth);
                highest = level == TEST ? BOTH : level;
            }
            return left;
        }

        private Part joined(Part left, int level, int depth) {
            int operator = tokens.code;
            int place = tokens.place;
            int kind = operandKind(operator, level, left.kind);
            wantKind(left, kind);
            protect(left, level == TEST ? SUM : level);
            tokens.take();
            int early = level <= BOTH ? code.add(operator, 0, 0) : -1;
            Part right = operation(level + 1, depth);
            wantKind(right, kind);
            protect(right, level + 1);
            if (early >= 0) {
                code.setFirst(early, code.size);
            } else {
                code.add(operator, place, 0);
            }
            return new Part(level <= TEST ? Names.BOOL : Names.INT, level, left.place);
        }

        private static int operandKind(int operator, int level, int leftKind) {
            if (operator == Tokens.EQUAL || operator == Tokens.UNEQUAL) {
                return leftKind;
            }
            return level <= BOTH ? Names.BOOL : Names.INT;
        }

        private static int levelOf(int sign) {
            switch (sign) {
                case Tokens.OR:
                    return EITHER;
                case Tokens.AND:
                    return BOTH;
                case Tokens.EQUAL:
                case Tokens.UNEQUAL:
                case Tokens.LESS:
                case Tokens.AT_MOST:
                case Tokens.GREATER:
                case Tokens.AT_LEAST:
                    return TEST;
                case Tokens.PLUS:
                case Tokens.MINUS:
                    return SUM;
                case Tokens.TIMES:
                case Tokens.OVER:
                case Tokens.REST:
                    return TERM;
                default:
                    return NO_LEVEL;
            }
        }

        private Part one(int depth) {
            if (depth > DEEPEST && canBegin()) {
                tokens.refuse(Tokens.TOO_MANY);
            }
            int place = tokens.place;
            if (tokens.is(Tokens.MINUS)) {
                signed(depth, Names.INT, Code.NEGATE);
                return new Part(Names.INT, ONE, place);
            }
            if (tokens.is(Tokens.NOT)) {
                signed(depth, Names.BOOL, Tokens.NOT);
                return new Part(Names.BOOL, ONE, place);
            }
            return base(depth);
        }

        private void signed(int depth, int kind, int order) {
            tokens.take();
            Part inner = one(depth + 1);
            wantKind(inner, kind);
            protect(inner, ONE);
            code.add(order, 0, 0);
        }

        private boolean canBegin() {
            return tokens.isWithin(Tokens.ARC, Tokens.DRAW) || tokens.isWithin(Tokens.NAME, Tokens.NUMBER)
                || tokens.isWithin(Tokens.TRUE, Tokens.FALSE) || tokens.is(Tokens.IF) || tokens.is(Tokens.LEFT)
                || tokens.is(Tokens.MINUS) || tokens.is(Tokens.NOT);
        }

        private Part base(int depth) {
            switch (tokens.code) {
                case Tokens.NUMBER:
                case Tokens.ID:
                case Tokens.TURN:
                case Tokens.NODES:
                case Tokens.DEGREE:
                case Tokens.INDEGREE:
                    return plain(tokens.code, tokens.value, Names.INT);
                case Tokens.TRUE:
                    return plain(Tokens.NUMBER, 1, Names.BOOL);
                case Tokens.FALSE:
                    return plain(Tokens.NUMBER, 0, Names.BOOL);
                case Tokens.NAME:
                    return named();
                case Tokens.ARC:
                    return columnOfArc();
                case Tokens.HAS:
                    return presence();
                case Tokens.DRAW:
                    return drawing(depth);
                case Tokens.IF:
                    return choice(depth);
                case Tokens.LEFT:
                    return group(depth);
                default:
                    tokens.refuse(Tokens.WRONG);
                    return new Part(Names.ANY, ONE, tokens.place);
            }
        }

        private Part plain(int order, int first, int kind) {
            int place = tokens.place;
            code.add(order, first, 0);
            tokens.take();
            return new Part(kind, ONE, place);
        }

        private Part named() {
            int place = tokens.place;
            int found = names.find(tokens.text, place, tokens.length);
            int sort = names.sortOf(found);
            int kind = names.kindOf(found);
            if (found < 0 || sort == Names.COLUMN) {
                tokens.mark(Tokens.UNKNOWN, place);
                kind = Names.ANY;
            }
            code.add(item(OPERANDS, sort), names.numberOf(found), 0);
            tokens.take();
            return new Part(kind, ONE, place);
        }

        private Part columnOfArc() {
            int place = tokens.place;
            tokens.take();
            tokens.want(Tokens.DOT);
            int found = takeNamed(Names.COLUMN, sending);
            code.add(Tokens.COLUMN, names.numberOf(found), 0);
            return new Part(found < 0 ? Names.ANY : Names.INT, ONE, place);
        }

        private Part presence() {
            int place = tokens.place;
            tokens.take();
            int found = takeNamed(Names.FOLD, true);
            code.add(Tokens.HAS, names.numberOf(found), 0);
            return new Part(found < 0 ? Names.ANY : Names.BOOL, ONE, place);
        }

        /** Takes a NAME that has to be of a sort: which it is among the NAMES, or - 1. */
        int takeNamed(int sort, boolean allowed) {
            if (!tokens.is(Tokens.NAME)) {
                tokens.refuse(Tokens.WRONG);
                return -1;
            }
            int found = names.find(tokens.text, tokens.place, tokens.length);
            if (found >= 0 && (names.sortOf(found) != sort || !allowed)) {
                found = -1;
            }
            if (found < 0) {
                tokens.mark(Tokens.UNKNOWN, tokens.place);
            }
            tokens.take();
            return found;
        }

        private Part drawing(int depth) {
            int place = tokens.place;
            tokens.take();
            tokens.want(Tokens.LEFT);
            wantKind(operation(EITHER, depth + 1), Names.INT);
            tokens.want(Tokens.RIGHT);
            code.add(Tokens.DRAW, place, 0);
            return new Part(Names.INT, ONE, place);
        }

        private Part choice(int depth) {
            int place = tokens.place;
            tokens.take();
            tokens.want(Tokens.LEFT);
            wantKind(operation(EITHER, depth + 1), Names.BOOL);
            tokens.want(Tokens.COMMA);
            int toThird = code.add(Tokens.IF, 0, 0);
            Part second = operation(EITHER, depth + 1);
            tokens.want(Tokens.COMMA);
            int toEnd = code.add(Code.JUMP, 0, 0);
            code.setFirst(toThird, code.size);
            Part third = operation(EITHER, depth + 1);
            wantKind(third, second.kind);
            tokens.want(Tokens.RIGHT);
            code.setFirst(toEnd, code.size);
            return new Part(second.kind == Names.ANY ? third.kind : second.kind, ONE, place);
        }

        private Part group(int depth) {
            int opens = tokens.at;
            int place = tokens.place;
            tokens.take();
            Part inner = operation(EITHER, depth + 1);
            int closes = tokens.at;
            tokens.want(Tokens.RIGHT);
            tokens.drop(opens);
            tokens.drop(closes);
            Part whole = new Part(inner.kind, inner.level, place);
            whole.opens = opens;
            whole.closes = closes;
            return whole;
        }

        void wantKind(Part part, int kind) {
            if (kind != Names.ANY && part.kind != Names.ANY && part.kind != kind) {
                tokens.mark(Tokens.OTHER_KIND, part.place);
            }
        }

        /** Without its ( ) a part of a lower line would be read another way: they are printed again. */
        private void protect(Part part, int lowest) {
            if (part.level < lowest) {
                tokens.keep(part.opens);
                tokens.keep(part.closes);
            }
        }
    }

    /** Reads a whole program: what is told ahead, the blocks and their statements. */
    private static final class Statements {
        private static final int MOST = 120;
        private static final int MOST_REPEATS = 100;

        private final Tokens tokens;
        private final Names names;
        private final Code code;
        private final Expressions expressions;
        int made;

        Statements(Tokens itsTokens, Names itsNames, Code itsCode) {
            tokens = itsTokens;
            names = itsNames;
            code = itsCode;
            expressions = new Expressions(itsTokens, itsNames, itsCode);
        }

        void open() {
            made = 0;
            names.clear();
            code.clear();
        }

        void tellAll() {
            int told = 0;
            while (told <= Tokens.MOST && tellOne()) {
                told++;
            }
        }

        private boolean tellOne() {
            switch (tokens.code) {
                case Tokens.COLUMN:
                    tellColumn();
                    return true;
                case Tokens.NODE:
                    tellState();
                    return true;
                case Tokens.FOLD:
                    tellFolded(Names.FOLD);
                    return true;
                case Tokens.GLOBAL:
                    tellFolded(Names.GLOBAL);
                    return true;
                default:
                    return false;
            }
        }

        private void takeNewName(int sort) {
            if (!tokens.is(Tokens.NAME)) {
                tokens.refuse(Tokens.WRONG);
                return;
            }
            if (names.isFull(sort)) {
                tokens.refuse(Tokens.TOO_MANY);
                return;
            }
            if (names.find(tokens.text, tokens.place, tokens.length) >= 0) {
                tokens.mark(Tokens.AGAIN, tokens.place);
            }
            tokens.take();
        }

        private void tellColumn() {
            tokens.take();
            int place = tokens.place;
            int length = tokens.length;
            takeNewName(Names.COLUMN);
            tokens.want(Tokens.SEMICOLON);
            names.add(place, length, Names.COLUMN, Names.INT, 0);
        }

        private void tellState() {
            tokens.take();
            int place = tokens.place;
            int length = tokens.length;
            takeNewName(Names.STATE);
            tokens.want(Tokens.COLON);
            boolean isBool = tokens.is(Tokens.BOOL);
            tokens.want(isBool ? Tokens.BOOL : Tokens.INT);
            tokens.want(Tokens.BECOMES);
            int first = isBool ? takeTruth() : takeInt();
            tokens.want(Tokens.SEMICOLON);
            names.add(place, length, Names.STATE, isBool ? Names.BOOL : Names.INT, first);
        }

        private int takeTruth() {
            boolean truth = tokens.is(Tokens.TRUE);
            tokens.want(truth ? Tokens.TRUE : Tokens.FALSE);
            return truth ? 1 : 0;
        }

        private int takeInt() {
            boolean negative = tokens.is(Tokens.MINUS);
            if (negative) {
                tokens.take();
            }
            int value = tokens.value;
            tokens.want(Tokens.NUMBER);
            return negative ? -value : value;
        }

        private void tellFolded(int sort) {
            tokens.take();
            int place = tokens.place;
            int length = tokens.length;
            takeNewName(sort);
            tokens.want(Tokens.COLON);
            int way = tokens.code;
            if (!tokens.isWithin(Tokens.SUM, Tokens.SOME)) {
                tokens.refuse(Tokens.WRONG);
            }
            tokens.take();
            tokens.want(Tokens.SEMICOLON);
            names.add(place, length, sort, way >= Tokens.ALL ? Names.BOOL : Names.INT, way - Tokens.SUM);
        }

        void block(int depth) {
            if (tokens.is(Tokens.LEFT_BRACE) && depth > Expressions.DEEPEST) {
                tokens.refuse(Tokens.TOO_MANY);
            }
            tokens.want(Tokens.LEFT_BRACE);
            int outside = names.size;
            for (int i = 0; i <= Tokens.MOST && canBegin(); i++) {
                statement(depth + 1);
            }
            names.forgetDownTo(outside);
            tokens.want(Tokens.RIGHT_BRACE);
        }

        private boolean canBegin() {
            switch (tokens.code) {
                case Tokens.NAME:
                case Tokens.LET:
                case Tokens.SEND:
                case Tokens.GIVE:
                case Tokens.IF:
                case Tokens.LOOP:
                case Tokens.HALT:
                    return true;
                default:
                    return false;
            }
        }

        private void statement(int depth) {
            if (made >= MOST) {
                tokens.refuse(Tokens.TOO_MANY);
                return;
            }
            made++;
            code.belongTo(tokens.place);
            code.add(Code.BEGIN, 0, 0);
            switch (tokens.code) {
                case Tokens.NAME:
                    change(depth);
                    break;
                case Tokens.LET:
                    let(depth);
                    break;
                case Tokens.SEND:
                    send(depth);
                    break;
                case Tokens.GIVE:
                    give(depth);
                    break;
                case Tokens.IF:
                    branch(depth);
                    break;
                case Tokens.LOOP:
                    loop(depth);
                    break;
                default:
                    tokens.take();
                    tokens.want(Tokens.SEMICOLON);
                    code.add(Code.HALT, 0, 0);
                    break;
            }
        }

        private void change(int depth) {
            int found = names.find(tokens.text, tokens.place, tokens.length);
            int sort = found < 0 ? -1 : names.sortOf(found);
            boolean right = sort == Names.STATE || sort == Names.LET;
            if (!right) {
                tokens.mark(Tokens.UNKNOWN, tokens.place);
            }
            tokens.take();
            tokens.want(Tokens.BECOMES);
            Part part = expressions.operation(Expressions.EITHER, depth);
            expressions.wantKind(part, right ? names.kindOf(found) : Names.ANY);
            tokens.want(Tokens.SEMICOLON);
            code.add(sort == Names.LET ? Code.KEEP_LET : Code.KEEP_STATE, names.numberOf(found), 0);
        }

        private void let(int depth) {
            tokens.take();
            int place = tokens.place;
            int length = tokens.length;
            takeNewName(Names.LET);
            tokens.want(Tokens.BECOMES);
            Part part = expressions.operation(Expressions.EITHER, depth);
            tokens.want(Tokens.SEMICOLON);
            code.add(Code.KEEP_LET, names.amount(Names.LET), 0);
            names.add(place, length, Names.LET, part.kind, 0);
        }

        private void send(int depth) {
            tokens.take();
            int found = expressions.takeNamed(Names.FOLD, true);
            int arcs = code.add(Code.ARCS, Graph.ALONG, 0);
            int next = code.add(Code.NEXT_ARC, 0, 0);
            expressions.setSending(true);
            Part part = expressions.operation(Expressions.EITHER, depth);
            expressions.setSending(false);
            expressions.wantKind(part, found < 0 ? Names.ANY : names.kindOf(found));
            boolean against = tokens.is(Tokens.AGAINST);
            tokens.want(against ? Tokens.AGAINST : Tokens.ALONG);
            tokens.want(Tokens.SEMICOLON);
            code.setFirst(arcs, against ? Graph.AGAINST : Graph.ALONG);
            code.add(Code.PUT, names.numberOf(found), 0);
            code.add(Code.JUMP, next, 0);
            code.setFirst(next, code.size);
        }

        private void give(int depth) {
            tokens.take();
            int found = expressions.takeNamed(Names.GLOBAL, true);
            Part part = expressions.operation(Expressions.EITHER, depth);
            expressions.wantKind(part, found < 0 ? Names.ANY : names.kindOf(found));
            tokens.want(Tokens.SEMICOLON);
            code.add(Code.GIVE, names.numberOf(found), 0);
        }

        private void branch(int depth) {
            tokens.take();
            Part part = expressions.operation(Expressions.EITHER, depth);
            expressions.wantKind(part, Names.BOOL);
            int toElse = code.add(Code.BRANCH, 0, 0);
            block(depth);
            if (!tokens.is(Tokens.ELSE)) {
                code.setFirst(toElse, code.size);
                return;
            }
            tokens.take();
            int toEnd = code.add(Code.JUMP, 0, 0);
            code.setFirst(toElse, code.size);
            block(depth);
            code.setFirst(toEnd, code.size);
        }

        /** A loop counts at the depth it stands at, since of two at one depth never both are under way. */
        private void loop(int depth) {
            tokens.take();
            int repeats = tokens.value;
            if (tokens.is(Tokens.NUMBER) && repeats > MOST_REPEATS) {
                tokens.refuse(Tokens.TOO_MANY);
            }
            tokens.want(Tokens.NUMBER);
            code.add(Code.LOOP, depth, repeats);
            int again = code.add(Code.REPEAT, depth, 0);
            block(depth);
            code.add(Code.JUMP, again, 0);
            code.setSecond(again, code.size);
        }
    }

    /** Nodes, arcs by number, and for each node the chains of the arcs from it and to it. */
    private static final class Graph {
        static final int MOST_NODES = 40, MOST_ARCS = 120, COLUMNS = 4;
        static final int ALONG = 0, AGAINST = 1;

        private final int[] ends = new int[2 * MOST_ARCS];
        private final int[] following = new int[2 * MOST_ARCS];
        private final int[] firsts = new int[2 * MOST_NODES];
        private final int[] lasts = new int[2 * MOST_NODES];
        private final int[] degrees = new int[2 * MOST_NODES];
        private final int[] weights = new int[COLUMNS * MOST_ARCS];
        int nodeCount;
        int arcCount;

        Graph() {
            become(1);
        }

        void become(int n) {
            nodeCount = n;
            arcCount = 0;
            Arrays.fill(firsts, -1);
            Arrays.fill(lasts, -1);
            Arrays.fill(degrees, 0);
            Arrays.fill(weights, 0);
        }

        boolean hasNode(int node) {
            return node >= 0 && node < nodeCount;
        }

        boolean hasWeight(int number, int column) {
            return number >= 0 && number < arcCount && column >= 0 && column < COLUMNS;
        }

        int join(int from, int to) {
            int number = arcCount;
            arcCount++;
            chain(ALONG, from, number);
            chain(AGAINST, to, number);
            return number;
        }

        private void chain(int direction, int node, int number) {
            int place = direction * MOST_NODES + node;
            int last = item(lasts, place);
            if (last < 0) {
                setItem(firsts, place, number);
            } else {
                setItem(following, direction * MOST_ARCS + last, number);
            }
            setItem(following, direction * MOST_ARCS + number, -1);
            setItem(lasts, place, number);
            setItem(degrees, place, item(degrees, place) + 1);
            setItem(ends, direction * MOST_ARCS + number, node);
        }

        int firstArc(int direction, int node) {
            return item(firsts, direction * MOST_NODES + node);
        }

        int arcBehind(int direction, int number) {
            return item(following, direction * MOST_ARCS + number);
        }

        int otherEnd(int direction, int number) {
            return item(ends, (1 - direction) * MOST_ARCS + number);
        }

        int degreeOf(int direction, int node) {
            return item(degrees, direction * MOST_NODES + node);
        }

        int weightOf(int number, int column) {
            return item(weights, number * COLUMNS + column);
        }

        void weigh(int number, int column, int v) {
            setItem(weights, number * COLUMNS + column, v);
        }
    }

    /** All that stands between two TURNS: states, who has halted, messages under way, what was given. */
    private static final class Moment {
        private static final int FOLDS = 4;
        private static final int SUM = 0, LEAST = 1, MOST = 2, FIRST = 3, ALL = 4;
        private static final int[] NEUTRAL = {0, 0x7FFFFFFF, 0x80000000, 0, 1, 0};

        private final Names names;
        private final int[] states = new int[Graph.MOST_NODES * Names.STRIDE];
        private final int[] resting = new int[Graph.MOST_NODES];
        private final int[] arrived = new int[Graph.MOST_NODES * FOLDS];
        private final int[] folded = new int[Graph.MOST_NODES * FOLDS];
        private final int[] given = new int[FOLDS];
        private final int[] globals = new int[FOLDS];
        int underWay;

        Moment(Names itsNames) {
            names = itsNames;
        }

        void becomeFirst(int nodeCount) {
            for (int k = 0; k < names.amount(Names.STATE); k++) {
                int first = names.detail(Names.STATE, k);
                for (int node = 0; node < nodeCount; node++) {
                    setState(node, k, first);
                }
            }
            Arrays.fill(resting, 0);
            clearFolds(nodeCount);
        }

        void follow(Moment before, int nodeCount) {
            System.arraycopy(before.states, 0, states, 0, states.length);
            System.arraycopy(before.resting, 0, resting, 0, resting.length);
            clearFolds(nodeCount);
        }

        private void clearFolds(int nodeCount) {
            underWay = 0;
            Arrays.fill(arrived, 0);
            Arrays.fill(given, 0);
            for (int fold = 0; fold < names.amount(Names.FOLD); fold++) {
                int nothing = item(NEUTRAL, names.detail(Names.FOLD, fold));
                for (int node = 0; node < nodeCount; node++) {
                    setItem(folded, node * FOLDS + fold, nothing);
                }
            }
            for (int k = 0; k < names.amount(Names.GLOBAL); k++) {
                setItem(globals, k, item(NEUTRAL, names.detail(Names.GLOBAL, k)));
            }
        }

        void put(int node, int fold, int v) {
            int place = node * FOLDS + fold;
            int there = item(arrived, place);
            setItem(folded, place, together(names.detail(Names.FOLD, fold), there, item(folded, place), v));
            setItem(arrived, place, there + 1);
            underWay++;
        }

        void give(int k, int v) {
            int there = item(given, k);
            setItem(globals, k, together(names.detail(Names.GLOBAL, k), there, item(globals, k), v));
            setItem(given, k, there + 1);
        }

        private static int together(int way, int there, int so, int v) {
            switch (way) {
                case SUM:
                    return so + v;
                case LEAST:
                    return Math.min(so, v);
                case MOST:
                    return Math.max(so, v);
                case FIRST:
                    return there == 0 ? v : so;
                case ALL:
                    return so & v;
                default:
                    return so | v;
            }
        }

        int stateOf(int node, int k) {
            return item(states, node * Names.STRIDE + k);
        }

        void setState(int node, int k, int v) {
            setItem(states, node * Names.STRIDE + k, v);
        }

        int foldOf(int node, int fold) {
            return item(folded, node * FOLDS + fold);
        }

        int arrivedOf(int node, int fold) {
            return item(arrived, node * FOLDS + fold);
        }

        int globalOf(int k) {
            return item(globals, k);
        }

        boolean hasHalted(int node) {
            return item(resting, node) == 1;
        }

        void setHalted(int node, boolean so) {
            setItem(resting, node, so ? 1 : 0);
        }

        boolean isWoken(int node) {
            for (int fold = 0; fold < FOLDS; fold++) {
                if (arrivedOf(node, fold) > 0) {
                    return true;
                }
            }
            return false;
        }

        int haltedAmong(int nodeCount) {
            int sum = 0;
            for (int node = 0; node < nodeCount; node++) {
                sum += item(resting, node);
            }
            return sum;
        }
    }

    /** Does what one node does in one TURN: reads the moment before it, writes the one behind it. */
    private static final class Worker {
        private static final int MOST_STEPS = 1000;
        private static final int MOST_ORDERS = 1000000;
        private static final int OUT = -1;
        private static final int MIX = 0x9E3779B1;

        private final Graph graph;
        private final Code code;
        private final int[] stack = new int[128];
        private final int[] lets = new int[8];
        private final int[] loops = new int[16];
        private int top;
        private int drawn;
        private int direction;
        private int number;
        private int node;
        private Moment before;
        private Moment after;
        private int seed;
        private int turn;
        int steps;
        int failure;
        int failedPlace;

        Worker(Graph itsGraph, Code itsCode, Moment some) {
            graph = itsGraph;
            code = itsCode;
            before = some;
            after = some;
        }

        void openTurn(Moment past, Moment coming, int itsSeed, int itsTurn) {
            before = past;
            after = coming;
            seed = itsSeed;
            turn = itsTurn;
            failure = 0;
            failedPlace = 0;
        }

        void work(int itsNode) {
            node = itsNode;
            top = 0;
            drawn = 0;
            number = -1;
            steps = 0;
            int at = turn == 0 ? code.startEntry : code.roundEntry;
            for (int i = 0; i < MOST_ORDERS && at >= 0; i++) {
                at = perform(at);
            }
        }

        private int perform(int at) {
            int order = code.order(at);
            if (order >= Code.FREE) {
                return control(order, at);
            }
            if (!step(at)) {
                return OUT;
            }
            if (order == Code.BEGIN) {
                return at + 1;
            }
            if (order >= Tokens.EQUAL && order <= Tokens.REST) {
                return combine(order, at);
            }
            if (order < Tokens.DRAW && order != Tokens.IF) {
                push(operand(order, code.first(at)));
                return at + 1;
            }
            return decide(order, at);
        }

        private boolean step(int at) {
            if (steps >= MOST_STEPS) {
                fail(3, item(code.owners, at));
                return false;
            }
            steps++;
            return true;
        }

        private int fail(int kind, int place) {
            failure = kind;
            failedPlace = place;
            return OUT;
        }

        private void push(int v) {
            setItem(stack, top, v);
            top++;
        }

        private int pop() {
            if (top > 0) {
                top--;
            }
            return item(stack, top);
        }

        private int control(int order, int at) {
            int first = code.first(at);
            switch (order) {
                case Code.JUMP:
                    return first;
                case Code.BRANCH:
                    return pop() == 0 ? first : at + 1;
                case Code.KEEP_STATE:
                    after.setState(node, first, pop());
                    return at + 1;
                case Code.KEEP_LET:
                    setItem(lets, first, pop());
                    return at + 1;
                case Code.LOOP:
                    setItem(loops, first, code.second(at));
                    return at + 1;
                case Code.REPEAT:
                    return repeat(first, at);
                case Code.ARCS:
                    direction = first;
                    number = -1;
                    return at + 1;
                case Code.NEXT_ARC:
                    return nextArc(first, at);
                case Code.PUT:
                    after.put(graph.otherEnd(direction, number), first, pop());
                    return at + 1;
                case Code.GIVE:
                    after.give(first, pop());
                    return at + 1;
                case Code.HALT:
                    after.setHalted(node, true);
                    return OUT;
                default:
                    return OUT;
            }
        }

        private int repeat(int slot, int at) {
            int left = item(loops, slot);
            if (left <= 0) {
                return code.second(at);
            }
            setItem(loops, slot, left - 1);
            return step(at) ? at + 1 : OUT;
        }

        private int nextArc(int end, int at) {
            number = number < 0 ? graph.firstArc(direction, node) : graph.arcBehind(direction, number);
            if (number < 0) {
                return end;
            }
            return step(at) ? at + 1 : OUT;
        }

        private int operand(int order, int first) {
            switch (order) {
                case Tokens.NUMBER:
                    return first;
                case Tokens.NODE:
                    return after.stateOf(node, first);
                case Tokens.LET:
                    return item(lets, first);
                case Tokens.FOLD:
                    return before.foldOf(node, first);
                case Tokens.GLOBAL:
                    return before.globalOf(first);
                case Tokens.COLUMN:
                    return graph.weightOf(number, first);
                case Tokens.HAS:
                    return before.arrivedOf(node, first) > 0 ? 1 : 0;
                case Tokens.ID:
                    return node;
                case Tokens.TURN:
                    return turn;
                case Tokens.NODES:
                    return graph.nodeCount;
                case Tokens.DEGREE:
                    return graph.degreeOf(Graph.ALONG, node);
                default:
                    return graph.degreeOf(Graph.AGAINST, node);
            }
        }

        /** Operators of one operand, and those that may leave out what stands behind the first. */
        private int decide(int order, int at) {
            int v = pop();
            int first = code.first(at);
            switch (order) {
                case Code.NEGATE:
                    push(-v);
                    return at + 1;
                case Tokens.NOT:
                    push(1 - v);
                    return at + 1;
                case Tokens.IF:
                    return v == 0 ? first : at + 1;
                case Tokens.AND:
                case Tokens.OR:
                    if ((v == 1) == (order == Tokens.AND)) {
                        return at + 1;
                    }
                    push(v);
                    return first;
                default:
                    if (v < 1) {
                        return fail(2, first);
                    }
                    push(draw(v));
                    return at + 1;
            }
        }

        private int draw(int below) {
            int h = mixed(mixed(mixed(seed, node), turn), drawn);
            drawn++;
            return below < 1 ? 0 : (int) ((h & 0xFFFFFFFFL) % below);
        }

        private static int mixed(int h, int x) {
            int product = (h ^ x) * MIX;
            return product ^ product >>> 15;
        }

        private int combine(int order, int at) {
            int right = pop();
            int left = pop();
            switch (order) {
                case Tokens.PLUS:
                    push(left + right);
                    break;
                case Tokens.MINUS:
                    push(left - right);
                    break;
                case Tokens.TIMES:
                    push(left * right);
                    break;
                case Tokens.OVER:
                case Tokens.REST:
                    if (right == 0) {
                        return fail(1, code.first(at));
                    }
                    push(order == Tokens.OVER ? left / right : left % right);
                    break;
                default:
                    push(compares(order, left, right) ? 1 : 0);
                    break;
            }
            return at + 1;
        }

        private static boolean compares(int order, int left, int right) {
            switch (order) {
                case Tokens.EQUAL:
                    return left == right;
                case Tokens.UNEQUAL:
                    return left != right;
                case Tokens.LESS:
                    return left < right;
                case Tokens.AT_MOST:
                    return left <= right;
                case Tokens.GREATER:
                    return left > right;
                default:
                    return left >= right;
            }
        }
    }

    /** A RUN: a ring of moments, of which the one behind the last TURN and six before it are kept. */
    private static final class Rounds {
        private static final int RING = 8;
        private static final int MOST_KEPT = 6;

        private final Graph graph;
        private final Names names;
        private final Moment spare;
        private final Moment[] moments = new Moment[RING];
        private final Worker worker;
        private int seed;
        private int kept;
        private int failure;
        private int failedNode;
        private int failedPlace;
        private int failedTurn;
        /** Kept beside the moments: a TURN that is undone has been done all the same, and is the last one. */
        private int stepsDone;
        boolean there;
        int turn;

        Rounds(Graph itsGraph, Names itsNames, Code itsCode) {
            graph = itsGraph;
            names = itsNames;
            spare = new Moment(itsNames);
            for (int i = 0; i < moments.length; i++) {
                moments[i] = new Moment(itsNames);
            }
            worker = new Worker(itsGraph, itsCode, spare);
            there = false;
        }

        void close() {
            there = false;
        }

        void open(int itsSeed) {
            there = true;
            seed = itsSeed;
            turn = 0;
            kept = 0;
            failure = 0;
            failedNode = 0;
            failedPlace = 0;
            failedTurn = 0;
            stepsDone = 0;
            now().becomeFirst(graph.nodeCount);
        }

        Moment now() {
            return momentBefore(turn);
        }

        private Moment momentBefore(int someTurn) {
            int place = someTurn & RING - 1;
            if (place >= moments.length || moments[place] == null) {
                return spare;
            }
            return moments[place];
        }

        boolean holds(int node, int sort, int k) {
            return there && graph.hasNode(node) && k >= 0 && k < names.amount(sort);
        }

        boolean isEnded() {
            Moment moment = now();
            return moment.underWay == 0 && moment.haltedAmong(graph.nodeCount) == graph.nodeCount;
        }

        /** The next moment is made beside this one: where a node fails, this one simply stays. */
        boolean doTurn() {
            Moment before = now();
            Moment after = momentBefore(turn + 1);
            after.follow(before, graph.nodeCount);
            worker.openTurn(before, after, seed, turn);
            int steps = 0;
            for (int node = 0; node < graph.nodeCount; node++) {
                if (before.hasHalted(node) && !before.isWoken(node)) {
                    continue;
                }
                after.setHalted(node, false);
                worker.work(node);
                steps += worker.steps;
                if (worker.failure != 0) {
                    noteFailure(node);
                    return false;
                }
            }
            stepsDone = steps;
            turn++;
            kept = Math.min(kept + 1, MOST_KEPT);
            return true;
        }

        private void noteFailure(int node) {
            failure = worker.failure;
            failedNode = node;
            failedPlace = worker.failedPlace;
            failedTurn = turn;
        }

        boolean goBack() {
            if (kept <= 0) {
                return false;
            }
            kept--;
            turn--;
            return true;
        }

        int tell(int what) {
            switch (what) {
                case 0:
                    return turn;
                case 1:
                    return isEnded() ? 1 : 0;
                case 2:
                    return now().underWay;
                case 3:
                    return now().haltedAmong(graph.nodeCount);
                case 4:
                    return failure;
                case 5:
                    return failedNode;
                case 6:
                    return failedPlace;
                case 7:
                    return failedTurn;
                case 8:
                    return kept;
                case 9:
                    return stepsDone;
                default:
                    return BAD;
            }
        }
    }
}

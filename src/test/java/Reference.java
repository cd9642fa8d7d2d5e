import java.util.ArrayDeque;
import java.util.ArrayList;
import java.util.Arrays;
import java.util.Deque;
import java.util.HashSet;
import java.util.LinkedHashMap;
import java.util.List;
import java.util.Map;
import java.util.Set;
import java.util.regex.Matcher;
import java.util.regex.Pattern;

/**
 * The document a second time, written as unlike the class as can be: regular expressions, a tree,
 * exceptions, copies of all there is. OracleTest compares the two.
 */
final class Reference {
    private static final int BAD = -1, NONE = -2, FULL = -3, FAILED = -4;
    private static final Set<String> RESERVED = new HashSet<>(Arrays.asList(("column node int bool true false fold global "
        + "sum least most first all some start round let send along against give if else loop halt arc has id turn "
        + "nodes degree indegree draw").split(" ")));
    private static final Pattern TOKEN = Pattern.compile("[A-Za-z][A-Za-z0-9]*|[0-9]+|==|!=|<=|>=|&&|\\|\\||[;{}(),.:=<>+*/%!-]");
    private static final Pattern BLANKS = Pattern.compile("(?:[ \n]|#[^\n]*)*");
    private static final List<List<String>> LINES = List.of(List.of("||"), List.of("&&"),
        List.of("==", "!=", "<", "<=", ">", ">="), List.of("+", "-"), List.of("*", "/", "%"));

    // ---------------------------------------------------------------- the tape

    private String tape = "";

    int feed(int... words) {
        if (tape.length() + 20 > 4000) {
            return FULL;
        }
        StringBuilder more = new StringBuilder();
        for (int word : words) {
            for (int shift = 24; shift >= 0; shift -= 8) {
                more.append((char) (word >>> shift & 255));
            }
        }
        tape += more;
        return tape.length();
    }

    int end(int n) {
        if (n < 0 || n > 20 || tape.length() < 20) {
            return BAD;
        }
        tape = tape.substring(0, tape.length() - 20 + n);
        return tape.length();
    }

    // ---------------------------------------------------------------- reading

    private record Token(String text, int place, boolean sound) {
        boolean isName() {
            return sound && Character.isLetter(text.charAt(0)) && !RESERVED.contains(text);
        }

        boolean isNumber() {
            return sound && Character.isDigit(text.charAt(0));
        }
    }

    private static final class Refusal extends RuntimeException {
        private static final long serialVersionUID = 1;
        final int number;
        final int place;

        Refusal(int number, int place) {
            this.number = number;
            this.place = place;
        }
    }

    /** A node of the tree: op tells what it is; parts are its operands. */
    private static final class Tree {
        final String op;
        final int place;
        final int first;
        final List<Tree> parts = new ArrayList<>();
        Told told;
        int number;
        char kind = '?';

        Tree(String op, int place, int first) {
            this.op = op;
            this.place = place;
            this.first = first;
        }
    }

    private record Act(String op, int place, Told target, Tree exp, int repeats, boolean against, List<Act> block,
        List<Act> other) {
    }

    private static final class Told {
        final String name;
        final char sort;
        final char kind;
        final int number;
        final int initial;
        final String way;
        final int unique;

        Told(String name, char sort, char kind, int number, int initial, String way, int unique) {
            this.name = name;
            this.sort = sort;
            this.kind = kind;
            this.number = number;
            this.initial = initial;
            this.way = way;
            this.unique = unique;
        }
    }

    private String text = "";
    private List<Token> tokens = new ArrayList<>();
    private int at;
    private Deque<List<Told>> scopes = new ArrayDeque<>();
    private List<int[]> soft = new ArrayList<>();
    private boolean inSend;
    private int statements;
    private int letCount;
    private List<String> out;
    private boolean ready;
    private List<Act> start;
    private List<Act> round;
    private List<Told> told = new ArrayList<>();
    private String printed = "";
    private int faultNumber;
    private int faultPlace;

    int program() {
        text = tape;
        tape = "";
        world = null;
        ready = false;
        faultNumber = 0;
        printed = "";
        soft = new ArrayList<>();
        told = new ArrayList<>();
        statements = 0;
        inSend = false;
        try {
            tokenize();
            readProgram();
        } catch (Refusal refusal) {
            faultNumber = refusal.number;
            faultPlace = refusal.place;
            return -10 - faultNumber;
        }
        soft.sort((a, b) -> a[0] != b[0] ? Integer.compare(a[0], b[0]) : Integer.compare(a[1], b[1]));
        if (!soft.isEmpty()) {
            faultPlace = soft.get(0)[0];
            faultNumber = soft.get(0)[1];
            return -10 - faultNumber;
        }
        ready = true;
        printed = String.join(" ", out);
        return statements;
    }

    private void tokenize() {
        tokens = new ArrayList<>();
        at = 0;
        Matcher blanks = BLANKS.matcher(text);
        Matcher token = TOKEN.matcher(text);
        int place = 0;
        while (true) {
            if (blanks.find(place) && blanks.start() == place) {
                place = blanks.end();
            }
            if (place == text.length()) {
                tokens.add(new Token("", place, false));
                return;
            }
            boolean sound = token.find(place) && token.start() == place;
            String word = sound ? token.group() : "?";
            if (sound && Character.isLetter(word.charAt(0))) {
                sound = word.length() <= 12;
            } else if (sound && Character.isDigit(word.charAt(0))) {
                sound = new java.math.BigInteger(word).bitLength() <= 31;
            }
            tokens.add(new Token(word, place, sound));
            if (!sound) {
                return;
            }
            place += word.length();
        }
    }

    private Token now() {
        return tokens.get(at);
    }

    private boolean sees(String... words) {
        return now().sound && Arrays.asList(words).contains(now().text);
    }

    private RuntimeException refuse(int number) {
        return new Refusal(number, now().place);
    }

    private Token take() {
        if (at >= 1000) {
            throw refuse(2);
        }
        return tokens.get(at++);
    }

    private Token want(String... words) {
        if (!sees(words)) {
            throw refuse(1);
        }
        return take();
    }

    private void readProgram() {
        out = new ArrayList<>();
        scopes = new ArrayDeque<>();
        scopes.push(told);
        letCount = 0;
        while (sees("column", "node", "fold", "global")) {
            readTold();
        }
        put(want("start"));
        start = readBlock(0);
        put(want("round"));
        round = readBlock(0);
        if (!now().text.isEmpty()) {
            throw refuse(1);
        }
    }

    private void put(Token token) {
        out.add(token.text);
    }

    private int countOf(char sort) {
        int sum = 0;
        for (List<Told> scope : scopes) {
            for (Told one : scope) {
                sum += one.sort == sort ? 1 : 0;
            }
        }
        return sum;
    }

    private Told seen(String name) {
        for (List<Told> scope : scopes) {
            for (Told one : scope) {
                if (one.name.equals(name)) {
                    return one;
                }
            }
        }
        return null;
    }

    private Token newName(char sort, int limit) {
        if (!now().isName()) {
            throw refuse(1);
        }
        if (countOf(sort) >= limit) {
            throw refuse(2);
        }
        if (seen(now().text) != null) {
            soft.add(new int[] {now().place, 3});
        }
        Token name = take();
        put(name);
        return name;
    }

    private void readTold() {
        String sort = now().text;
        put(take());
        Token name = newName(sort.charAt(0), sort.equals("node") ? 8 : 4);
        char kind = 'i';
        int initial = 0;
        String way = "";
        if (sort.equals("node")) {
            put(want(":"));
            Token type = want("int", "bool");
            put(type);
            put(want("="));
            kind = type.text.charAt(0);
            if (kind == 'b') {
                Token truth = want("true", "false");
                put(truth);
                initial = truth.text.equals("true") ? 1 : 0;
            } else {
                boolean negative = sees("-");
                if (negative) {
                    put(take());
                }
                if (!now().isNumber()) {
                    throw refuse(1);
                }
                Token number = take();
                put(number);
                initial = Integer.parseInt(number.text) * (negative ? -1 : 1);
            }
        } else if (!sort.equals("column")) {
            put(want(":"));
            Token token = want("sum", "least", "most", "first", "all", "some");
            put(token);
            way = token.text;
            kind = way.equals("all") || way.equals("some") ? 'b' : 'i';
        }
        put(want(";"));
        told.add(new Told(name.text, sort.charAt(0), kind, countOf(sort.charAt(0)), initial, way, 0));
    }

    private List<Act> readBlock(int depth) {
        if (!sees("{")) {
            throw refuse(1);
        }
        if (depth > 12) {
            throw refuse(2);
        }
        put(take());
        scopes.push(new ArrayList<>());
        List<Act> acts = new ArrayList<>();
        while (now().isName() || sees("let", "send", "give", "if", "loop", "halt")) {
            acts.add(readStatement(depth + 1));
        }
        put(want("}"));
        scopes.pop();
        return acts;
    }

    private Act readStatement(int depth) {
        if (statements == 120) {
            throw refuse(2);
        }
        statements++;
        Token first = take();
        put(first);
        switch (first.text) {
            case "let":
                return readLet(first, depth);
            case "send":
            case "give":
                return readSending(first, depth);
            case "if": {
                Tree exp = readExp(depth, 'b');
                List<Act> block = readBlock(depth);
                List<Act> other = new ArrayList<>();
                if (sees("else")) {
                    put(take());
                    other = readBlock(depth);
                }
                return new Act("if", first.place, null, exp, 0, false, block, other);
            }
            case "loop": {
                if (!now().isNumber()) {
                    throw refuse(1);
                }
                if (Integer.parseInt(now().text) > 100) {
                    throw refuse(2);
                }
                Token number = take();
                put(number);
                List<Act> block = readBlock(depth);
                return new Act("loop", first.place, null, null, Integer.parseInt(number.text), false, block, null);
            }
            case "halt":
                put(want(";"));
                return new Act("halt", first.place, null, null, 0, false, null, null);
            default:
                return readChange(first, depth);
        }
    }

    private Act readLet(Token first, int depth) {
        Token name = newName('l', 8);
        put(want("="));
        Tree exp = readExp(depth, '?');
        put(want(";"));
        Told let = new Told(name.text, 'l', exp.kind, 0, 0, "", letCount++);
        scopes.peek().add(let);
        return new Act("=", first.place, let, exp, 0, false, null, null);
    }

    private Act readSending(Token first, int depth) {
        boolean send = first.text.equals("send");
        Told target = takeOld(send ? "f" : "g");
        inSend = send;
        Tree exp = readExp(depth, target == null ? '?' : target.kind);
        inSend = false;
        boolean against = false;
        if (send) {
            Token way = want("along", "against");
            put(way);
            against = way.text.equals("against");
        }
        put(want(";"));
        return new Act(first.text, first.place, target, exp, 0, against, null, null);
    }

    private Act readChange(Token first, int depth) {
        Told target = seen(first.text);
        if (target == null || target.sort != 'n' && target.sort != 'l') {
            soft.add(new int[] {first.place, 4});
            target = null;
        }
        put(want("="));
        Tree exp = readExp(depth, target == null ? '?' : target.kind);
        put(want(";"));
        return new Act("=", first.place, target, exp, 0, false, null, null);
    }

    private Told takeOld(String sorts) {
        if (!now().isName()) {
            throw refuse(1);
        }
        Told found = seen(now().text);
        if (found == null || sorts.indexOf(found.sort) < 0) {
            soft.add(new int[] {now().place, 4});
            found = null;
        }
        put(take());
        return found;
    }

    /** An exp is printed from its tree, so its TOKENS are taken out of the row again. */
    private Tree readExp(int depth, char kind) {
        int from = out.size();
        Tree exp = readLine(0, depth);
        check(exp, kind);
        out.subList(from, out.size()).clear();
        out.addAll(Arrays.asList(show(exp, 0).trim().split(" +")));
        return exp;
    }

    private void check(Tree exp, char kind) {
        if (kind != '?' && exp.kind != '?' && exp.kind != kind) {
            soft.add(new int[] {exp.first, 5});
        }
    }

    private Tree readLine(int line, int depth) {
        if (line == LINES.size()) {
            return readOne(depth);
        }
        Tree left = readLine(line + 1, depth);
        while (sees(LINES.get(line).toArray(new String[0]))) {
            Token sign = take();
            Tree right = readLine(line + 1, depth);
            Tree both = new Tree(sign.text, sign.place, left.first);
            both.parts.add(left);
            both.parts.add(right);
            char kind = line < 2 ? 'b' : sign.text.equals("==") || sign.text.equals("!=") ? left.kind : 'i';
            check(left, kind);
            check(right, kind);
            both.kind = line < 3 ? 'b' : 'i';
            left = both;
            if (line == 2) {
                break;
            }
        }
        return left;
    }

    private boolean canBeginExp() {
        return now().isName() || now().isNumber() || sees("true", "false", "arc", "has", "id", "turn", "nodes", "degree",
            "indegree", "draw", "if", "(", "-", "!");
    }

    private Tree readOne(int depth) {
        if (!canBeginExp()) {
            throw refuse(1);
        }
        if (depth > 12) {
            throw refuse(2);
        }
        if (sees("-", "!")) {
            Token sign = take();
            Tree inner = readOne(depth + 1);
            Tree whole = new Tree(sign.text + "1", sign.place, sign.place);
            whole.parts.add(inner);
            whole.kind = sign.text.equals("-") ? 'i' : 'b';
            check(inner, whole.kind);
            return whole;
        }
        return readBase(depth);
    }

    private Tree readBase(int depth) {
        Token first = now();
        if (sees("(")) {
            take();
            Tree inner = readLine(0, depth + 1);
            want(")");
            Tree moved = new Tree(inner.op, inner.place, first.place);
            moved.parts.addAll(inner.parts);
            moved.told = inner.told;
            moved.number = inner.number;
            moved.kind = inner.kind;
            return moved;
        }
        if (first.isName()) {
            Tree leaf = new Tree(first.text, first.place, first.place);
            leaf.told = takeOld("nlfg");
            leaf.kind = leaf.told == null ? '?' : leaf.told.kind;
            return leaf;
        }
        Tree tree = new Tree(first.text, first.place, first.place);
        take();
        switch (first.text) {
            case "arc":
                want(".");
                tree.number = at;
                tree.told = takeOld(inSend ? "c" : "");
                tree.kind = tree.told == null ? '?' : 'i';
                break;
            case "has":
                tree.number = at;
                tree.told = takeOld("f");
                tree.kind = tree.told == null ? '?' : 'b';
                break;
            case "draw":
                want("(");
                tree.parts.add(readLine(0, depth + 1));
                check(tree.parts.get(0), 'i');
                want(")");
                tree.kind = 'i';
                break;
            case "if":
                want("(");
                tree.parts.add(readLine(0, depth + 1));
                check(tree.parts.get(0), 'b');
                want(",");
                tree.parts.add(readLine(0, depth + 1));
                want(",");
                tree.parts.add(readLine(0, depth + 1));
                check(tree.parts.get(2), tree.parts.get(1).kind);
                want(")");
                tree.kind = tree.parts.get(1).kind == '?' ? tree.parts.get(2).kind : tree.parts.get(1).kind;
                break;
            case "true":
            case "false":
                tree.kind = 'b';
                break;
            default:
                tree.kind = 'i';
                break;
        }
        return tree;
    }

    private static int lineOf(String op) {
        for (int line = 0; line < LINES.size(); line++) {
            if (LINES.get(line).contains(op)) {
                return line;
            }
        }
        return LINES.size();
    }

    private String show(Tree tree, int lowest) {
        int line = lineOf(tree.op);
        String shown;
        if (line < LINES.size()) {
            shown = show(tree.parts.get(0), line == 2 ? 3 : line) + " " + tree.op + " "
                + show(tree.parts.get(1), line + 1);
        } else if (tree.op.equals("-1") || tree.op.equals("!1")) {
            shown = tree.op.substring(0, 1) + " " + show(tree.parts.get(0), LINES.size());
        } else if (tree.op.equals("arc")) {
            shown = "arc . " + tokens.get(tree.number).text;
        } else if (tree.op.equals("has")) {
            shown = "has " + tokens.get(tree.number).text;
        } else if (tree.parts.isEmpty()) {
            shown = tree.op;
        } else {
            List<String> parts = new ArrayList<>();
            for (Tree part : tree.parts) {
                parts.add(show(part, 0));
            }
            shown = tree.op + " ( " + String.join(" , ", parts) + " )";
        }
        return line < lowest ? "( " + shown + " )" : shown;
    }

    int fault(int what) {
        if (what < 0 || what > 1) {
            return BAD;
        }
        if (faultNumber == 0) {
            return NONE;
        }
        return what == 0 ? faultPlace : text.substring(0, faultPlace).split("\n", -1).length;
    }

    int print(int i) {
        if (!ready || i < -1 || i >= printed.length()) {
            return BAD;
        }
        return i == -1 ? printed.length() : printed.charAt(i);
    }

    int name() {
        if (!ready) {
            return BAD;
        }
        String wanted = tape;
        tape = "";
        for (Told one : told) {
            if (one.name.equals(wanted)) {
                return 100 * "cnfg".indexOf(one.sort) + one.number;
            }
        }
        return NONE;
    }

    int count(int what) {
        if (what < 0 || what > 6) {
            return BAD;
        }
        if (what == 5) {
            return nodeCount;
        }
        if (what == 6) {
            return arcs.size();
        }
        if (!ready) {
            return 0;
        }
        return what == 4 ? statements : ofSort("cnfg".charAt(what)).size();
    }

    private List<Told> ofSort(char sort) {
        List<Told> some = new ArrayList<>();
        for (Told one : told) {
            if (one.sort == sort) {
                some.add(one);
            }
        }
        return some;
    }

    // ---------------------------------------------------------------- the graph

    private int nodeCount = 1;
    private List<int[]> arcs = new ArrayList<>();

    private boolean isNode(int node) {
        return node >= 0 && node < nodeCount;
    }

    int nodes(int n) {
        if (n < 1 || n > 40) {
            return BAD;
        }
        int before = nodeCount;
        nodeCount = n;
        arcs = new ArrayList<>();
        world = null;
        return before;
    }

    int arc(int from, int to) {
        if (!isNode(from) || !isNode(to)) {
            return BAD;
        }
        if (arcs.size() == 120) {
            return FULL;
        }
        world = null;
        arcs.add(new int[] {from, to, 0, 0, 0, 0});
        return arcs.size() - 1;
    }

    int weight(int arc, int column, int v) {
        if (arc < 0 || arc >= arcs.size() || column < 0 || column > 3) {
            return 0;
        }
        int before = arcs.get(arc)[2 + column];
        arcs.get(arc)[2 + column] = v;
        return before;
    }

    // ---------------------------------------------------------------- runs

    private record Mail(int node, int fold, int value) {
    }

    private static final class World {
        int turn;
        int[][] states;
        boolean[] halted;
        List<Mail> mail = new ArrayList<>();
        List<Mail> gifts = new ArrayList<>();
    }

    private static final class Halt extends RuntimeException {
        private static final long serialVersionUID = 1;
    }

    private World world;
    private Deque<World> past = new ArrayDeque<>();
    private int seed;
    private int[] failure = new int[4];
    private World next;
    private int node;
    private int steps;
    private int stepsDone;
    private int drawn;
    private int[] arcNow;
    private int statementPlace;
    private Map<Integer, Integer> lets = new LinkedHashMap<>();

    int begin(int itsSeed) {
        if (!ready) {
            return BAD;
        }
        seed = itsSeed;
        past = new ArrayDeque<>();
        failure = new int[4];
        stepsDone = 0;
        world = new World();
        world.halted = new boolean[nodeCount];
        List<Told> states = ofSort('n');
        world.states = new int[nodeCount][states.size()];
        for (int[] row : world.states) {
            for (int k = 0; k < row.length; k++) {
                row[k] = states.get(k).initial;
            }
        }
        return 1;
    }

    private boolean isEnded() {
        for (boolean one : world.halted) {
            if (!one) {
                return false;
            }
        }
        return world.mail.isEmpty();
    }

    int run(int turns) {
        if (world == null || turns < 1 || turns > 100) {
            return BAD;
        }
        for (int done = 0; done < turns; done++) {
            if (isEnded()) {
                return done;
            }
            try {
                doTurn();
            } catch (Refusal refusal) {
                failure = new int[] {refusal.number, node, refusal.place, world.turn};
                return FAILED;
            }
        }
        return turns;
    }

    private void doTurn() {
        next = new World();
        next.turn = world.turn + 1;
        next.halted = world.halted.clone();
        next.states = new int[nodeCount][];
        for (int i = 0; i < nodeCount; i++) {
            next.states[i] = world.states[i].clone();
        }
        int stepsOfAll = 0;
        for (node = 0; node < nodeCount; node++) {
            boolean woken = false;
            for (Mail one : world.mail) {
                woken |= one.node == node;
            }
            if (world.halted[node] && !woken) {
                continue;
            }
            next.halted[node] = false;
            steps = 0;
            drawn = 0;
            try {
                doAll(world.turn == 0 ? start : round);
            } catch (Halt halt) {
                next.halted[node] = true;
            }
            stepsOfAll += steps;
        }
        past.push(world);
        if (past.size() > 6) {
            past.removeLast();
        }
        world = next;
        stepsDone = stepsOfAll;
    }

    private void step() {
        steps++;
        if (steps > 1000) {
            throw new Refusal(3, statementPlace);
        }
    }

    private void doAll(List<Act> acts) {
        for (Act act : acts) {
            statementPlace = act.place;
            step();
            doOne(act);
        }
    }

    private void doOne(Act act) {
        switch (act.op) {
            case "=": {
                int value = value(act.exp);
                if (act.target.sort == 'n') {
                    next.states[node][act.target.number] = value;
                } else {
                    lets.put(act.target.unique, value);
                }
                break;
            }
            case "send":
                for (int[] arc : arcs) {
                    if (arc[act.against ? 1 : 0] == node) {
                        step();
                        arcNow = arc;
                        next.mail.add(new Mail(arc[act.against ? 0 : 1], act.target.number, value(act.exp)));
                    }
                }
                break;
            case "give":
                next.gifts.add(new Mail(0, act.target.number, value(act.exp)));
                break;
            case "if":
                doAll(value(act.exp) != 0 ? act.block : act.other);
                break;
            case "loop":
                for (int i = 0; i < act.repeats; i++) {
                    statementPlace = act.place;
                    step();
                    doAll(act.block);
                }
                break;
            default:
                throw new Halt();
        }
    }

    private int value(Tree tree) {
        String op = tree.op;
        if (op.equals("&&") || op.equals("||")) {
            int left = value(tree.parts.get(0));
            step();
            return (left != 0) == op.equals("&&") ? value(tree.parts.get(1)) : left;
        }
        if (op.equals("if")) {
            int condition = value(tree.parts.get(0));
            step();
            return value(tree.parts.get(condition != 0 ? 1 : 2));
        }
        int[] parts = new int[tree.parts.size()];
        for (int i = 0; i < parts.length; i++) {
            parts[i] = value(tree.parts.get(i));
        }
        step();
        if (parts.length == 0) {
            return leaf(tree);
        }
        switch (op) {
            case "draw":
                return draw(parts[0], tree.place);
            case "-1":
                return -parts[0];
            case "!1":
                return parts[0] == 0 ? 1 : 0;
            case "/":
            case "%":
                if (parts[1] == 0) {
                    throw new Refusal(1, tree.place);
                }
                return op.equals("/") ? parts[0] / parts[1] : parts[0] % parts[1];
            case "+":
                return parts[0] + parts[1];
            case "-":
                return parts[0] - parts[1];
            case "*":
                return parts[0] * parts[1];
            default:
                return compare(op, Integer.compare(parts[0], parts[1])) ? 1 : 0;
        }
    }

    private static boolean compare(String op, int sign) {
        switch (op) {
            case "==":
                return sign == 0;
            case "!=":
                return sign != 0;
            case "<":
                return sign < 0;
            case "<=":
                return sign <= 0;
            case ">":
                return sign > 0;
            default:
                return sign >= 0;
        }
    }

    private int draw(int n, int place) {
        if (n < 1) {
            throw new Refusal(2, place);
        }
        int h = seed;
        for (int x : new int[] {node, world.turn, drawn++}) {
            h = (h ^ x) * 0x9E3779B1;
            h = h ^ h >>> 15;
        }
        return Integer.remainderUnsigned(h, n);
    }

    private int leaf(Tree tree) {
        switch (tree.op) {
            case "true":
                return 1;
            case "false":
                return 0;
            case "id":
                return node;
            case "turn":
                return world.turn;
            case "nodes":
                return nodeCount;
            case "degree":
            case "indegree": {
                int sum = 0;
                for (int[] arc : arcs) {
                    sum += arc[tree.op.equals("degree") ? 0 : 1] == node ? 1 : 0;
                }
                return sum;
            }
            case "arc":
                return arcNow[2 + tree.told.number];
            case "has":
                return of(world.mail, node, tree.told.number).isEmpty() ? 0 : 1;
            default:
                break;
        }
        if (tree.told == null) {
            return Integer.parseInt(tree.op);
        }
        switch (tree.told.sort) {
            case 'n':
                return next.states[node][tree.told.number];
            case 'l':
                return lets.get(tree.told.unique);
            case 'f':
                return folded(world.mail, node, tree.told);
            default:
                return folded(world.gifts, 0, tree.told);
        }
    }

    private static List<Integer> of(List<Mail> mail, int node, int number) {
        List<Integer> values = new ArrayList<>();
        for (Mail one : mail) {
            if (one.node == node && one.fold == number) {
                values.add(one.value);
            }
        }
        return values;
    }

    private static int folded(List<Mail> mail, int node, Told fold) {
        List<Integer> values = of(mail, node, fold.number);
        switch (fold.way) {
            case "sum":
                return values.stream().reduce(0, Integer::sum);
            case "least":
                return values.stream().reduce(Integer.MAX_VALUE, Math::min);
            case "most":
                return values.stream().reduce(Integer.MIN_VALUE, Math::max);
            case "first":
                return values.isEmpty() ? 0 : values.get(0);
            case "all":
                return values.contains(0) ? 0 : 1;
            default:
                return values.contains(1) ? 1 : 0;
        }
    }

    int undo() {
        if (world == null) {
            return BAD;
        }
        if (past.isEmpty()) {
            return NONE;
        }
        world = past.pop();
        return world.turn;
    }

    int told(int what) {
        if (world == null || what < 0 || what > 9) {
            return BAD;
        }
        int resting = 0;
        for (boolean one : world.halted) {
            resting += one ? 1 : 0;
        }
        int[] answers = {world.turn, isEnded() ? 1 : 0, world.mail.size(), resting, failure[0], failure[1], failure[2],
            failure[3], past.size(), stepsDone};
        return answers[what];
    }

    int state(int node, int k) {
        return world != null && isNode(node) && k >= 0 && k < count(1) ? world.states[node][k] : 0;
    }

    int message(int node, int fold) {
        if (world == null || !isNode(node) || fold < 0 || fold >= count(2)) {
            return 0;
        }
        return folded(world.mail, node, ofSort('f').get(fold));
    }

    int messages(int node, int fold) {
        if (world == null || !isNode(node) || fold < 0 || fold >= count(2)) {
            return BAD;
        }
        return of(world.mail, node, fold).size();
    }

    int global(int k) {
        return world != null && k >= 0 && k < count(3) ? folded(world.gifts, 0, ofSort('g').get(k)) : 0;
    }

    int halted(int node) {
        return world == null || !isNode(node) ? BAD : world.halted[node] ? 1 : 0;
    }
}

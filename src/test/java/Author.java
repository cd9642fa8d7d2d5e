import java.util.ArrayList;
import java.util.List;
import java.util.Random;

/** Writes programs by chance: mostly right ones, with a share of wrong kinds, wrong NAMES and spoilt TOKENS. */
final class Author {
    private static final String[] WAYS = {"sum", "least", "most", "first", "all", "some"};
    private static final String[] SPOILS = ("column node int bool true false fold global sum all start round let send along "
        + "against give if else loop halt arc has id turn nodes degree draw ; { } ( ) , . : = == != < <= > >= + - * / % "
        + "&& || ! & | $ 0 7 100 101 2147483647 2147483648 a0 zzzzzzzzzzzz zzzzzzzzzzzzz").split(" ");

    private record Known(String name, char sort, char kind) {
    }

    private final Random chance;
    private final double slip;
    private List<String> tokens;
    private List<Known> known;
    private int lets;
    private int left;

    Author(Random chance, double slip) {
        this.chance = chance;
        this.slip = slip;
    }

    /** The TOKENS of a program with about so many statements. */
    List<String> write(int size) {
        tokens = new ArrayList<>();
        known = new ArrayList<>();
        lets = 0;
        left = size;
        int some = chance.nextInt(12);
        for (int i = 0; i < some; i++) {
            tell();
        }
        put("start");
        block(0, 4);
        left = size;
        put("round");
        block(0, 4);
        if (chance.nextInt(4) == 0) {
            spoil();
        }
        return tokens;
    }

    private void put(String... some) {
        for (String one : some) {
            tokens.add(one);
        }
    }

    private boolean slips() {
        return chance.nextDouble() < slip;
    }

    private int amount(char sort) {
        int sum = 0;
        for (Known one : known) {
            sum += one.sort == sort ? 1 : 0;
        }
        return sum;
    }

    private String fresh(String stem) {
        if (slips() && !known.isEmpty()) {
            return known.get(chance.nextInt(known.size())).name;
        }
        for (int i = 0; true; i++) {
            String name = stem + i;
            if (known.stream().noneMatch(one -> one.name.equals(name))) {
                return name;
            }
        }
    }

    private void tell() {
        int sort = chance.nextInt(5);
        char letter = "cnnfg".charAt(sort);
        if (amount(letter) >= (letter == 'n' ? 8 : 4) && !slips()) {
            return;
        }
        String name = fresh(String.valueOf(letter));
        char kind = 'i';
        if (letter == 'c') {
            put("column", name);
        } else if (letter == 'n') {
            kind = chance.nextBoolean() ? 'i' : 'b';
            put("node", name, ":", kind == 'i' ? "int" : "bool", "=");
            if (kind == 'i') {
                if (chance.nextInt(3) == 0) {
                    put("-");
                }
                put(number());
            } else {
                put(chance.nextBoolean() ? "true" : "false");
            }
        } else {
            int way = chance.nextInt(WAYS.length);
            kind = way < 4 ? 'i' : 'b';
            put(letter == 'f' ? "fold" : "global", name, ":", WAYS[way]);
        }
        put(";");
        known.add(new Known(name, letter, kind));
    }

    private String number() {
        switch (chance.nextInt(8)) {
            case 0:
                return "2147483647";
            case 1:
                return "00" + chance.nextInt(100);
            case 2:
                return String.valueOf(chance.nextInt(1000000));
            default:
                return String.valueOf(chance.nextInt(6));
        }
    }

    private void block(int depth, int most) {
        put("{");
        int seen = known.size();
        int letsBefore = lets;
        int some = chance.nextInt(most + 1);
        for (int i = 0; i < some && left > 0; i++) {
            left--;
            statement(depth);
        }
        lets = letsBefore;
        known = new ArrayList<>(known.subList(0, seen));
        put("}");
    }

    private void statement(int depth) {
        if (chance.nextInt(80) == 0) {
            nest(depth);
            return;
        }
        if (chance.nextInt(25) == 0) {
            put("if", "turn", "==", String.valueOf(chance.nextInt(4)), "{");
            put("loop", String.valueOf(chance.nextInt(101)), "{", "loop", String.valueOf(chance.nextInt(12)));
            left += 2;
            block(depth + 3, 2);
            put("}", "}");
            return;
        }
        switch (chance.nextInt(9)) {
            case 0:
            case 1:
                change();
                break;
            case 2:
                let();
                break;
            case 3:
            case 4:
                sending('f', "send");
                break;
            case 5:
                sending('g', "give");
                break;
            case 6:
                put("if");
                exp('b', 3, false);
                block(depth + 1, 4);
                if (chance.nextBoolean()) {
                    put("else");
                    block(depth + 1, 3);
                }
                break;
            case 7:
                put("loop", String.valueOf(chance.nextInt(5) == 0 ? chance.nextInt(102) : chance.nextInt(5)));
                block(depth + 1, 3);
                break;
            default:
                if (chance.nextInt(3) == 0) {
                    put("halt", ";");
                } else {
                    change();
                }
                break;
        }
    }

    /** Blocks within blocks, about as many as may be. */
    private void nest(int depth) {
        int deep = 11 - depth + (slips() ? 2 : 0);
        for (int i = 0; i < deep; i++) {
            put(chance.nextBoolean() ? new String[] {"loop", "1"} : new String[] {"if", "true"});
            put("{");
        }
        left += 2;
        block(depth, 1);
        tokens.remove(tokens.size() - 1);
        for (int i = 0; i <= deep; i++) {
            put("}");
        }
    }

    private Known pick(String sorts, char kind) {
        List<Known> some = new ArrayList<>();
        for (Known one : known) {
            boolean fits = sorts.indexOf(one.sort) >= 0 && (kind == '?' || one.kind == kind);
            if (fits || slips()) {
                some.add(one);
            }
        }
        return some.isEmpty() ? null : some.get(chance.nextInt(some.size()));
    }

    private void change() {
        Known target = pick("nl", '?');
        if (target == null) {
            return;
        }
        put(target.name, "=");
        exp(target.kind, 3, false);
        put(";");
    }

    private void let() {
        if (lets >= 8 && !slips()) {
            return;
        }
        String name = fresh("l");
        char kind = chance.nextBoolean() ? 'i' : 'b';
        put("let", name, "=");
        exp(kind, 3, false);
        put(";");
        lets++;
        known.add(new Known(name, 'l', kind));
    }

    private void sending(char sort, String word) {
        Known target = pick(String.valueOf(sort), '?');
        if (target == null) {
            return;
        }
        put(word, target.name);
        exp(target.kind, 3, sort == 'f');
        if (sort == 'f') {
            put(chance.nextBoolean() ? "along" : "against");
        }
        put(";");
    }

    private void exp(char wanted, int budget, boolean send) {
        char kind = slips() ? (wanted == 'i' ? 'b' : 'i') : wanted;
        if (chance.nextInt(150) == 0) {
            int signs = chance.nextInt(14);
            for (int i = 0; i < signs; i++) {
                put(kind == 'i' ? "-" : "!");
            }
        }
        if (chance.nextInt(150) == 0) {
            int deep = chance.nextInt(14);
            for (int i = 0; i < deep; i++) {
                put("(");
            }
            exp(kind, Math.min(budget, 1), send);
            for (int i = 0; i < deep; i++) {
                put(")");
            }
            return;
        }
        if (chance.nextInt(6) == 0) {
            put("(");
            exp(kind, budget, send);
            put(")");
            return;
        }
        if (budget == 0 || chance.nextInt(4) == 0) {
            leaf(kind, send);
            return;
        }
        if (chance.nextInt(10) == 0) {
            put("if", "(");
            exp('b', budget - 1, send);
            put(",");
            exp(kind, budget - 1, send);
            put(",");
            exp(kind, budget - 1, send);
            put(")");
            return;
        }
        if (kind == 'i') {
            intExp(budget - 1, send);
        } else {
            boolExp(budget - 1, send);
        }
    }

    /** An operand: mostly within ( ), since else the signs around it may take it to pieces. */
    private void part(char kind, int budget, boolean send) {
        boolean around = chance.nextInt(5) > 0;
        if (around) {
            put("(");
        }
        exp(kind, budget, send);
        if (around) {
            put(")");
        }
    }

    private void intExp(int budget, boolean send) {
        int which = chance.nextInt(14);
        if (which == 0) {
            put("draw", "(");
            exp('i', Math.max(budget - 1, 0), send);
            put(")");
        } else if (which < 3) {
            put("-");
            part('i', budget, send);
        } else {
            part('i', budget, send);
            put(chance.nextInt(9) == 0 ? (chance.nextBoolean() ? "/" : "%") : "+-*".substring(which % 3, which % 3 + 1));
            part('i', budget, send);
        }
    }

    private void boolExp(int budget, boolean send) {
        switch (chance.nextInt(7)) {
            case 0:
                put("!");
                part('b', budget, send);
                break;
            case 1:
            case 2:
                part('b', budget, send);
                put("&&");
                part('b', budget, send);
                break;
            case 3:
                part('b', budget, send);
                put("||");
                part('b', budget, send);
                break;
            case 4:
                part('b', budget, send);
                put(chance.nextBoolean() ? "==" : "!=");
                part('b', budget, send);
                break;
            default:
                part('i', budget, send);
                put(new String[] {"==", "!=", "<", "<=", ">", ">="}[chance.nextInt(6)]);
                part('i', budget, send);
                break;
        }
    }

    private void leaf(char kind, boolean send) {
        if (slips() && chance.nextInt(4) == 0) {
            put("unknown");
            return;
        }
        int which = chance.nextInt(8);
        Known named = pick("nlfg", kind);
        if (which < 4 && named != null) {
            put(named.name);
            return;
        }
        if (kind == 'b') {
            Known fold = pick("f", '?');
            if (which < 6 && fold != null) {
                put("has", fold.name);
            } else {
                put(chance.nextBoolean() ? "true" : "false");
            }
            return;
        }
        Known column = pick("c", '?');
        if (which < 6 && column != null && (send || slips())) {
            put("arc", ".", column.name);
            return;
        }
        String[] plain = {"id", "turn", "nodes", "degree", "indegree"};
        put(chance.nextBoolean() ? number() : plain[chance.nextInt(plain.length)]);
    }

    private void spoil() {
        int some = 1 + chance.nextInt(2);
        for (int i = 0; i < some && !tokens.isEmpty(); i++) {
            int at = chance.nextInt(tokens.size());
            String spoilt = SPOILS[chance.nextInt(SPOILS.length)];
            switch (chance.nextInt(4)) {
                case 0:
                    tokens.remove(at);
                    break;
                case 1:
                    tokens.add(at, spoilt);
                    break;
                case 2:
                    tokens.set(at, spoilt);
                    break;
                default:
                    tokens.set(at, tokens.get(chance.nextInt(tokens.size())));
                    break;
            }
        }
    }

    /** The TOKENS as a text, with blanks, lines and comments by chance. */
    String spell(List<String> some) {
        StringBuilder out = new StringBuilder();
        for (String one : some) {
            boolean joins = out.length() > 0 && isWordPart(out.charAt(out.length() - 1)) && isWordPart(one.charAt(0));
            switch (chance.nextInt(12)) {
                case 0:
                    out.append('\n');
                    break;
                case 1:
                    out.append("# ( halt \u00ff\t#\n");
                    break;
                case 2:
                    out.append("  \n ");
                    break;
                case 3:
                case 4:
                    out.append(joins ? " " : "");
                    break;
                default:
                    out.append(' ');
                    break;
            }
            out.append(one);
        }
        return out.append(chance.nextBoolean() ? " \n" : "").toString();
    }

    private static boolean isWordPart(char c) {
        return Character.isLetterOrDigit(c);
    }
}

import java.nio.file.Files;
import java.nio.file.Path;
import java.util.ArrayList;
import java.util.Arrays;
import java.util.HashSet;
import java.util.List;
import java.util.Set;
import java.util.regex.Matcher;
import java.util.regex.Pattern;

/** What of LANGUAGE.md can be seen in the text of the class itself. It is run from the project's root. */
public final class LanguageTest {
    private static final String[] BANNED = {"throw", "throws", "try", "catch", "finally", "synchronized", "assert", "double",
        "float", "var", "yield", "native", "protected", "volatile", "transient"};
    private static final Set<String> LIBRARY = new HashSet<>(Arrays.asList("Arrays", "System", "Math", "String"));

    public static void main(String[] args) throws Exception {
        String source = Files.readString(Path.of("src/main/java/VertexLanguage.java"));
        String code = source.replaceAll("(?s)/\\*.*?\\*/", "").replaceAll("//[^\n]*", "").replaceAll("\"[^\"\n]*\"", "\"\"")
            .replaceAll("'[^']'", "'c'");
        for (String word : BANNED) {
            Desk.due("the word " + word, Pattern.compile("\\b" + word + "\\b").matcher(code).find(), false);
        }
        Desk.due("a lambda", code.contains("->"), false);
        Desk.due("a method reference", code.contains("::"), false);
        Desk.due("a package", code.contains("package "), false);
        Desk.due("texts joined by +", Pattern.compile("\"\\s*\\+|\\+\\s*\"").matcher(code).find(), false);
        imports(code);
        classes(code);
        methods(code);
        Desk.close();
    }

    private static void imports(String code) {
        Matcher matcher = Pattern.compile("import ([^;]*);").matcher(code);
        while (matcher.find()) {
            Desk.due("import " + matcher.group(1), matcher.group(1), "java.util.Arrays");
        }
        Matcher used = Pattern.compile("\\b([A-Z][a-z][A-Za-z]*)\\.[a-z]").matcher(code.replaceAll("import [^;]*;", ""));
        while (used.find()) {
            String name = used.group(1);
            Desk.due("the class " + name, LIBRARY.contains(name) || code.contains("class " + name + " "), true);
        }
    }

    private static void classes(String code) {
        int classes = 0;
        Matcher matcher = Pattern.compile("(?m)^ *(.*)\\bclass (\\w+) \\{").matcher(code);
        while (matcher.find()) {
            classes++;
            String kind = matcher.group(1).trim();
            Desk.due("class " + matcher.group(2), kind.equals("public final") || kind.equals("private static final"), true);
        }
        Desk.due("classes: " + classes + ", at most twelve", classes <= 12, true);
    }

    /** Every method: its parameters, its lines, and that none inside bears the name of a public one. */
    private static void methods(String code) {
        Set<String> face = new HashSet<>();
        List<String> others = new ArrayList<>();
        String[] lines = code.split("\n");
        Pattern head = Pattern.compile("^ +((?:public |private |static |final )*)(?:[\\w\\[\\]]+ )?(\\w+)\\(([^()]*)\\) \\{$");
        for (int i = 0; i < lines.length; i++) {
            Matcher matcher = head.matcher(lines[i]);
            if (!matcher.matches() || lines[i].matches(" *(if|for|while|switch|else|return) .*")) {
                continue;
            }
            String indent = lines[i].substring(0, lines[i].indexOf(lines[i].trim()));
            int end = i;
            while (end < lines.length && !lines[end].equals(indent + "}")) {
                end++;
            }
            String name = matcher.group(2);
            Desk.due(name + " has " + (end - i - 1) + " lines, at most sixty", end - i - 1 <= 60, true);
            Desk.due(name + " has at most seven parameters", matcher.group(3).split(",").length <= 7, true);
            if (matcher.group(1).startsWith("public")) {
                face.add(name);
            } else {
                others.add(name);
            }
        }
        Desk.due("public methods, and the constructor", face.size(), 20);
        for (String name : others) {
            Desk.due("a public method is called " + name + " too", face.contains(name), false);
        }
    }
}

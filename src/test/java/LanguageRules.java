import java.io.IOException;
import java.nio.file.Files;
import java.nio.file.Path;
import java.util.ArrayList;
import java.util.List;
import java.util.regex.Matcher;
import java.util.regex.Pattern;

/** The rules of LANGUAGE.md that the program's text shows by itself. */
public final class LanguageRules {
    private static final Path PROGRAM = Path.of("src/main/java/HillSchool.java");
    private static final int MOST_LINES = 65;
    private static final int MOST_PARAMETERS = 7;
    private static final int MOST_CLASSES = 12;
    private static final int MOST_FIELDS = 20;
    private static int wrong = 0;

    private static void fault(int line, String why) {
        wrong++;
        System.out.println(PROGRAM + ":" + line + ": " + why);
    }

    private static void never(List<String> code, String pattern, String why) {
        Pattern never = Pattern.compile(pattern);
        for (int i = 0; i < code.size(); i++) {
            if (never.matcher(code.get(i)).find()) {
                fault(i + 1, why);
            }
        }
    }

    /** The lines without comments and without what stands in quotes. */
    private static List<String> code(List<String> lines) {
        List<String> code = new ArrayList<>();
        boolean comment = false;
        for (String line : lines) {
            String rest = line.replaceAll("'[^']*'", "' '").replaceAll("\"[^\"]*\"", "\"\"").replaceAll("//.*", "");
            rest = rest.replaceAll("/\\*.*?\\*/", "");
            if (comment) {
                comment = !rest.contains("*/");
                rest = comment ? "" : rest.substring(rest.indexOf("*/") + 2);
            }
            if (rest.contains("/*")) {
                comment = true;
                rest = rest.substring(0, rest.indexOf("/*"));
            }
            code.add(rest);
        }
        return code;
    }

    private static void words(List<String> code) {
        never(code, "\\b(throw|throws|try|catch|finally|synchronized|assert|package|native|volatile)\\b", "rule 6");
        never(code, "->|::", "rule 2: a lambda, a method reference");
        never(code, "\\b(equals|hashCode|toString)\\b", "rule 6: of own objects");
        never(code, "\\w+Exact\\b", "rule 4");
        never(code, "\\b(Integer|Long|Math)\\.[A-Z]", "rule 4: a constant that is not listed");
        never(code, "\\bSystem\\.(?!arraycopy\\b)", "rule 4");
        never(code, "\\bArrays\\.(?!copyOf\\b|copyOfRange\\b|fill\\b)", "rule 4");
        never(code, "\\bimport (?!java\\.util\\.(Arrays|ArrayList|List|Iterator);)", "rule 4");
        never(code, "\\[\\]\\[\\]\\[\\]", "rule 3");
        never(code, "\\bstatic (?!final\\b|\\w+(\\[\\])? \\w+\\()", "rule 5");
        never(code, "static \\{", "rule 5");
        never(code, "\\bprotected\\b", "rule 1");
        never(code, "^    (?!private\\b|public\\b|\\}|$| |@)\\S", "rule 1: a member that is not private");
        never(code, "^ {8,}(private |static )*\\b(class|interface|record|enum)\\b", "rule 2");
        never(code, "\"\" \\+|\\+ \"\"", "rule 10");
    }

    private static boolean callsItself(List<String> body, String name) {
        Pattern call = Pattern.compile("(?<![.\\w])" + name + "\\(");
        return body.stream().anyMatch(line -> call.matcher(line).find());
    }

    private static void methods(List<String> code) {
        Pattern head = Pattern.compile("^( {4}| {8})((?:private |public |static |final )*)([\\w\\[\\]]+ )?(\\w+)\\(([^)]*)\\) \\{");
        List<String> face = new ArrayList<>();
        List<String> others = new ArrayList<>();
        for (int i = 0; i < code.size(); i++) {
            Matcher found = head.matcher(code.get(i));
            if (!found.find()) {
                continue;
            }
            (found.group(2).contains("public ") ? face : others).add(found.group(4));
            if (found.group(5).split(",").length > MOST_PARAMETERS) {
                fault(i + 1, "rule 11: parameters");
            }
            int end = i;
            while (!code.get(end).equals(found.group(1) + "}")) {
                end++;
            }
            if (end - i + 1 > MOST_LINES) {
                fault(i + 1, "rule 11: a long method");
            }
            if (!found.group(2).contains("static ") && callsItself(code.subList(i + 1, end), found.group(4))) {
                fault(i + 1, "rule 8: only a static method calls itself");
            }
        }
        for (String name : others) {
            if (face.contains(name) && !name.equals("HillSchool")) {
                fault(1, "rule 1: " + name + " is the name of a public method");
            }
        }
        if (face.size() != 1 + 38) {
            fault(1, "rule 1: " + face.size() + " public methods");
        }
    }

    private static void classes(List<String> code) {
        int classes = 0;
        int fields = 0;
        for (int i = 0; i < code.size(); i++) {
            if (code.get(i).matches(".*\\b(class|interface|record|enum) \\w+.*\\{")) {
                classes++;
                fields = 0;
            }
            if (code.get(i).matches("^( {4}| {8})private (?!static)[^(]*(=.*|;)")) {
                fields++;
                if (fields > MOST_FIELDS) {
                    fault(i + 1, "rule 11: fields");
                }
            }
        }
        if (classes > MOST_CLASSES) {
            fault(1, "rule 11: " + classes + " classes");
        }
    }

    public static void main(String[] args) throws IOException {
        List<String> lines = Files.readAllLines(PROGRAM);
        List<String> code = code(lines);
        words(code);
        methods(code);
        classes(code);
        System.out.println(wrong == 0 ? "the program keeps to the rules that were looked at" : wrong + " faults");
        if (wrong != 0) {
            System.exit(1);
        }
    }
}

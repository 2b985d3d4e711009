import java.nio.file.Files;
import java.nio.file.Path;
import java.util.ArrayList;
import java.util.List;
import java.util.regex.Matcher;
import java.util.regex.Pattern;

/** The rules of LANGUAGE.md that can be seen in the program's text. It runs in the project's directory. */
public final class LanguageTest {
    private static final Path PROGRAM = Path.of("src", "main", "java", "SignetRoom.java");
    private static final Pattern HEAD =
            Pattern.compile("( +)(?:public|private) (static )?(?:[\\w\\[\\]]+ )?(\\w+)\\(([^)]*)\\).*");

    private record Part(String name, boolean isStatic, int parameters, List<String> body) {
        boolean callsItself() {
            Pattern call = Pattern.compile("(?<![\\w.])" + name + "\\(");
            return body.stream().anyMatch(line -> call.matcher(line).find());
        }
    }

    private final Check check = new Check();

    public static void main(String[] args) throws Exception {
        List<String> lines = Files.readAllLines(PROGRAM);
        LanguageTest test = new LanguageTest();
        test.methodsKeepToTheRules(methodsOf(lines));
        test.wordsKeepToTheRules(lines);
        test.check.end();
    }

    /** A method ends where a brace stands as far in as its head. */
    private static List<Part> methodsOf(List<String> lines) {
        List<Part> methods = new ArrayList<>();
        for (int i = 0; i < lines.size(); i++) {
            Matcher head = HEAD.matcher(lines.get(i));
            if (head.matches()) {
                String end = head.group(1) + "}";
                int last = i + lines.subList(i, lines.size()).indexOf(end);
                String given = head.group(4);
                int parameters = given.isEmpty() ? 0 : given.split(",").length;
                List<String> body = lines.subList(i + 1, last + 1);
                methods.add(new Part(head.group(3), head.group(2) != null, parameters, body));
            }
        }
        return methods;
    }

    private void methodsKeepToTheRules(List<Part> methods) {
        check.topic("methods");
        check.same("the methods are found", methods.size() >= 28, true);
        for (Part method : methods) {
            check.same(method.name + ", rule 8: calls itself and is of an object",
                    method.callsItself() && !method.isStatic, false);
            check.same(method.name + ", rule 11: is long", method.body.size() > 60, false);
            check.same(method.name + ", rule 11: has many parameters", method.parameters > 7, false);
        }
        check.same("a method that calls itself is found", methods.stream().anyMatch(Part::callsItself), true);
    }

    private void wordsKeepToTheRules(List<String> lines) {
        check.topic("words");
        Pattern thrown = Pattern.compile("throw (?!new (IllegalState|IllegalArgument|IndexOutOfBounds)"
                + "Exception\\(\"[^\"]*\"\\);)");
        for (String line : lines) {
            String code = line.replaceAll("^ *(//|/\\*\\*|\\*).*", "");
            check.same("rule 1, a package or another class is named: " + line,
                    code.matches("(package|import)\\b.*"), false);
            check.same("rule 2, a lambda or a method reference: " + line,
                    code.contains("->") || code.contains("::"), false);
            check.same("rule 3, a sign above 127: " + line, line.chars().anyMatch(sign -> sign > 127), false);
            check.same("rule 6, another throw: " + line, thrown.matcher(code).find(), false);
            check.same("rule 6, a word that is not used: " + line,
                    code.matches(".*\\b(try|catch|finally|synchronized|assert)\\b.*"), false);
        }
    }
}

import java.io.IOException;
import java.nio.file.Files;
import java.nio.file.Path;
import java.util.regex.Matcher;
import java.util.regex.Pattern;

/** Words and signs that LANGUAGE.md rules out do not stand in the program. */
public final class LanguageTest {
    private static final String[] FORBIDDEN = {
        "\\bpackage\\b", "\\bimport\\b", "\\bthrow\\b", "\\bthrows\\b", "\\btry\\b", "\\bcatch\\b", "\\bfinally\\b",
        "\\bsynchronized\\b", "\\bassert\\b", "\\bvolatile\\b", "\\bnative\\b", "\\btransient\\b", "\\bprotected\\b",
        "->", "::", "@", "\\bhashCode\\b", "\\btoString\\b", "\\bequals\\b", "\\w+Exact\\b", "\\bvar\\b",
        "\\bSystem\\b(?!\\.arraycopy)", "\\bThread\\b", "\\bRandom\\b", "\\bObject\\b", "\\bHashMap\\b",
        "\\bgetClass\\b", "\\bidentityHashCode\\b", "\\bException\\b", "\\bstatic\\s*\\{", "java\\.", "\"",
    };
    private static final int LONGEST_METHOD = 60, MOST_PARAMETERS = 7;

    private final Check check = new Check("LanguageTest");
    private final String code;

    private LanguageTest(String code) {
        this.code = code;
    }

    public static void main(String[] args) throws IOException {
        Path source = Path.of(args.length > 0 ? args[0] : "src/main/java/PropStore.java");
        String text = Files.readString(source);
        LanguageTest test = new LanguageTest(withoutComments(text));
        test.charactersAreSmall(text);
        test.forbiddenWords();
        test.methodsAreShort();
        test.parametersAreFew();
        test.check.end();
    }

    private static String withoutComments(String text) {
        return Pattern.compile("/\\*.*?\\*/|//[^\n]*", Pattern.DOTALL).matcher(text).replaceAll(" ");
    }

    private void charactersAreSmall(String text) {
        for (int k = 0; k < text.length(); k++) {
            check.that("a character above 255 at " + k, text.charAt(k) <= 255);
        }
    }

    private void forbiddenWords() {
        for (String pattern : FORBIDDEN) {
            Matcher matcher = Pattern.compile(pattern).matcher(code);
            while (matcher.find()) {
                check.that("'" + matcher.group() + "' stands in the program", false);
            }
        }
    }

    private void methodsAreShort() {
        Matcher matcher = Pattern.compile("\n( +)[\\w\\[\\] ]+\\([\\w\\[\\], ]*\\) \\{\n(.*?)\n\\1\\}", Pattern.DOTALL).matcher(code);
        int methods = 0;
        while (matcher.find()) {
            methods++;
            long lines = matcher.group(2).lines().count();
            check.that("a method of " + lines + " lines:" + matcher.group(), lines <= LONGEST_METHOD);
        }
        check.that("only " + methods + " methods were seen", methods > 30);
    }

    private void parametersAreFew() {
        Matcher matcher = Pattern.compile("\\(([^()]*)\\) \\{").matcher(code);
        while (matcher.find()) {
            int parameters = matcher.group(1).split(",").length;
            check.that("many parameters: " + matcher.group(), parameters <= MOST_PARAMETERS);
        }
    }
}

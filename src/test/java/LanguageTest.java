import java.io.IOException;
import java.nio.file.Files;
import java.nio.file.Path;
import java.util.regex.Matcher;
import java.util.regex.Pattern;

/** What of LANGUAGE.md can be seen in the text of the class, where the compiler would not mind. */
public final class LanguageTest {
    private static final String[] BARRED = {
        "import", "package", "throw", "catch", "finally", "synchronized", "assert", "->", "::", "instanceof",
        "hashCode", "equals", "toString", "double", "float", "native", "volatile", "protected", "static {", "var ",
        "System.out", "System.in", "System.nano", "System.current", "Exact", "Random", "Thread", "record", "yield"};
    private static final String[] STATICS = {"Integer.bitCount", "Long.bitCount", "System.arraycopy"};
    private static int wrong = 0;

    private static void check(boolean good, String what) {
        if (!good) {
            wrong++;
            System.out.println(what);
        }
    }

    private static String withoutComments(String text) {
        return text.replaceAll("(?s)/\\*.*?\\*/", "").replaceAll("//[^\n]*", "");
    }

    private static void barredWords(String code) {
        for (String word : BARRED) {
            String quoted = Pattern.quote(word);
            boolean isName = Character.isLetter(word.charAt(0)) && Character.isLetter(word.charAt(word.length() - 1));
            Matcher m = Pattern.compile(isName && !word.equals("Exact") ? "\\b" + quoted + "\\b" : quoted).matcher(code);
            check(!m.find(), "the text has " + word);
        }
        Matcher calls = Pattern.compile("\\b(Integer|Long|Math|System|Arrays)\\.(\\w+)").matcher(code);
        while (calls.find()) {
            boolean known = false;
            for (String s : STATICS) known = known || s.equals(calls.group());
            check(known, calls.group() + " is not among the calls that are in use");
        }
    }

    /** A method begins with a line that has ( and ends in { one level inside a class; it ends with its brace. */
    private static void methodLengths(String[] lines) {
        Pattern head = Pattern.compile("^( {4}| {8})(?!if|for|while|switch|else|\\s)[\\w\\[\\]<> ]*\\w\\((.*)\\) \\{$");
        for (int i = 0; i < lines.length; i++) {
            Matcher m = head.matcher(lines[i]);
            if (!m.matches() || m.group(1).length() == 8 && lines[i].trim().matches("(if|for|while|switch|else|\\}).*")) continue;
            String params = m.group(2).trim();
            check(params.isEmpty() || params.split(",").length <= 7, "more than seven parameters: " + lines[i]);
            int end = i;
            while (end < lines.length && !lines[end].equals(m.group(1) + "}")) end++;
            check(end - i + 1 <= 60, (end - i + 1) + " lines: " + lines[i]);
        }
    }

    public static void main(String[] args) throws IOException {
        String text = Files.readString(Path.of("src/main/java/WishLamp.java"));
        String code = withoutComments(text);
        for (char c : text.toCharArray()) check(c == '\n' || c >= 32 && c <= 126, "a sign with the code " + (int) c);
        barredWords(code);
        methodLengths(text.split("\n"));
        int classes = code.split("\\bclass\\b", -1).length - 1;
        check(classes <= 12, classes + " classes");
        int rooms = code.split("\\bnew \\w", -1).length - 1;
        check(!Pattern.compile("\\bnew \\w+\\[[a-z]").matcher(code).find(), "a length that is no constant");
        System.out.println(wrong == 0 ? "the text is within the rules looked at (" + rooms + " times new)" : wrong + " faults in the text");
        if (wrong != 0) System.exit(1);
    }
}

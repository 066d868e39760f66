import java.io.IOException;
import java.nio.file.Files;
import java.nio.file.Path;
import java.util.regex.Matcher;
import java.util.regex.Pattern;

/** Those rules of ../shared/LANGUAGE.md that can be seen from the text of the class alone. */
public final class LanguageTest {
    private static final String[] FORBIDDEN = {
        "->", "::", "\\bassert\\b", "\\bsynchronized\\b", "\\bfinally\\b", "\\btry\\b", "\\bcatch\\b",
        "\\bpackage\\b", "\\bprotected\\b", "\\bstatic\\s*\\{", "\\bextends\\b", "\\bhashCode\\b", "\\btoString\\b",
        "\\bdouble\\b", "\\bfloat\\b", "\\bMath\\.random\\b", "Exact\\(", "\\bSystem\\.(?!arraycopy)", "\\bnull\\b",
    };

    public static void main(String[] args) throws IOException {
        String source = Files.readString(Path.of("src/main/java/SealedWire.java"));
        String code = source.replaceAll("(?s)/\\*.*?\\*/", "").replaceAll("//[^\n]*", "");
        for (String pattern : FORBIDDEN) {
            Kit.same("there is no " + pattern, Pattern.compile(pattern).matcher(code).find(), false);
        }
        Matcher imports = Pattern.compile("import ([\\w.*]+);").matcher(code);
        while (imports.find()) {
            String name = imports.group(1);
            Kit.same(name + " may be imported",
                    name.equals("java.util.Arrays") || name.equals("java.util.NoSuchElementException"), true);
        }
        Matcher statics = Pattern.compile("\\bstatic (?!final\\b)[^(;{]*[=;]").matcher(code);
        Kit.same("static fields are final", statics.find(), false);
        int classes = 0;
        Matcher found = Pattern.compile("\\bclass \\w+").matcher(code);
        while (found.find()) {
            classes++;
        }
        Kit.same("at most twelve classes", classes <= 12, true);
        lengths(code);
        Kit.finish();
    }

    /** A method of a class inside stands between two lines with eight blanks, one of the face with four. */
    private static void lengths(String code) {
        String[] lines = code.split("\n");
        for (int i = 0; i < lines.length; i++) {
            Matcher method = Pattern.compile("^( {4}| {8})[\\w].*\\).*\\{$").matcher(lines[i]);
            if (method.find()) {
                String close = method.group(1) + "}";
                int last = i;
                while (last < lines.length - 1 && !lines[last].equals(close)) {
                    last++;
                }
                Kit.same("the method of '" + lines[i].trim() + "' is short", last - i <= 60, true);
                Kit.same("'" + lines[i].trim() + "' has few parameters", lines[i].split(",").length <= 7, true);
            }
        }
    }
}

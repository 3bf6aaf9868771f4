import java.io.IOException;
import java.nio.file.Files;
import java.nio.file.Path;
import java.util.regex.Matcher;
import java.util.regex.Pattern;

/** The rules of LANGUAGE.md that the source's text can tell; run from the project's folder. */
public final class LanguageTest {
  public static void main(String[] args) throws IOException {
    String source = Files.readString(Path.of("src/main/java/MarbleWorks.java"));
    String code = withoutCommentsAndTexts(source);
    Works.due("signs 10, 32 .. 126 alone", source.chars().allMatch(c -> c == 10 || c >= 32 && c < 127), true);
    for (String word : new String[] {"->", "::", "finally", "synchronized", "assert", "volatile", "transient", "native", "Exact", "HashMap",
      "Object", "instanceof", "double", "float", "Iterator", "System.out", "currentTime", "nanoTime", "Random", "Thread", "catch", "package",
      "hashCode", "toString", "equals", "protected", "@", "while (true)", "for (;;)", "String.", "StringBuilder"}) {
      Works.due("has " + word, code.contains(word), false);
    }
    Works.due("a static block", Pattern.compile("static\\s*\\{").matcher(code).find(), false);
    Works.due("texts joined by +", Pattern.compile("\"\"\\s*\\+|\\+\\s*\"\"").matcher(code).find(), false);
    Matcher imports = Pattern.compile("import ([^;]*);").matcher(code);
    while (imports.find()) {
      Works.due("import " + imports.group(1), imports.group(1).matches("java.util.(Arrays|NoSuchElementException)"), true);
    }
    Matcher statics = Pattern.compile("\\bstatic\\b(?! final| boolean \\w+\\(| int \\w+\\()").matcher(code);
    Works.due("static, but not final", statics.find(), false);
    Matcher calls = Pattern.compile("\\b(Arrays|System|Math|Integer|Long)\\.(\\w+)").matcher(code);
    while (calls.find()) {
      Works.due(calls.group(), calls.group().matches("Arrays.fill|System.arraycopy|Math.(min|max)"), true);
    }
    Matcher throwing = Pattern.compile("throw [^;]*;").matcher(code);
    while (throwing.find()) {
      Works.due(throwing.group(), throwing.group().equals("throw new NoSuchElementException();"), true);
    }
    methods(code);
    Works.end("LanguageTest");
  }

  private static void methods(String code) {
    Matcher m = Pattern.compile("(?m)^( {4}| {8})(?=[A-Za-z])(?!if|for|while|switch)[\\w\\[\\] ]+\\(([^)]*)\\)[\\w ]*\\{\\n").matcher(code);
    int found = 0;
    while (m.find()) {
      int end = code.indexOf("\n" + m.group(1) + "}\n", m.start());
      String body = code.substring(m.start(), end);
      String head = body.substring(0, body.indexOf('\n')).trim();
      Works.due(head + " has at most 60 lines", body.lines().count() <= 60, true);
      Works.due(head + " takes at most 7", m.group(2).split(",").length <= 7, true);
      boolean makes = head.startsWith("public MarbleWorks") || head.matches("[A-Z]\\w*\\(.*");
      Works.due(head + " makes nothing", !makes && body.replace("throw new", "").contains("new "), false);
      found++;
    }
    Works.due("methods were found", found > 80, true);
  }

  private static String withoutCommentsAndTexts(String source) {
    return source.replaceAll("(?s)/\\*.*?\\*/", "").replaceAll("//[^\n]*", "").replaceAll("\"[^\"\n]*\"", "\"\"");
  }
}

import java.io.IOException;
import java.nio.file.Files;
import java.nio.file.Path;
import java.util.List;
import java.util.regex.Matcher;
import java.util.regex.Pattern;

/** Each sentence of the document's Terms and Promises is quoted by a test of its edges; run from the project's folder. */
public final class DocumentTest {
  private static final String TEXT = "\"(?:[^\"\\\\]|\\\\.)*\"";
  private static final List<String> TESTS = List.of("BoardEdgesTest", "ProgramEdgesTest", "RunEdgesTest", "SearchEdgesTest");

  public static void main(String[] args) throws IOException {
    String document = Files.readString(Path.of("../shared/DOC.md"));
    String told = document.substring(document.indexOf("## Terms"), document.indexOf("## Not promised"));
    // headings, fences and what a promise's call looks like are no sentences
    told = told.replaceAll("(?m)^##.*$|^```.*$", "").replaceAll("(?m)^`[^`]*`: ", "").replaceAll("==== \\d\\.( [A-Z]+\\.)?", "").replaceAll("\\s+", " ");
    boolean[] quoted = new boolean[told.length()];
    int quotes = 0;
    for (String test : TESTS) {
      Matcher says = Pattern.compile("says\\((" + TEXT + "(?:\\s*\\+\\s*" + TEXT + ")*)\\)").matcher(Files.readString(Path.of("src/test/java/" + test + ".java")));
      while (says.find()) {
        mark(told, says.group(1).replaceAll("\"\\s*\\+\\s*\"", "").replaceAll("^\"|\"$", "").replaceAll("^`[^`]*`: ", ""), quoted);
        quotes++;
      }
    }
    Works.due("quotes were found", quotes > 80, true);
    StringBuilder rest = new StringBuilder();
    for (int i = 0; i < told.length(); i++) {
      rest.append(quoted[i] ? '|' : told.charAt(i));
    }
    for (String piece : rest.toString().split("\\|+")) {
      Works.due("quoted by no test: " + piece, piece.matches("[ ,]*"), true);
    }
    Works.end("DocumentTest");
  }

  private static void mark(String told, String quote, boolean[] quoted) {
    for (int at = told.indexOf(quote); at >= 0; at = told.indexOf(quote, at + 1)) {
      for (int i = 0; i < quote.length(); i++) {
        quoted[at + i] = true;
      }
    }
  }
}

import java.io.IOException;
import java.nio.file.Files;
import java.nio.file.Path;
import java.util.regex.Matcher;
import java.util.regex.Pattern;

/** Rules of ../shared/LANGUAGE.md that can be seen in the class's text. */
public final class LanguageTest {
  private static final String[] RULED_OUT = {
    "\\bpackage\\b", "\\bimport\\b", "->", "::", "\\bsynchronized\\b", "\\bassert\\b", "\\bfinally\\b",
    "\\bstatic \\{", "\\binstanceof\\b", "\\bString\\b", "\\.class\\b", "\\bextends (RuntimeException|Exception)",
    "catch \\((Exception|RuntimeException|Throwable|Error|ArithmeticException|\\w*IndexOutOfBounds\\w*"
        + "|NullPointerException|ClassCastException|NegativeArraySizeException|ArrayStoreException)\\b",
    "throw (?!new (IllegalStateException|IllegalArgumentException|UnsupportedOperationException)\\(\"[^\"]*\"\\);)",
    "\\bstatic (?!final\\b|class\\b)(int|long|boolean|char|byte|short)\\b\\S* \\w+( =|;)",
  };

  public static void main(String[] args) throws IOException {
    String source = Files.readString(Path.of("src/main/java/KnocksThroughRock.java"));
    Due.is("signs beyond 127", source.chars().filter(c -> c > 127).count(), 0);
    String code = source.replaceAll("(?s)/\\*.*?\\*/", "").replaceAll("//[^\n]*", "");
    for (String ruledOut : RULED_OUT) {
      Matcher m = Pattern.compile(ruledOut).matcher(code);
      boolean isThere = m.find();
      Due.is(ruledOut + (isThere ? " at " + m.group() : ""), isThere ? 1 : 0, 0);
    }
    int classes = 0;
    Matcher m = Pattern.compile("\\b(class|enum|record|interface) \\w+").matcher(code);
    while (m.find()) {
      classes++;
    }
    Due.is("at most some twelve classes: " + classes, classes <= 12 ? 1 : 0, 1);
    Due.end();
  }
}

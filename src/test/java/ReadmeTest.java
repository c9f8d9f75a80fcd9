import java.io.File;
import java.io.IOException;
import java.lang.reflect.Method;
import java.nio.file.Files;
import java.nio.file.Path;
import java.util.Set;
import java.util.TreeSet;
import java.util.regex.Matcher;
import java.util.regex.Pattern;
import java.util.stream.Stream;

/** README.md: its lines of Java answer what it says, and it names every call and every test. */
public final class ReadmeTest {
  private static final Pattern BLOCK = Pattern.compile("(?s)```java\n(.*?)```");
  private static final Pattern ANSWERED = Pattern.compile("(x\\.\\w+\\(.*\\)); +// (-?\\d+)(:.*)?");
  private static final Pattern THROWN = Pattern.compile("(x\\.\\w+\\(.*\\)); +// throws (\\w+)(:.*)?");
  private static final int LINES_AT_LEAST = 60;

  public static void main(String[] args) throws Exception {
    String readme = Files.readString(Path.of("README.md"));
    namesEveryCall(readme);
    namesEveryTest(readme);
    Due.is("README tells the command", readme.contains("```\n.ci/run\n```") ? 1 : 0, 1);
    Due.is("it can be run", Files.isExecutable(Path.of(".ci/run")) ? 1 : 0, 1);
    linesAnswer(program(readme));
    Due.end();
  }

  private static void namesEveryCall(String readme) {
    String java = blocks(readme);
    for (Method m : KnocksThroughRock.class.getMethods()) {
      if (m.getDeclaringClass() == KnocksThroughRock.class) {
        Due.is("README shows " + m.getName(), java.contains("x." + m.getName() + "(") ? 1 : 0, 1);
      }
    }
  }

  private static void namesEveryTest(String readme) throws IOException {
    Set<String> there = new TreeSet<>();
    try (Stream<Path> files = Files.list(Path.of("src/test/java"))) {
      files.map(file -> file.getFileName().toString()).filter(name -> name.endsWith("Test.java"))
          .forEach(name -> there.add(name.replace(".java", "")));
    }
    Set<String> named = new TreeSet<>();
    Matcher m = Pattern.compile("(?m)^\\| `(\\w+)` \\|").matcher(readme);
    while (m.find()) {
      named.add(m.group(1));
    }
    Due.is("tests there " + there + ", named " + named, there.equals(named) ? 1 : 0, 1);
  }

  private static String blocks(String readme) {
    StringBuilder java = new StringBuilder();
    Matcher m = BLOCK.matcher(readme);
    while (m.find()) {
      java.append(m.group(1));
    }
    return java.toString();
  }

  /** README's lines as a test of their own: each answer is compared with what stands behind it. */
  private static String program(String readme) {
    StringBuilder program = new StringBuilder("class ReadmeLines { public static void main(String[] args) {\n");
    int compared = 0;
    for (String line : blocks(readme).split("\n")) {
      Matcher answered = ANSWERED.matcher(line);
      Matcher thrown = THROWN.matcher(line);
      if (answered.matches()) {
        program.append(compares(answered.group(1), answered.group(2)));
        compared++;
      } else if (thrown.matches()) {
        program.append(catches(thrown.group(1), thrown.group(2)));
        compared++;
      } else {
        Due.is("an answer that isn't compared: " + line, line.contains("//") ? 1 : 0, 0);
        program.append(line).append('\n');
      }
    }
    Due.is("so many lines are compared: " + compared, compared >= LINES_AT_LEAST ? 1 : 0, 1);
    return program.append("Due.end();\n}}\n").toString();
  }

  private static String compares(String call, String answer) {
    return "Due.is(\"README: " + call + "\", " + call + ", " + answer + ");\n";
  }

  private static String catches(String call, String thrown) {
    return "try { " + call + "; Due.is(\"README: thrown by " + call + "\", 0, 1); }\n"
        + "catch (RuntimeException e) { Due.is(\"README: thrown by " + call + "\", e.getClass() == "
        + thrown + ".class ? 1 : 0, 1); }\n";
  }

  private static void linesAnswer(String program) throws Exception {
    Path room = Files.createTempDirectory("readme");
    Path source = Files.writeString(room.resolve("ReadmeLines.java"), program);
    String classes = System.getProperty("java.class.path");
    Due.is("README's lines compiled", ends("javac", "-cp", classes, "-d", room.toString(), source.toString()), 0);
    Due.is("README's lines run", ends("java", "-cp", classes + File.pathSeparator + room, "ReadmeLines"), 0);
    Files.deleteIfExists(source);
    Files.deleteIfExists(room.resolve("ReadmeLines.class"));
    Files.deleteIfExists(room);
  }

  private static int ends(String... command) throws Exception {
    return new ProcessBuilder(command).inheritIO().start().waitFor();
  }
}

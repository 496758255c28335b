import java.io.IOException;
import java.lang.reflect.Method;
import java.nio.file.Files;
import java.nio.file.Path;
import java.util.Set;
import java.util.TreeSet;
import java.util.regex.Matcher;
import java.util.regex.Pattern;
import java.util.stream.Stream;

/** What README.md shows is true: each call answers what stands behind it; nothing is left out. */
public final class ReadmeTest {
  private static final Check check = new Check("ReadmeTest");

  public static void main(String[] args) throws Exception {
    String readme = Files.readString(Path.of("README.md"));
    examples(readme);
    calls(section(readme, "### The calls"));
    tests(section(readme, "## How to run the tests"));
    classes(section(readme, "## How it is built"));
    rulesAndTests(section(readme, "### The calls"));
    check.end();
  }

  /** The words from this heading to the next one. */
  private static String section(String readme, String heading) {
    int from = readme.indexOf("\n" + heading + "\n");
    check.due("README.md has " + heading, from >= 0, true);
    String rest = readme.substring(from + heading.length() + 1);
    int to = rest.indexOf("\n#");
    return to < 0 ? rest : rest.substring(0, to);
  }

  // ---- the examples

  private static void examples(String readme) throws Exception {
    Matcher block = Pattern.compile("(?s)```java\n(.*?)```").matcher(readme);
    Loopdefaults x = null;
    int many = 0;
    while (block.find()) {
      for (String line : block.group(1).split("\n")) {
        if (line.equals("Loopdefaults x = new Loopdefaults();")) {
          x = new Loopdefaults();
        } else {
          example(x, line);
          many++;
        }
      }
    }
    check.due("README.md has examples", many > 0, true);
  }

  /** A call, and behind it an answer, or an answer, a colon and words. */
  private static void example(Loopdefaults x, String line) throws Exception {
    Matcher parts =
        Pattern.compile("x\\.(\\w+\\([^)]*\\)); +// (\"[^\"]*\"|[^:\"]+)(: .+)?").matcher(line);
    check.due("README.md, the form of: " + line, x != null && parts.matches(), true);
    if (x != null && parts.matches()) {
      check.due("README.md, " + parts.group(1), Face.told(x, parts.group(1)), parts.group(2));
    }
  }

  // ---- what is named

  private static Set<String> named(String words, String form) {
    Set<String> named = new TreeSet<>();
    Matcher name = Pattern.compile(form).matcher(words);
    while (name.find()) {
      named.add(name.group(1));
    }
    return named;
  }

  private static String rows(String words) {
    return String.join("\n", named(words, "(?m)^(\\|.*)$"));
  }

  private static void calls(String words) {
    Set<String> face = new TreeSet<>();
    for (Method method : Face.all()) {
      face.add(method.getName());
    }
    check.due("the calls that README.md names", named(rows(words), "`(\\w+)`"), face);
  }

  private static void tests(String words) throws IOException {
    Set<String> files = new TreeSet<>();
    try (Stream<Path> all = Files.list(Path.of("src/test/java"))) {
      all.map(path -> path.getFileName().toString())
          .filter(name -> name.endsWith("Test.java"))
          .forEach(name -> files.add(name.replace(".java", "")));
    }
    check.due("the tests that README.md names", named(rows(words), "`(\\w+Test)`"), files);
    check.due("README.md names .ci/run", words.contains("\n.ci/run\n"), true);
  }

  private static void classes(String words) {
    Set<String> inside = new TreeSet<>();
    for (Class<?> one : Loopdefaults.class.getDeclaredClasses()) {
      inside.add(one.getSimpleName());
    }
    check.due("the classes that README.md names", named(words, "`([A-Z][a-z]\\w+)`"), inside);
  }

  // ---- the rules and the tests as the page tells them

  private static void rulesAndTests(String words) {
    String[] rows = words.substring(words.indexOf("| | rule | test |")).split("\n");
    check.due("README.md tells 6 rules and tests", rows.length, 8);
    for (int number = 0; number <= 5 && number + 2 < rows.length; number++) {
      String[] cells = rows[number + 2].split(" *\\| *");
      check.due("README.md, number", cells[1], String.valueOf(number));
      for (int v = -3; v <= 3; v++) {
        for (int n = -3; n <= 3; n++) {
          check.due(
              "rule " + number + ", " + cells[2] + ", v " + v + ", n " + n,
              new Loopdefaults().given(number, 7, v, n),
              rule(cells[2], 7, v, n));
          check.due(
              "test " + number + ", " + cells[3] + ", v " + v + ", n " + n,
              new Loopdefaults().tested(number, v, n),
              test(cells[3], v, n));
        }
      }
    }
  }

  private static int rule(String words, int k, int v, int n) {
    switch (words) {
      case "v + n":
        return v + n;
      case "the greater one of v and n":
        return Math.max(v, n);
      case "v + n if that is even, otherwise nothing":
        return (v + n) % 2 == 0 ? v + n : -1000;
      case "nothing":
        return -1000;
      case "v + n; refuses if that is odd":
        return (v + n) % 2 == 0 ? v + n : -9;
      case "k + n":
        return k + n;
      default:
        throw new IllegalStateException("README.md tells a rule in other words: " + words);
    }
  }

  private static int test(String words, int v, int n) {
    switch (words) {
      case "is v even":
        return v % 2 == 0 ? 1 : 0;
      case "is v odd":
        return v % 2 == 0 ? 0 : 1;
      case "is v less than n":
        return v < n ? 1 : 0;
      case "is v greater than n":
        return v > n ? 1 : 0;
      case "is v just n":
        return v == n ? 1 : 0;
      case "no; refuses if v is n":
        return v == n ? -9 : 0;
      default:
        throw new IllegalStateException("README.md tells a test in other words: " + words);
    }
  }
}

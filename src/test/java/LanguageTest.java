import java.lang.reflect.Constructor;
import java.lang.reflect.Field;
import java.lang.reflect.Method;
import java.lang.reflect.Modifier;
import java.nio.file.Files;
import java.nio.file.Path;
import java.util.ArrayList;
import java.util.Arrays;
import java.util.List;
import java.util.Set;
import java.util.TreeSet;
import java.util.regex.Matcher;
import java.util.regex.Pattern;

/** The face is the document's, and what of ../shared/LANGUAGE.md can be seen by a plain look holds. */
public final class LanguageTest {
  private static final Check check = new Check("LanguageTest");

  public static void main(String[] args) throws Exception {
    String source = Files.readString(Path.of(args[0]));
    face(Files.readString(Path.of("../shared/DOC.md")));
    names();
    fields();
    words(withoutCommentsAndTexts(source));
    sizes(source);
    check.end();
  }

  private static void face(String document) {
    Set<String> want = new TreeSet<>();
    String face = document.substring(document.indexOf("```java"), document.indexOf("## Description"));
    Matcher line = Pattern.compile("public (\\w+) (\\w+)\\(([^)]*)\\)(?: throws ([^;]*))?;").matcher(face);
    while (line.find()) {
      String types = line.group(3).replaceAll("(\\w+) \\w+", "$1");
      String thrown = line.group(4) == null ? "" : line.group(4);
      want.add(line.group(1) + " " + line.group(2) + "(" + types + ") " + thrown);
    }
    Set<String> got = new TreeSet<>();
    for (Method method : Loopdefaults.class.getDeclaredMethods()) {
      if (!Modifier.isPrivate(method.getModifiers())) {
        got.add(
            method.getReturnType().getSimpleName() + " " + method.getName() + "("
                + simple(method.getParameterTypes()) + ") " + simple(method.getExceptionTypes()));
        check.due(method + " is public", Modifier.isPublic(method.getModifiers()), true);
        check.due(method + " is static", Modifier.isStatic(method.getModifiers()), false);
      }
    }
    check.due("the face has methods", want.size() > 40, true);
    check.due("the face", got, want);
    Constructor<?>[] constructors = Loopdefaults.class.getDeclaredConstructors();
    check.due("constructors", constructors.length, 1);
    check.due("the constructor", constructors[0].toString(), "public Loopdefaults()");
    check.due("final", Modifier.isFinal(Loopdefaults.class.getModifiers()), true);
  }

  private static String simple(Class<?>[] types) {
    List<String> names = new ArrayList<>();
    for (Class<?> type : types) {
      names.add(type.getSimpleName());
    }
    return String.join(", ", names);
  }

  private static List<Class<?>> classes() {
    List<Class<?>> classes = new ArrayList<>(Arrays.asList(Loopdefaults.class.getDeclaredClasses()));
    classes.add(Loopdefaults.class);
    return classes;
  }

  private static void names() {
    Set<String> face = new TreeSet<>();
    for (Method method : Loopdefaults.class.getDeclaredMethods()) {
      if (Modifier.isPublic(method.getModifiers())) {
        face.add(method.getName());
      }
    }
    for (Class<?> one : classes()) {
      for (Method method : one.getDeclaredMethods()) {
        boolean isPublic = Modifier.isPublic(method.getModifiers());
        check.due(method + " bears a name of the face", face.contains(method.getName()), isPublic);
        check.due(method + " has at most 7 parameters", method.getParameterCount() <= 7, true);
      }
      boolean isOpen = Modifier.isPublic(one.getModifiers()) || Modifier.isProtected(one.getModifiers());
      check.due(one + " is open", isOpen, one == Loopdefaults.class);
      check.due(one + " is static", one == Loopdefaults.class || Modifier.isStatic(one.getModifiers()), true);
    }
    check.due("at most 12 classes", classes().size() <= 12, true);
  }

  private static void fields() {
    for (Class<?> one : classes()) {
      int many = 0;
      for (Field field : one.getDeclaredFields()) {
        int modifiers = field.getModifiers();
        if (Modifier.isStatic(modifiers)) {
          check.due(field + " is final", Modifier.isFinal(modifiers), true);
        } else {
          many++;
        }
        if (one == Loopdefaults.class) {
          check.due(field + " is private", Modifier.isPrivate(modifiers), true);
        }
      }
      check.due(one + " has at most 20 fields", many <= 20, true);
    }
  }

  private static String withoutCommentsAndTexts(String source) {
    return source
        .replaceAll("(?s)/\\*.*?\\*/", " ")
        .replaceAll("//[^\n]*", " ")
        .replaceAll("\"[^\"\n]*\"", "\"\"");
  }

  private static void words(String code) {
    String[] forbidden = {
      "->", "::", "\\bpackage\\b", "\\bprotected\\b", "\\bfinally\\b", "\\bcatch\\b", "\\bsynchronized\\b",
      "\\bassert\\b", "\\binstanceof\\b", "\\bvar\\b", "\\bimport\\b", "\\bstatic\\s*\\{", "\\bObject\\b",
      "\"\"\\s*\\+", "\\+\\s*\"\"", "\\bnull\\b", "Exact\\b", "\\bdouble\\b", "\\bfloat\\b", "\\bthrow\\s+(?!new )",
      "\\bMath\\b", "\\bSystem\\b", "\\bThread\\b", "%"
    };
    for (String word : forbidden) {
      check.due("the source has " + word, Pattern.compile(word).matcher(code).find(), false);
    }
    Matcher thrown = Pattern.compile("throw new (\\w+)").matcher(code);
    Set<String> kinds =
        Set.of("IndexOutOfBoundsException", "IllegalArgumentException", "IllegalStateException");
    while (thrown.find()) {
      check.due("throw new " + thrown.group(1), kinds.contains(thrown.group(1)), true);
    }
    check.due("divisions", code.split("/", -1).length - 1, 1);
    check.due("only signs 1 to 127", code.chars().allMatch(sign -> sign >= 1 && sign <= 127), true);
  }

  /** A method or constructor begins at two or four blanks and ends at the brace below its first. */
  private static void sizes(String source) {
    String[] lines = source.split("\n");
    for (int i = 0; i < lines.length; i++) {
      check.due("line " + (i + 1) + " has at most 100 signs", lines[i].length() <= 100, true);
      Matcher head = Pattern.compile("^(  |    )(?! )[\\w<>\\[\\] ]+\\(.*").matcher(lines[i]);
      if (head.matches() && !lines[i].endsWith(";")) {
        int end = i;
        while (end + 1 < lines.length && !lines[end].equals(head.group(1) + "}")) {
          end++;
        }
        check.due("the method of line " + (i + 1) + " is short", end - i < 60, true);
      }
    }
  }
}

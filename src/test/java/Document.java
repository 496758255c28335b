import java.io.IOException;
import java.nio.file.Files;
import java.nio.file.Path;
import java.util.ArrayList;
import java.util.Arrays;
import java.util.List;

/** The document's words, part by part, and which of them a test has quoted. */
final class Document {
  private static final int PROMISES = 48;

  /** Parts 1 to 48 are the promises; then the description follows: what stands ahead of section 1, .. */
  static final int AHEAD = PROMISES + 1;

  /** .. and its sections 1 to 4. */
  static final int SECTION_1 = AHEAD + 1;

  static final int SECTION_2 = AHEAD + 2;
  static final int SECTION_3 = AHEAD + 3;
  static final int SECTION_4 = AHEAD + 4;

  private final String[] words = new String[SECTION_4 + 1];
  private final boolean[][] quoted = new boolean[SECTION_4 + 1][];

  Document() {
    Arrays.fill(words, "");
    for (String part : read().split("(?m)^## ")) {
      String heading = part.substring(0, part.indexOf('\n'));
      String body = part.substring(heading.length());
      if (heading.equals("What it is")) {
        words[AHEAD] = told(body);
      } else if (heading.equals("Description")) {
        takeDescription(body);
      } else if (heading.startsWith("Promise ")) {
        words[Integer.parseInt(heading.replaceAll("\\D", ""))] = told(body);
      }
    }
    for (int part = 0; part < words.length; part++) {
      quoted[part] = new boolean[words[part].length()];
    }
  }

  private static String read() {
    try {
      return Files.readString(Path.of("../shared/DOC.md"));
    } catch (IOException unread) {
      throw new IllegalStateException("../shared/DOC.md can't be read", unread);
    }
  }

  private void takeDescription(String body) {
    String[] sections = body.split("(?m)^(?=== \\d)");
    words[AHEAD] += " " + told(sections[0]);
    for (int section = 1; section < sections.length; section++) {
      words[AHEAD + section] = told(sections[section]);
    }
  }

  /** Left out: headings, signatures, and what only names an argument without a number. */
  private static String told(String body) {
    StringBuilder told = new StringBuilder();
    for (String line : body.split("\n")) {
      boolean isHeading = line.startsWith("==") || line.startsWith("----");
      boolean isName = line.startsWith("- ") && !line.matches(".*\\d.*");
      boolean isSignature = line.startsWith("`");
      boolean isPointer = line.matches("\\w+\\(\\)\\.");
      if (!isHeading && !isName && !isSignature && !isPointer) {
        told.append(' ').append(line);
      }
    }
    return told.toString().replaceAll("\\s+", " ").trim();
  }

  static String name(int part) {
    if (part <= PROMISES) {
      return "promise " + part;
    }
    return part == AHEAD ? "ahead of section 1" : "section " + (part - AHEAD);
  }

  /** Whether the part says this, word by word. */
  boolean quote(int part, String quote) {
    int at = words[part].indexOf(quote);
    for (int i = at; at >= 0 && i < at + quote.length(); i++) {
      quoted[part][i] = true;
    }
    return at >= 0;
  }

  /** What of the part no test has quoted. */
  List<String> left(int part) {
    List<String> left = new ArrayList<>();
    StringBuilder run = new StringBuilder();
    for (int i = 0; i <= words[part].length(); i++) {
      if (i < words[part].length() && !quoted[part][i]) {
        run.append(words[part].charAt(i));
      } else {
        if (run.toString().matches(".*\\w.*")) {
          left.add(run.toString().trim());
        }
        run.setLength(0);
      }
    }
    return left;
  }
}

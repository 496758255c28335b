import java.util.ArrayList;
import java.util.List;

/**
 * Runs of calls that mix rows, tables, spans and hearers, with answers that were worked out from
 * the document by hand: what a call leaves behind is shown by the calls that follow it.
 *
 * <p>A line is a call and the answer that is due. A line with a T is asked of the tables 0, 1 and
 * 2, one behind the other, and each has to answer that.
 */
public final class RunsTest {
  private static final Check check = new Check("RunsTest");

  private static final String ONE_HEARER =
      """
      type(0, 3) -> 1
      type(0, -4) -> 2
      put(0, 7, 5) -> -1000
      put(0, 2, -6) -> -1000
      put(2, 7, 5) -> -1000
      put(2, 2, -6) -> -1000
      hear(0, 0) -> 2
      heardText(0) -> "3 -4"
      hearSpan(10, 20, 4, 0) -> 3
      heardText(0) -> "3 -4 10 14 18"
      hearTable(0, 0) -> 2
      heardText(0) -> "3 -4 10 14 18 7005 1994"
      hearTable(2, 0) -> 2
      heardText(0) -> "3 -4 10 14 18 7005 1994 1994 7005"
      heard(0, 0) -> 9
      heard(0, 1) -> 18039
      heard(0, 2) -> 7005
      hearTable(1, 0) -> 0
      heard(0, 2) -> 7005
      rest(0, 1, 0) -> 1
      heardText(0) -> "3 -4 10 14 18 7005 1994 1994 7005 -4"
      hearSteps(10, 20, 4, 2, 0) -> 1
      heardText(0) -> "-4 10 14 18 7005 1994 1994 7005 -4 18"
      heard(0, 1) -> 18053
      heard(1, 0) -> 0
      heardText(1) -> ""
      house(2) -> 11
      counts(0, 0) -> 2
      counts(0, 1) -> 5
      counts(0, 2) -> 4
      shelfCounts(0) -> 1
      shelfCounts(1) -> 3
      shelfCounts(2) -> 2
      shelfCounts(3) -> 0
      shelfCounts(5) -> 2
      forget(0) -> 11
      heardText(0) -> ""
      heard(0, 2) -> -1
      house(2) -> 0
      hear(0, 0) -> 2
      heard(0, 1) -> -1
      """;

  private static final String STOPPED =
      """
      type(1, 1) -> 1
      type(1, 2) -> 2
      type(1, 3) -> 3
      put(0, 0, 1) -> -1000
      put(0, 0, 2) -> 1
      put(0, 3, 2) -> -1000
      put(0, 1, 0) -> -1000
      stop(1, 2) -> -1000
      hear(1, 1) -> -9
      heardText(1) -> "1"
      counts(1, 1) -> 2
      counts(1, 2) -> 2
      rest(1, 1, 1) -> -9
      heardText(1) -> "1"
      counts(1, 0) -> 2
      counts(1, 1) -> 3
      counts(1, 2) -> 4
      rest(1, 2, 1) -> 1
      heardText(1) -> "1 3"
      counts(1, 1) -> 5
      counts(1, 2) -> 7
      hearSpan(0, 4, 2, 1) -> -9
      heardText(1) -> "1 3 0"
      hearSteps(0, 4, 2, 2, 1) -> 1
      heardText(1) -> "1 3 0 4"
      hearTable(0, 1) -> -9
      heard(1, 0) -> 4
      shelfCounts(0) -> 1
      shelfCounts(1) -> 1
      shelfCounts(2) -> 1
      stop(1, 1000) -> 2
      hearTable(0, 1) -> -9
      heardText(1) -> "1 3 0 4 2 3002"
      shelfCounts(1) -> 4
      shelfCounts(2) -> 4
      hear(1, 0) -> 3
      house(3) -> 5
      forget(1) -> 6
      heard(1, 3) -> 1000
      stop(1, -1000) -> 1000
      hearTable(0, 1) -> 3
      heard(1, 1) -> 4004
      house(2) -> 6
      house(3) -> 5
      """;

  private static final String FIXED =
      """
      type(0, 4) -> 1
      type(0, 7) -> 2
      fix(0, true) -> 0
      hear(0, 0) -> 2
      removeIf(0, 4, 5) -> 0
      removeIf(0, 1, 0) -> -9
      counts(0, 0) -> 3
      counts(0, 1) -> 8
      counts(0, 2) -> 6
      replaceAll(0, 0, 1) -> -9
      rowText(0) -> "4 7"
      counts(0, 0) -> 4
      counts(0, 1) -> 9
      counts(0, 2) -> 7
      counts(0, 3) -> 0
      counts(0, 4) -> 0
      type(0, 9) -> 3
      drop(0, 2) -> 1
      copy(0) -> 0
      length(0) -> 0
      replaceAll(0, 0, 1) -> 0
      removeIf(0, 0, 0) -> 0
      counts(0, 1) -> 11
      counts(0, 2) -> 7
      isFixed(0) -> true
      type(1, 6) -> 1
      copy(0) -> 1
      isFixed(0) -> true
      isFixed(1) -> false
      removeIf(1, 1, 0) -> 0
      fix(0, false) -> 1
      removeIf(0, 0, 0) -> 1
      rowText(0) -> ""
      rowText(1) -> "6"
      counts(0, 0) -> 7
      counts(0, 1) -> 13
      counts(0, 2) -> 8
      counts(0, 4) -> 1
      counts(1, 0) -> 1
      counts(1, 1) -> 2
      counts(1, 4) -> 0
      house(3) -> 2
      house(0) -> 1
      """;

  private static final String THREE_TABLES =
      """
      put(T, 9, 1) -> -1000
      put(T, 4, 2) -> -1000
      put(T, 6, 3) -> -1000
      text(0) -> "9=1 4=2 6=3"
      text(1) -> "9=1 4=2 6=3"
      text(2) -> "4=2 6=3 9=1"
      put(T, 4, 8) -> 2
      merge(T, 9, 5, 0) -> 6
      compute(T, 6, 5, -2) -> 4
      text(1) -> "9=6 4=8 6=4"
      remove(T, 9) -> 6
      putIfAbsent(T, 9, 7) -> -1000
      putIfAbsent(T, 9, 1) -> 7
      text(0) -> "4=8 6=4 9=7"
      text(1) -> "4=8 6=4 9=7"
      text(2) -> "4=8 6=4 9=7"
      compute(T, 6, 0, 1) -> 5
      computeIfPresent(T, 6, 2, 2) -> -1000
      computeIfPresent(T, 6, 0, 2) -> -1000
      computeIfAbsent(T, 6, 4, 1) -> -9
      has(T, 6) -> false
      computeIfAbsent(T, 6, 4, -8) -> -8
      text(0) -> "4=8 9=7 6=-8"
      text(2) -> "4=8 6=-8 9=7"
      replaceTable(T, 4, 1) -> -9
      get(T, 4) -> 8
      areLike(0, 2) -> true
      replaceTable(T, 4, 2) -> -9
      text(0) -> "4=10 9=7 6=-8"
      text(1) -> "4=10 9=7 6=-8"
      text(2) -> "4=10 6=-6 9=7"
      areLike(0, 1) -> true
      areLike(0, 2) -> false
      areLike(2, 1) -> false
      replace(2, 6, -8) -> -6
      areLike(0, 2) -> true
      removePair(T, 9, 6) -> false
      removePair(T, 9, 7) -> true
      replaceIf(T, 4, 8, 1) -> false
      replaceIf(T, 4, 10, 10) -> true
      replace(T, 5, 1) -> -1000
      size(T) -> 2
      hearTable(0, 0) -> 2
      heardText(0) -> "4010 5992"
      shelfCounts(0) -> 3
      shelfCounts(1) -> 6
      shelfCounts(2) -> 5
      shelfCounts(3) -> 1
      shelfCounts(4) -> 0
      shelfCounts(5) -> 10
      shelfCounts(6) -> 3
      house(3) -> 9
      house(1) -> 6
      clear(T) -> 2
      size(T) -> 0
      text(T) -> ""
      shelfCounts(6) -> 3
      forgetCounts() -> 28
      forgetCounts() -> 0
      house(3) -> 9
      """;

  private static final String COPIED =
      """
      type(0, 2) -> 1
      type(0, 5) -> 2
      type(1, 9) -> 1
      copy(1) -> 2
      replaceAll(1, 0, 1) -> 2
      rowText(0) -> "2 5"
      rowText(1) -> "3 6"
      removeIf(0, 0, 0) -> 1
      type(0, 5) -> 2
      type(0, 4) -> 3
      rowText(0) -> "5 5 4"
      removeIf(0, 4, 5) -> 1
      rowText(0) -> "4"
      replaceAll(1, 4, 1) -> -9
      rowText(1) -> "4 6"
      replaceAll(1, 1, 5) -> 2
      rowText(1) -> "5 6"
      removeIf(1, 5, 6) -> -9
      rowText(1) -> "5 6"
      at(1, 1) -> 6
      at(1, 2) -> throws IndexOutOfBoundsException
      counts(1, 0) -> 4
      counts(1, 1) -> 10
      counts(1, 2) -> 8
      counts(1, 3) -> 5
      counts(1, 4) -> 0
      counts(0, 0) -> 2
      counts(0, 1) -> 7
      counts(0, 2) -> 5
      counts(0, 3) -> 0
      counts(0, 4) -> 3
      forgetCounts() -> 44
      copy(0) -> 2
      rowText(0) -> "5 6"
      counts(0, 0) -> 0
      rest(0, 2, 1) -> 0
      counts(0, 1) -> 1
      counts(0, 2) -> 2
      counts(1, 2) -> 0
      house(0) -> 4
      house(3) -> 2
      """;

  private static final String THROWN =
      """
      type(0, 1) -> 1
      type(2, 1000) -> throws IndexOutOfBoundsException
      type(0, 1000) -> throws IllegalArgumentException
      drop(0, 2) -> throws IllegalArgumentException
      hear(0, 2) -> throws IndexOutOfBoundsException
      counts(0, 0) -> 0
      rest(0, 2, 0) -> throws IllegalArgumentException
      rest(0, 2, 2) -> throws IndexOutOfBoundsException
      removeIf(0, 6, 0) -> throws IllegalArgumentException
      replaceAll(0, 2, 0) -> throws IllegalArgumentException
      replaceAll(0, 5, 0) -> throws IllegalArgumentException
      counts(0, 0) -> 0
      put(3, 20, 0) -> throws IndexOutOfBoundsException
      put(0, 20, 0) -> throws IllegalArgumentException
      put(0, 0, 7) -> -1000
      replaceTable(0, 2, 0) -> throws IllegalArgumentException
      replaceTable(0, 5, 1000) -> throws IllegalArgumentException
      merge(0, 0, 1, 6) -> throws IllegalArgumentException
      compute(0, 0, 4, 1000) -> throws IllegalArgumentException
      hearTable(0, 2) -> throws IndexOutOfBoundsException
      hearSpan(0, 40, 1, 0) -> throws IllegalArgumentException
      hearSpan(0, 40, 1, 2) -> throws IndexOutOfBoundsException
      hearSpan(0, 39, 1, 1) -> 40
      hearSteps(0, 39, 1, 41, 1) -> throws IllegalArgumentException
      hearSteps(0, 39, 1, 40, 1) -> 0
      takeStep(1, 0) -> throws IllegalArgumentException
      takeStep(0, 0) -> -9
      stop(0, 100000) -> throws IllegalArgumentException
      stop(0, -1001) -> throws IllegalArgumentException
      heard(0, 3) -> -1000
      heard(0, 0) -> 0
      areLike(0, 3) -> throws IndexOutOfBoundsException
      house(3) -> 1
      house(5) -> throws IllegalArgumentException
      rowText(0) -> "1"
      text(0) -> "0=7"
      heard(1, 1) -> 780
      heardText(1) -> "30 31 32 33 34 35 36 37 38 39"
      shelfCounts(0) -> 0
      forgetCounts() -> 1
      """;

  private static final String NINE_AND_NOTHING =
      """
      compute(1, 0, 0, -9) -> -9
      get(1, 0) -> -9
      house(3) -> 0
      compute(1, 0, 4, 0) -> -9
      house(3) -> 1
      given(4, 0, -9, 0) -> -9
      given(0, 0, -9, 0) -> -9
      given(3, 0, -9, 0) -> -1000
      given(0, 0, -1000, -9) -> -9
      tested(5, -9, -9) -> -9
      house(3) -> 1
      merge(1, 1, -9, 3) -> -9
      merge(1, 1, -9, 3) -> -1000
      has(1, 1) -> false
      getOr(1, 1, -9) -> -9
      put(1, 0, 999) -> -9
      compute(1, 0, 0, 999) -> 999
      compute(1, 0, 2, 1) -> -1000
      compute(1, 0, 2, 1) -> -1000
      compute(1, 0, 2, -998) -> -998
      compute(1, 0, 0, -2) -> -999
      computeIfPresent(1, 0, 4, -1) -> -9
      get(1, 0) -> -999
      hearTable(1, 0) -> 1
      heard(0, 2) -> -999
      stop(0, -999) -> -1000
      hearTable(1, 0) -> -9
      stop(0, -1) -> -999
      heard(0, 3) -> -1
      hearSpan(-3, 3, 1, 0) -> -9
      heardText(0) -> "-999 -3 -2"
      house(3) -> 4
      text(1) -> "0=-999"
      """;

  private static final String[] RUNS = {
    ONE_HEARER, STOPPED, FIXED, THREE_TABLES, COPIED, THROWN, NINE_AND_NOTHING
  };

  public static void main(String[] args) throws Exception {
    for (String run : RUNS) {
      go(run);
      goLookedAt(run);
    }
    goTogether();
    check.end();
  }

  private static List<String> lines(String run) {
    List<String> lines = new ArrayList<>();
    for (String line : run.split("\n")) {
      boolean isOfEach = line.matches(".*\\bT\\b.*");
      for (int table = 0; table < (isOfEach ? 3 : 1); table++) {
        lines.add(line.replaceAll("\\bT\\b", String.valueOf(table)));
      }
    }
    return lines;
  }

  private static void dueLine(Loopdefaults x, String line) throws Exception {
    String[] sides = line.split(" -> ", 2);
    check.due(sides[0], Face.told(x, sides[0]), sides[1]);
  }

  private static void go(String run) throws Exception {
    Loopdefaults x = new Loopdefaults();
    for (String line : lines(run)) {
      dueLine(x, line);
    }
  }

  /** What only asks leaves nothing behind: with it between all calls the answers stay the same. */
  private static void goLookedAt(String run) throws Exception {
    Loopdefaults x = new Loopdefaults();
    // An object promises nothing behind its 512th call.
    check.due("at most 512 calls", lines(run).size() * 4 <= 512, true);
    for (String line : lines(run)) {
      dueLine(x, line);
      check.due("isSound", x.isSound(), true);
      check.due("digest, twice", x.digest(), x.digest());
    }
  }

  /** Objects have nothing in common: all runs go on at once, a call each, an object each. */
  private static void goTogether() throws Exception {
    List<Loopdefaults> objects = new ArrayList<>();
    List<List<String>> runs = new ArrayList<>();
    int longest = 0;
    for (String run : RUNS) {
      objects.add(new Loopdefaults());
      runs.add(lines(run));
      longest = Math.max(longest, lines(run).size());
    }
    for (int line = 0; line < longest; line++) {
      for (int run = 0; run < RUNS.length; run++) {
        if (line < runs.get(run).size()) {
          dueLine(objects.get(run), runs.get(run).get(line));
        }
      }
    }
  }
}

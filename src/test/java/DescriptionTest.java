import java.util.function.Supplier;

/** The words ahead of section 1, and sections 1 and 2, sentence by sentence. */
public final class DescriptionTest {
  private static final int AHEAD = Document.AHEAD;
  private static final int SECTION_1 = Document.SECTION_1;
  private static final int SECTION_2 = Document.SECTION_2;
  private static final Check check = new Check("DescriptionTest", AHEAD, SECTION_2);

  public static void main(String[] args) {
    check.promisesNothing(
        AHEAD,
        "Loops that others lead: rows, tables and spans of numbers are gone through by calls that "
            + "are told what to do with each one: to hear it, to put something in its place, to "
            + "take it away, to reckon what a key gets. Rows and one of the tables count what they "
            + "are asked on the way; two other tables are told the same, and hold the same.");
    check.promisesNothing(AHEAD, "Whole numbers.");
    calls();
    none();
    refused();
    bounded();
    rising();
    changesNothing();
    namedFirst();
    aheadOfRefused();
    values();
    nothing();
    rules();
    rulesThatTellNothingOrRefuse();
    tests();
    hearers();
    stops();
    heard();
    rows();
    tables();
    sequence();
    pairsHeardAndAsTexts();
    countsOfWalks();
    countsOfChanges();
    countsOfShelf();
    countsOfFixed();
    noOtherWalks();
    check.end();
  }

  // ---- ahead of section 1

  private static void calls() {
    check.says(
        AHEAD,
        "An object is used for at most 512 calls after it has been made; what later calls answer "
            + "is free.");
    Loopdefaults x = new Loopdefaults();
    for (int call = 1; call <= 512; call++) {
      check.due("knock", x.knock(), call);
    }
    Loopdefaults y = new Loopdefaults();
    for (int call = 1; call <= 510; call++) {
      check.due("hearSpan of 40", y.hearSpan(960, 999, 1, 1), 40);
    }
    check.due("heard, call 511", y.heard(1, 0), 510 * 40);
    check.due("sum, call 512", y.heard(1, 1), 510 * 39180);
    Loopdefaults z = Check.withTables(19, 999);
    for (int call = 5; call < 512; call++) {
      check.due("isSound", z.isSound(), true);
    }
    check.due("text, call 512", z.text(0), "19=999");
  }

  private static void none() {
    check.says(AHEAD, "NONE is -1.");
    check.due("last at first", new Loopdefaults().heard(0, 2), -1);
  }

  private static void refused() {
    check.says(
        AHEAD,
        "-9 (REFUSED): the call is let, but something refuses within; what was done ahead of that "
            + "stays done.");
    Loopdefaults x = Check.withTables(1, 2, 2, 4, 3, 5, 4, 6);
    int[] values = {2, 4, 5, 6};
    for (int value : values) {
      x.type(0, value);
    }
    check.due("replaceAll", x.replaceAll(0, 4, 2), -9);
    check.due("rowText", x.rowText(0), "4 6 5 6");
    check.due("replaceTable", x.replaceTable(1, 4, 2), -9);
    check.due("text", x.text(1), "1=4 2=6 3=5 4=6");
    x.stop(0, 5);
    check.due("hear", x.hear(0, 0), -9);
    check.due("rest", x.rest(0, 1, 0), -9);
    check.due("hearSpan", x.hearSpan(2, 6, 1, 0), -9);
    check.due("hearSteps", x.hearSteps(1, 6, 1, 1, 0), -9);
    check.due("heardText", x.heardText(0), "4 6 6 2 3 4 2 3 4");
    x.stop(1, 3005);
    check.due("hearTable", x.hearTable(1, 1), -9);
    check.due("heardText", x.heardText(1), "1004 2006");
    check.due("removeIf", x.removeIf(0, 5, 5), -9);
    check.due("rowText", x.rowText(0), "4 6 5 6");
    check.dueCounts(x, 0, 4, 3 + 3 + 2 + 3, 3 + 3 + 3 + 3, 2, 0);
    check.due("house(3)", x.house(3), 8);
  }

  private static void bounded() {
    check.says(AHEAD, "BOUNDED: a number above 999 becomes 999, one below -999 becomes -999.");
    Loopdefaults x = new Loopdefaults();
    int[][] due = {{998, 998}, {999, 999}, {1000, 999}, {1001, 999}, {1998, 999}};
    for (int[] sum : due) {
      int value = sum[0] - 500 > 999 ? 999 : 500;
      int number = sum[0] - value;
      check.due("given to " + sum[0], x.given(0, 0, value, number), sum[1]);
      check.due("given to " + -sum[0], x.given(0, 0, -value, -number), -sum[1]);
      Loopdefaults row = Check.withRow(0, value);
      row.type(0, -value);
      row.replaceAll(0, 0, number);
      check.due("replaceAll to " + sum[0], row.at(0, 0), sum[1]);
      row.type(1, -value);
      row.replaceAll(1, 0, -number);
      check.due("replaceAll to " + -sum[0], row.at(1, 0), -sum[1]);
      for (int t = 0; t < 3; t++) {
        Loopdefaults table = Check.withTables(1, value, 2, -value);
        check.due("compute to " + sum[0], table.compute(t, 1, 0, number), sum[1]);
        check.due("merge to " + -sum[0], table.merge(t, 2, -number, 0), -sum[1]);
        check.due("get", table.get(t, 2), -sum[1]);
      }
    }
    check.due("key 19 and 979", x.given(5, 19, 0, 979), 998);
    check.due("key 19 and 980", x.given(5, 19, 0, 980), 999);
    check.due("key 19 and 981", x.given(5, 19, 0, 981), 999);
    check.due("key 19 and 999", x.given(5, 19, 0, 999), 999);
    check.due("key 0 and -999", x.given(5, 0, 0, -999), -999);
    check.due("key 1 and -999", x.given(5, 1, 0, -999), -998);
  }

  private static void rising() {
    check.says(AHEAD, "X by X is by rising numbers.");
    Loopdefaults x = Check.withRow(0, 1);
    Loopdefaults y = Check.withRow(1, 1);
    long[] rowsOfX = {1, 1, 0, 0, 0, 0, 0, 0, 0, 0, 0, 0, 0, 0, 0};
    long[] rowsOfY = {0, 0, 0, 0, 0, 0, 0, 1, 1, 0, 0, 0, 0, 0, 0};
    check.due("digest, row 0 first", x.digest(), withRows(rowsOfX));
    check.due("digest, row 1 behind", y.digest(), withRows(rowsOfY));
  }

  /** The checksum of an object that has one VALUE, and nothing but its ROWS. */
  private static long withRows(long[] rows) {
    long d = 7774;
    for (long v : new long[] {1, 0, 0, 0, 0}) {
      d = d * 31 + v;
    }
    for (long v : rows) {
      d = d * 31 + v;
    }
    for (long v : new long[] {0, 0, 0, 0, 0, 0, 0, 0, 0, 0}) {
      d = d * 31 + v;
    }
    for (long v : new long[] {0, 0, -1, -1000, 0, 0, 0, -1, -1000, 0, 1}) {
      d = d * 31 + v;
    }
    return d;
  }

  /** Rows and tables are full, rows are fixed, hearers refuse what comes first: all has its use. */
  private static Loopdefaults brimful() {
    Loopdefaults x = new Loopdefaults();
    for (int i = 0; i < 12; i++) {
      x.type(0, 5);
    }
    x.copy(1);
    for (int table = 0; table < 3; table++) {
      for (int key = 0; key < 20; key++) {
        x.put(table, key, 5);
      }
    }
    x.hearSpan(5, 7, 1, 0);
    x.hear(0, 1);
    x.fix(0, true);
    x.fix(1, true);
    x.stop(0, 5);
    x.stop(1, 5);
    x.knock();
    return x;
  }

  private static void changesNothing() {
    check.says(AHEAD, "A method that throws an exception changes nothing.");
    for (Loopdefaults x : new Loopdefaults[] {brimful(), Check.withTables(5, 6)}) {
      check.dueArgument(x, "type", () -> x.type(0, 1000));
      check.dueArgument(x, "drop", () -> x.drop(0, 13));
      check.dueIndex(x, "fix", () -> x.fix(2, false));
      check.dueIndex(x, "hear", () -> x.hear(0, 2));
      check.dueArgument(x, "rest", () -> x.rest(0, 13, 0));
      check.dueArgument(x, "removeIf", () -> x.removeIf(0, 6, 5));
      check.dueArgument(x, "replaceAll", () -> x.replaceAll(0, 3, 5));
      check.dueIndex(x, "copy", () -> x.copy(-1));
      check.dueArgument(x, "put", () -> x.put(0, 5, 1000));
      check.dueArgument(x, "remove", () -> x.remove(0, 20));
    }
    for (Loopdefaults x : new Loopdefaults[] {brimful(), Check.withTables(5, 6)}) {
      check.dueArgument(x, "replaceIf", () -> x.replaceIf(0, 5, 5, 1000));
      check.dueArgument(x, "computeIfAbsent", () -> x.computeIfAbsent(0, 4, 6, 0));
      check.dueArgument(x, "merge", () -> x.merge(0, 5, 0, 6));
      check.dueIndex(x, "hearTable", () -> x.hearTable(0, 2));
      check.dueArgument(x, "replaceTable", () -> x.replaceTable(0, 2, 0));
      check.dueIndex(x, "clear", () -> x.clear(3));
      check.dueArgument(x, "hearSpan", () -> x.hearSpan(0, 40, 1, 0));
      check.dueArgument(x, "takeStep", () -> x.takeStep(1, 0));
      check.dueArgument(x, "stop", () -> x.stop(0, 100000));
      check.dueIndex(x, "forget", () -> x.forget(2));
    }
    Loopdefaults x = brimful();
    check.dueThrow(x, "type", IllegalStateException.class, () -> x.type(1, 5));
  }

  private static void namedFirst() {
    check.says(AHEAD, "If several exceptions apply, the one that is named first is thrown;");
    Loopdefaults x = brimful();
    check.dueIndex(x, "type, all three", () -> x.type(2, 1000));
    check.dueArgument(x, "type, the last two", () -> x.type(0, 1000));
    check.dueIndex(x, "drop", () -> x.drop(2, 0));
    check.dueIndex(x, "rest", () -> x.rest(0, 13, 2));
    check.dueIndex(x, "removeIf", () -> x.removeIf(-1, 6, 1000));
    check.dueIndex(x, "replaceAll", () -> x.replaceAll(2, 2, 1000));
    check.dueIndex(x, "put", () -> x.put(3, 20, 1000));
    check.dueIndex(x, "remove", () -> x.remove(3, 20));
    check.dueIndex(x, "putIfAbsent", () -> x.putIfAbsent(-1, 20, 1000));
    check.dueIndex(x, "replace", () -> x.replace(3, -1, 1000));
    check.dueIndex(x, "replaceIf", () -> x.replaceIf(3, 20, 1000, 1000));
    check.dueIndex(x, "removePair", () -> x.removePair(3, 20, 1000));
    check.dueIndex(x, "computeIfAbsent", () -> x.computeIfAbsent(3, 20, 6, 1000));
    Loopdefaults y = brimful();
    check.dueIndex(y, "computeIfPresent", () -> y.computeIfPresent(3, 20, 6, 1000));
    check.dueIndex(y, "compute", () -> y.compute(3, 20, 6, 1000));
    check.dueIndex(y, "merge", () -> y.merge(3, 20, 1000, 6));
    check.dueIndex(y, "replaceTable", () -> y.replaceTable(3, 2, 1000));
    check.dueIndex(y, "hearSpan", () -> y.hearSpan(1000, 1000, 0, 2));
    check.dueIndex(y, "hearSteps", () -> y.hearSteps(1000, 1000, 0, -1, 2));
    check.dueIndex(y, "stop", () -> y.stop(2, 100000));
    check.dueIndex(y, "heard", () -> y.heard(2, 4));
    check.dueIndex(y, "counts", () -> y.counts(2, 5));
    check.dueIndex(y, "get", () -> y.get(3, 20));
    check.dueIndex(y, "getOr", () -> y.getOr(3, 20, 1000));
    check.dueIndex(y, "has", () -> y.has(3, 20));
  }

  /** Each call is let and refused with right arguments, and throws with one that is wrong. */
  private static void aheadOfRefused() {
    check.says(AHEAD, "exceptions go ahead of -9.");
    Loopdefaults x = brimful();
    let(() -> x.hear(0, 0));
    check.dueIndex(x, "hear(2, 0)", () -> x.hear(2, 0));
    check.dueIndex(x, "hear(0, 2)", () -> x.hear(0, 2));
    let(() -> x.rest(0, 1, 0));
    check.dueArgument(x, "rest(0, 13, 0)", () -> x.rest(0, 13, 0));
    check.dueArgument(x, "rest(0, -1, 0)", () -> x.rest(0, -1, 0));
    let(() -> x.removeIf(0, 5, 5));
    let(() -> x.removeIf(0, 1, 0));
    check.dueArgument(x, "removeIf(0, 6, 5)", () -> x.removeIf(0, 6, 5));
    check.dueArgument(x, "removeIf(0, 1, 1000)", () -> x.removeIf(0, 1, 1000));
    let(() -> x.replaceAll(0, 4, 0));
    check.dueArgument(x, "replaceAll(0, 5, 0)", () -> x.replaceAll(0, 5, 0));
    check.dueArgument(x, "replaceAll(0, 4, 1000)", () -> x.replaceAll(0, 4, 1000));
    Loopdefaults y = Check.withTables(5, 5);
    y.stop(0, 5005);
    y.stop(1, 7);
    let(() -> y.computeIfAbsent(0, 4, 4, 1));
    check.dueArgument(y, "computeIfAbsent", () -> y.computeIfAbsent(0, 4, 4, 1001));
    check.dueArgument(y, "computeIfAbsent", () -> y.computeIfAbsent(0, 20, 4, 1));
    let(() -> y.computeIfPresent(1, 5, 4, 0));
    check.dueArgument(y, "computeIfPresent", () -> y.computeIfPresent(1, 5, 4, -1000));
    let(() -> y.compute(2, 5, 4, 0));
    check.dueArgument(y, "compute", () -> y.compute(2, 5, 4, 1000));
    let(() -> y.merge(0, 5, 0, 4));
    check.dueArgument(y, "merge", () -> y.merge(0, 5, 1000, 4));
    let(() -> y.hearTable(1, 0));
    check.dueIndex(y, "hearTable(3, 0)", () -> y.hearTable(3, 0));
    let(() -> y.replaceTable(2, 4, 0));
    check.dueArgument(y, "replaceTable", () -> y.replaceTable(2, 4, 1000));
    let(() -> y.hearSpan(7, 46, 1, 1));
    check.dueArgument(y, "hearSpan of 41", () -> y.hearSpan(7, 47, 1, 1));
    check.dueArgument(y, "hearSpan by 0", () -> y.hearSpan(7, 7, 0, 1));
    let(() -> y.hearSteps(6, 45, 1, 1, 1));
    check.dueArgument(y, "hearSteps of 41", () -> y.hearSteps(6, 46, 1, 1, 1));
    check.dueArgument(y, "hearSteps, ahead -1", () -> y.hearSteps(7, 9, 1, -1, 1));
    let(() -> y.takeStep(999, 999));
    check.dueArgument(y, "takeStep(1000, 1000)", () -> y.takeStep(1000, 1000));
    check.dueArgument(y, "takeStep(0, -1)", () -> y.takeStep(0, -1));
  }

  private static void let(Supplier<Object> run) {
    check.due("a call that is let", run.get(), -9);
  }

  // ---- section 1

  private static void values() {
    check.says(SECTION_1, "VALUES are -999 to 999, KEYS 0 to 19.");
    Loopdefaults x = new Loopdefaults();
    for (int value : new int[] {-999, 999}) {
      for (int key : new int[] {0, 19}) {
        for (int table = 0; table < 3; table++) {
          x.put(table, key, value);
          check.due("get", x.get(table, key), value);
        }
      }
      check.due("type", x.type(0, value), value == 999 ? 2 : 1);
    }
    check.due("rowText", x.rowText(0), "-999 999");
    check.dueArgument(x, "type(0, -1000)", () -> x.type(0, -1000));
    check.dueArgument(x, "type(0, 1000)", () -> x.type(0, 1000));
    check.dueArgument(x, "put(0, -1, 0)", () -> x.put(0, -1, 0));
    check.dueArgument(x, "put(0, 20, 0)", () -> x.put(0, 20, 0));
  }

  private static void nothing() {
    check.says(SECTION_1, "NOTHING is told as -1000.");
    Loopdefaults x = Check.withTables(5, 0);
    check.due("get", x.get(0, 4), -1000);
    check.due("put", x.put(0, 4, 0), -1000);
    check.due("compute", x.compute(0, 5, 3, 0), -1000);
    check.due("given", x.given(3, 0, 0, 0), -1000);
  }

  private static void rules() {
    check.says(
        SECTION_1,
        "A RULE is asked with a KEY k, a VALUE v (0 of NOTHING) and a number n (-999 to 999); it "
            + "tells a VALUE (BOUNDED) or NOTHING, or it refuses.");
    Loopdefaults x = new Loopdefaults();
    check.due("of nothing", x.given(0, 3, -1000, 8), 8);
    check.due("number -999", x.given(0, 3, 5, -999), -994);
    check.due("number 999", x.given(0, 3, -5, 999), 994);
    check.dueArgument(x, "number -1000", () -> x.given(0, 3, 5, -1000));
    check.dueArgument(x, "number 1000", () -> x.given(0, 3, 5, 1000));

    check.says(SECTION_1, "RULE 0: v + n.");
    check.due("rule 0", x.given(0, 3, 5, 8), 13);
    check.due("rule 0", x.given(0, 3, 5, -8), -3);
    check.due("rule 0 to -9", x.given(0, 3, 0, -9), -9);

    check.says(SECTION_1, "1: the greater one of v and n.");
    check.due("rule 1, v is greater", x.given(1, 19, 5, 4), 5);
    check.due("rule 1, the same", x.given(1, 19, 5, 5), 5);
    check.due("rule 1, n is greater", x.given(1, 19, 5, 6), 6);
    check.due("rule 1, below 0", x.given(1, 19, -5, -6), -5);
    check.due("rule 1, of nothing", x.given(1, 19, -1000, -1), 0);
    check.due("rule 1, at the ends", x.given(1, 19, -999, 999), 999);

    check.says(SECTION_1, "5: k + n.");
    check.due("rule 5", x.given(5, 3, 999, 8), 11);
    check.due("rule 5, below 0", x.given(5, 3, 999, -12), -9);
    check.due("rule 5, key 0", x.given(5, 0, 999, 0), 0);
    check.due("rule 5, key 19", x.given(5, 19, -1000, 0), 19);
  }

  private static void rulesThatTellNothingOrRefuse() {
    // v, n, and what v + n is, if it is even and BOUNDED
    int[][] even = {
      {3, 5, 8}, {3, -5, -2}, {0, 0, 0}, {998, 0, 998}, {999, -1, 998}, {-998, 0, -998},
      {-1000, 4, 4}, {-4, -4, -8}
    };
    // and where it is odd: what is BOUNDED is 999 or -999, whatever it was before
    int[][] odd = {
      {3, 4}, {-3, 0}, {0, 1}, {999, 0}, {999, 1}, {999, 999}, {-999, 0}, {-999, -1}, {-999, -999},
      {-1000, -7}, {-4, -5}
    };
    Loopdefaults x = new Loopdefaults();
    check.says(SECTION_1, "2: v + n, if that (BOUNDED) is even, otherwise NOTHING.");
    for (int[] row : even) {
      check.due("rule 2 of " + row[0] + " and " + row[1], x.given(2, 1, row[0], row[1]), row[2]);
    }
    for (int[] row : odd) {
      check.due("rule 2 of " + row[0] + " and " + row[1], x.given(2, 1, row[0], row[1]), -1000);
    }
    check.says(SECTION_1, "3: NOTHING.");
    for (int[] row : even) {
      check.due("rule 3 of " + row[0] + " and " + row[1], x.given(3, 1, row[0], row[1]), -1000);
    }
    check.says(SECTION_1, "4: it refuses, if v + n (BOUNDED) is odd; otherwise that.");
    for (int[] row : even) {
      check.due("rule 4 of " + row[0] + " and " + row[1], x.given(4, 1, row[0], row[1]), row[2]);
    }
    for (int[] row : odd) {
      check.due("rule 4 of " + row[0] + " and " + row[1], x.given(4, 1, row[0], row[1]), -9);
    }
  }

  private static void tests() {
    check.says(
        SECTION_1, "A TEST is asked with a VALUE v and a number n: 0 whether v is even,");
    Loopdefaults x = new Loopdefaults();
    for (int v : new int[] {-999, -998, -2, -1, 0, 1, 2, 998, 999}) {
      check.due("test 0 of " + v, x.tested(0, v, 1), v % 2 == 0 ? 1 : 0);
    }
    check.says(SECTION_1, "1 whether it is odd,");
    for (int v : new int[] {-999, -998, -2, -1, 0, 1, 2, 998, 999}) {
      check.due("test 1 of " + v, x.tested(1, v, 0), v % 2 == 0 ? 0 : 1);
    }
    check.says(SECTION_1, "2 whether it is less than n,");
    for (int n : new int[] {-998, 0, 998}) {
      check.due("test 2, less", x.tested(2, n - 1, n), 1);
      check.due("test 2, the same", x.tested(2, n, n), 0);
      check.due("test 2, greater", x.tested(2, n + 1, n), 0);
    }
    check.says(SECTION_1, "3 whether it is greater than n,");
    for (int n : new int[] {-998, 0, 998}) {
      check.due("test 3, less", x.tested(3, n - 1, n), 0);
      check.due("test 3, the same", x.tested(3, n, n), 0);
      check.due("test 3, greater", x.tested(3, n + 1, n), 1);
    }
    check.says(SECTION_1, "4 whether it is n,");
    for (int n : new int[] {-998, 0, 998}) {
      check.due("test 4, less", x.tested(4, n - 1, n), 0);
      check.due("test 4, the same", x.tested(4, n, n), 1);
      check.due("test 4, greater", x.tested(4, n + 1, n), 0);
    }
    check.says(SECTION_1, "5: it refuses, if v is n; otherwise it tells no.");
    for (int n : new int[] {-998, 0, 998}) {
      check.due("test 5, less", x.tested(5, n - 1, n), 0);
      check.due("test 5, the same", x.tested(5, n, n), -9);
      check.due("test 5, greater", x.tested(5, n + 1, n), 0);
    }
  }

  private static void hearers() {
    check.says(SECTION_1, "HEARERS 0 and 1 hear numbers, one by one.");
    Loopdefaults x = new Loopdefaults();
    x.hearSpan(1, 3, 1, 0);
    x.hearSpan(4, 5, 1, 1);
    check.due("hearer 0", x.heardText(0), "1 2 3");
    check.due("hearer 1", x.heardText(1), "4 5");
    check.dueIndex(x, "hearer 2", () -> x.heardText(2));
    check.dueIndex(x, "hearer -1", () -> x.heardText(-1));
  }

  private static void stops() {
    check.says(
        SECTION_1, "A HEARER may have a STOP, a number (none at first): it refuses to hear that.");
    Loopdefaults x = new Loopdefaults();
    check.due("the stop at first", x.heard(0, 3), -1000);
    check.due("without a stop", x.hearSpan(-1, 1, 1, 0), 3);
    x.stop(0, 0);
    check.due("one below the stop", x.hearSpan(-1, -1, 1, 0), 1);
    check.due("the stop", x.hearSpan(0, 0, 1, 0), -9);
    check.due("one above the stop", x.hearSpan(1, 1, 1, 0), 1);
    check.due("heardText", x.heardText(0), "-1 0 1 -1 1");
    check.due("the stop stays", x.hearSpan(0, 0, 1, 0), -9);
    check.due("the other hearer has none", x.hearSpan(0, 0, 1, 1), 1);
    x.stop(0, -1);
    check.due("a stop of NONE's number", x.hearSpan(-1, -1, 1, 0), -9);
  }

  private static void heard() {
    check.says(SECTION_1, "HEARD: how many it heard; SUM: of all that;");
    Loopdefaults x = new Loopdefaults();
    check.due("heard at first", x.heard(0, 0), 0);
    check.due("sum at first", x.heard(0, 1), 0);
    x.stop(0, 8);
    x.hearSpan(-5, 9, 1, 0);
    check.due("heard, the refused one not", x.heard(0, 0), 13);
    check.due("sum, the refused one not", x.heard(0, 1), 13);

    check.says(SECTION_1, "LAST: the last one (NONE at first);");
    check.due("last, the refused one not", x.heard(0, 2), 7);
    check.due("last at first", x.heard(1, 2), -1);
    x.hearSpan(0, 0, 1, 1);
    check.due("last", x.heard(1, 2), 0);

    check.says(
        SECTION_1,
        "its TEXT: the last ten that it heard, the oldest one first, with one blank between (\"\" "
            + "without any).");
    check.due("text of 13", x.heardText(0), "-2 -1 0 1 2 3 4 5 6 7");
    check.due("text of one", x.heardText(1), "0");
    Loopdefaults y = new Loopdefaults();
    StringBuilder text = new StringBuilder();
    for (int i = 1; i <= 10; i++) {
      check.due("text of " + (i - 1), y.heardText(0), text.toString());
      y.hearSpan(i, i, 1, 0);
      text.append(i > 1 ? " " : "").append(i);
    }
    check.due("text of 10", y.heardText(0), "1 2 3 4 5 6 7 8 9 10");
    y.hearSpan(11, 11, 1, 0);
    check.due("text of 11", y.heardText(0), "2 3 4 5 6 7 8 9 10 11");
    y.hearSpan(12, 21, 1, 0);
    check.due("text of 21", y.heardText(0), "12 13 14 15 16 17 18 19 20 21");
  }

  // ---- section 2

  private static void rows() {
    check.says(
        SECTION_2, "ROWS 0 and 1 have at most 12 VALUES, numbered from 0 (none at first);");
    Loopdefaults x = new Loopdefaults();
    for (int r = 0; r < 2; r++) {
      int row = r;
      check.due("length at first", x.length(row), 0);
      for (int i = 0; i < 12; i++) {
        check.due("type", x.type(row, 100 + i), i + 1);
        check.due("at", x.at(row, i), 100 + i);
      }
      check.due("the first one", x.at(row, 0), 100);
      check.dueThrow(x, "the 13th", IllegalStateException.class, () -> x.type(row, 0));
      check.dueIndex(x, "the 13th place", () -> x.at(row, 12));
    }
    check.dueIndex(x, "row 2", () -> x.length(2));
    check.dueIndex(x, "row -1", () -> x.length(-1));

    check.says(SECTION_2, "a ROW is FIXED or not (not at first).");
    check.due("isFixed at first", x.isFixed(0), false);
    check.due("isFixed at first", x.isFixed(1), false);
    x.fix(1, true);
    check.due("isFixed", x.isFixed(1), true);
  }

  private static void tables() {
    check.says(
        SECTION_2,
        "TABLES: 0 the SHELF, 1 the LINKED one, 2 the SORTED one. Each has PAIRS of a KEY and a "
            + "VALUE, no two with the same KEY (none at first).");
    Loopdefaults x = new Loopdefaults();
    for (int table = 0; table < 3; table++) {
      check.due("size at first", x.size(table), 0);
      x.put(table, 9, 1);
      x.put(table, 9, 2);
      x.put(table, 8, 2);
      x.putIfAbsent(table, 9, 3);
      x.compute(table, 9, 0, 2);
      x.merge(table, 9, 2, 0);
      check.due("size", x.size(table), 2);
      check.due("get", x.get(table, 9), 6);
    }
    check.due("text of the shelf", x.text(0), "9=6 8=2");
    check.due("text of the linked one", x.text(1), "9=6 8=2");
    check.due("text of the sorted one", x.text(2), "8=2 9=6");
    check.due("the shelf counts", x.shelfCounts(5), 5);
    check.dueIndex(x, "table 3", () -> x.size(3));
    check.dueIndex(x, "table -1", () -> x.size(-1));
  }

  private static void sequence() {
    check.says(
        SECTION_2,
        "They stand in the sequence in which their KEYS came (SHELF and LINKED: one that gets "
            + "another VALUE stays in its place, one that goes and comes again comes behind all), "
            + "or by rising KEYS (SORTED).");
    for (int table = 0; table < 3; table++) {
      boolean isSorted = table == 2;
      Loopdefaults x = Check.withTables(10, 1, 0, 2, 19, 3, 9, 4);
      check.due("text", x.text(table), isSorted ? "0=2 9=4 10=1 19=3" : "10=1 0=2 19=3 9=4");
      x.put(table, 10, 5);
      x.replace(table, 0, 6);
      x.replaceTable(table, 0, 0);
      check.due("other values", x.text(table), isSorted ? "0=6 9=4 10=5 19=3" : "10=5 0=6 19=3 9=4");
      x.remove(table, 0);
      check.due("one goes", x.text(table), isSorted ? "9=4 10=5 19=3" : "10=5 19=3 9=4");
      x.put(table, 0, 7);
      check.due("it comes", x.text(table), isSorted ? "0=7 9=4 10=5 19=3" : "10=5 19=3 9=4 0=7");
      x.compute(table, 10, 3, 0);
      x.merge(table, 10, 8, 0);
      check.due("the first", x.text(table), isSorted ? "0=7 9=4 10=8 19=3" : "19=3 9=4 0=7 10=8");
      x.removePair(table, 10, 8);
      x.computeIfAbsent(table, 10, 0, 9);
      check.due("the last", x.text(table), isSorted ? "0=7 9=4 10=9 19=3" : "19=3 9=4 0=7 10=9");
      x.clear(table);
      x.put(table, 9, 1);
      x.put(table, 19, 1);
      x.put(table, 0, 1);
      check.due("behind clear", x.text(table), isSorted ? "0=1 9=1 19=1" : "9=1 19=1 0=1");
    }
    Loopdefaults full = new Loopdefaults();
    StringBuilder coming = new StringBuilder();
    StringBuilder sorted = new StringBuilder();
    for (int key = 19; key >= 0; key--) {
      for (int table = 0; table < 3; table++) {
        full.put(table, key, key);
      }
      coming.append(key).append('=').append(key).append(key > 0 ? " " : "");
      sorted.insert(0, key + "=" + key + (key < 19 ? " " : ""));
    }
    check.due("full, the shelf", full.text(0), coming.toString());
    check.due("full, the linked one", full.text(1), coming.toString());
    check.due("full, the sorted one", full.text(2), sorted.toString());
  }

  private static void pairsHeardAndAsTexts() {
    check.says(SECTION_2, "A PAIR is HEARD as 1000 * KEY + VALUE.");
    int[][] due = {{0, 0, 0}, {0, -999, -999}, {0, 999, 999}, {19, 999, 19999}, {19, -999, 18001},
      {1, -1000 + 1, 1}, {7, 8, 7008}};
    for (int[] pair : due) {
      for (int table = 0; table < 3; table++) {
        Loopdefaults x = Check.withTables(pair[0], pair[1]);
        x.hearTable(table, 0);
        check.due("heard", x.heard(0, 2), pair[2]);
      }
    }

    check.says(
        SECTION_2, "TABLES as texts: each PAIR as KEY, \"=\" and VALUE, with one blank between.");
    for (int table = 0; table < 3; table++) {
      check.due("text of none", new Loopdefaults().text(table), "");
      check.due("text of one", Check.withTables(0, 0).text(table), "0=0");
      check.due("text of two", Check.withTables(0, -999, 19, 999).text(table), "0=-999 19=999");
    }
  }

  private static void countsOfWalks() {
    check.says(
        SECTION_2,
        "COUNTS of a ROW, and of the SHELF (0 at first): 0 WALKS that were begun, 1 how often a "
            + "WALK was asked whether there is one more, 2 how many it gave,");
    Loopdefaults x = new Loopdefaults();
    check.dueCounts(x, 0, 0, 0, 0, 0, 0);
    check.dueCounts(x, 1, 0, 0, 0, 0, 0);
    check.dueShelfCounts(x, 0, 0, 0, 0, 0, 0, 0);
    for (int many = 0; many <= 12; many++) {
      x.forgetCounts();
      x.hear(0, 0);
      check.dueCounts(x, 0, 1, many + 1, many, 0, 0);
      x.rest(0, many / 2, 0);
      check.dueCounts(x, 0, 2, 2 * many - many / 2 + 2, 2 * many, 0, 0);
      if (many < 12) {
        x.type(0, many);
      }
    }
    Loopdefaults y = new Loopdefaults();
    for (int many = 0; many <= 20; many++) {
      y.forgetCounts();
      y.hearTable(0, 0);
      y.hearTable(1, 0);
      y.hearTable(2, 0);
      check.dueShelfCounts(y, 1, many + 1, many, 0, 0, 0, 0);
      if (many < 20) {
        y.put(0, many, many);
      }
    }
  }

  private static void countsOfChanges() {
    check.says(
        SECTION_2, "3 how often one was put in the place of one that a WALK gave,");
    Loopdefaults x = Check.withRow(1, 1, 2, 3);
    x.put(0, 5, 1);
    x.put(0, 4, 2);
    x.forgetCounts();
    x.replaceAll(1, 0, 0);
    check.dueCounts(x, 1, 1, 4, 3, 3, 0);
    x.replaceAll(1, 4, 1);
    check.dueCounts(x, 1, 2, 6, 5, 4, 0);
    x.replaceTable(0, 0, 0);
    check.dueShelfCounts(x, 1, 3, 2, 2, 0, 0, 0);
    x.replaceTable(0, 4, 1);
    check.dueShelfCounts(x, 2, 5, 4, 3, 0, 0, 0);

    check.says(SECTION_2, "4 how often one was taken away by a WALK;");
    Loopdefaults y = Check.withRow(0, 1, 1, 2, 1);
    y.removeIf(0, 4, 9);
    check.dueCounts(y, 0, 1, 5, 4, 0, 0);
    y.removeIf(0, 4, 1);
    check.dueCounts(y, 0, 2, 10, 8, 0, 3);
    y.removeIf(0, 0, 0);
    check.dueCounts(y, 0, 3, 12, 9, 0, 4);
    y.type(0, 5);
    y.drop(0, 1);
    check.dueCounts(y, 0, 3, 12, 9, 0, 4);
  }

  private static void countsOfShelf() {
    check.says(
        SECTION_2,
        "of the SHELF alone: 5 how often a PAIR was put (a new one, or a VALUE in the place of "
            + "one, the same, too; not by a WALK),");
    Loopdefaults x = new Loopdefaults();
    dueAdded(x, 5, 1, "put of a new one", () -> x.put(0, 5, 1));
    dueAdded(x, 5, 1, "put of another value", () -> x.put(0, 5, 2));
    dueAdded(x, 5, 1, "put of the same", () -> x.put(0, 5, 2));
    dueAdded(x, 5, 0, "putIfAbsent, there", () -> x.putIfAbsent(0, 5, 2));
    dueAdded(x, 5, 1, "putIfAbsent", () -> x.putIfAbsent(0, 6, 2));
    dueAdded(x, 5, 0, "replace, not there", () -> x.replace(0, 7, 2));
    dueAdded(x, 5, 1, "replace by the same", () -> x.replace(0, 6, 2));
    dueAdded(x, 5, 0, "replaceIf, another", () -> x.replaceIf(0, 6, 3, 2));
    dueAdded(x, 5, 1, "replaceIf by the same", () -> x.replaceIf(0, 6, 2, 2));
    dueAdded(x, 5, 0, "computeIfAbsent, there", () -> x.computeIfAbsent(0, 6, 0, 2));
    dueAdded(x, 5, 0, "computeIfAbsent to nothing", () -> x.computeIfAbsent(0, 7, 3, 2));
    dueAdded(x, 5, 1, "computeIfAbsent", () -> x.computeIfAbsent(0, 7, 0, 2));
    dueAdded(x, 5, 0, "computeIfPresent, not there", () -> x.computeIfPresent(0, 8, 0, 2));
    dueAdded(x, 5, 1, "computeIfPresent to the same", () -> x.computeIfPresent(0, 7, 0, 0));
    dueAdded(x, 5, 0, "computeIfPresent to nothing", () -> x.computeIfPresent(0, 7, 3, 0));
    dueAdded(x, 5, 1, "compute to the same", () -> x.compute(0, 6, 0, 0));
    dueAdded(x, 5, 1, "merge to the same", () -> x.merge(0, 6, 0, 0));
    dueAdded(x, 5, 1, "merge of a new one", () -> x.merge(0, 7, 0, 3));
    dueAdded(x, 5, 0, "replaceTable", () -> x.replaceTable(0, 0, 2));
    dueAdded(x, 5, 0, "put on the linked one", () -> x.put(1, 5, 1));
    dueAdded(x, 5, 0, "put on the sorted one", () -> x.put(2, 5, 1));

    check.says(
        SECTION_2,
        "6 how often a KEY was told to go (whether it was there or not, not by a WALK).");
    dueAdded(x, 6, 1, "remove of none", () -> x.remove(0, 9));
    dueAdded(x, 6, 1, "remove", () -> x.remove(0, 5));
    dueAdded(x, 6, 1, "remove once more", () -> x.remove(0, 5));
    dueAdded(x, 6, 0, "removePair, another", () -> x.removePair(0, 6, 0));
    dueAdded(x, 6, 0, "removePair, not there", () -> x.removePair(0, 5, 0));
    dueAdded(x, 6, 1, "removePair", () -> x.removePair(0, 6, 4));
    dueAdded(x, 6, 0, "compute to nothing, not there", () -> x.compute(0, 6, 3, 0));
    dueAdded(x, 6, 0, "computeIfAbsent to nothing", () -> x.computeIfAbsent(0, 6, 3, 0));
    dueAdded(x, 6, 0, "computeIfPresent, not there", () -> x.computeIfPresent(0, 6, 3, 0));
    dueAdded(x, 6, 1, "compute to nothing", () -> x.compute(0, 7, 3, 0));
    x.put(0, 7, 1);
    dueAdded(x, 6, 1, "computeIfPresent to nothing", () -> x.computeIfPresent(0, 7, 3, 0));
    x.put(0, 7, 1);
    dueAdded(x, 6, 1, "merge to nothing", () -> x.merge(0, 7, 1, 3));
    x.put(0, 7, 1);
    dueAdded(x, 6, 0, "clear", () -> x.clear(0));
    dueAdded(x, 6, 0, "remove of the linked one", () -> x.remove(1, 5));
    dueAdded(x, 6, 0, "remove of the sorted one", () -> x.remove(2, 5));
    check.due("shelfCounts(4)", x.shelfCounts(4), 0);
  }

  /** The call adds so many to one of the COUNTS of the SHELF. */
  private static void dueAdded(
      Loopdefaults x, int what, int added, String call, Supplier<Object> run) {
    int before = x.shelfCounts(what);
    run.get();
    check.due(call + ", shelfCounts(" + what + ") more", x.shelfCounts(what) - before, added);
  }

  private static void countsOfFixed() {
    check.says(SECTION_2, "What is refused by a FIXED ROW does not count in 3 and 4.");
    Loopdefaults x = Check.withRow(0, 1, 2, 3);
    x.fix(0, true);
    check.due("replaceAll", x.replaceAll(0, 0, 1), -9);
    check.dueCounts(x, 0, 1, 1, 1, 0, 0);
    check.due("removeIf", x.removeIf(0, 0, 0), -9);
    check.dueCounts(x, 0, 2, 3, 3, 0, 0);
    x.fix(0, false);
    check.due("replaceAll, not fixed", x.replaceAll(0, 0, 1), 3);
    check.due("removeIf, not fixed", x.removeIf(0, 0, 0), 1);
    check.dueCounts(x, 0, 4, 11, 9, 3, 2);
  }

  private static void noOtherWalks() {
    check.says(
        SECTION_2,
        "WALKS are those of section 3's calls and of hearTable() and replaceTable() alone; no "
            + "other call begins one that counts.");
    Loopdefaults x = Check.withTables(5, 1, 4, 2, 6, 1);
    for (int row = 0; row < 2; row++) {
      x.type(row, 1);
      x.type(row, 2);
      x.drop(row, 1);
      x.copy(1 - row);
      x.fix(row, true);
      x.length(row);
      x.at(row, 0);
      x.rowText(row);
      x.isFixed(row);
    }
    for (int table = 0; table < 3; table++) {
      x.put(table, 5, 2);
      x.remove(table, 4);
      x.putIfAbsent(table, 4, 2);
      x.replace(table, 4, 3);
      x.replaceIf(table, 4, 3, 2);
      x.removePair(table, 4, 2);
      x.computeIfAbsent(table, 4, 0, 2);
      x.computeIfPresent(table, 4, 0, 2);
      x.compute(table, 4, 0, 2);
      x.merge(table, 4, 2, 0);
      x.get(table, 4);
      x.getOr(table, 3, 2);
      x.has(table, 4);
      x.size(table);
      x.text(table);
      x.areLike(table, 0);
      x.areLike(0, table);
    }
    x.hearSpan(1, 9, 1, 0);
    x.hearSteps(1, 9, 1, 2, 0);
    x.takeStep(1, 9);
    x.hearTable(1, 0);
    x.hearTable(2, 0);
    x.replaceTable(1, 0, 1);
    x.replaceTable(2, 0, 1);
    x.heardText(0);
    x.house(1);
    x.isSound();
    x.digest();
    x.clear(0);
    check.dueCounts(x, 0, 0, 0, 0, 0, 0);
    check.dueCounts(x, 1, 0, 0, 0, 0, 0);
    check.dueShelfCounts(x, 0, 0, 0, 0, 0, 8, 2);
  }
}

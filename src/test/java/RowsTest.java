/** Promises 1 to 9, sentence by sentence. */
public final class RowsTest {
  private static final Check check = new Check("RowsTest", 1, 9);

  public static void main(String[] args) {
    newObject();
    type();
    typeThrows();
    drop();
    fix();
    fixIsNotAsked();
    hear();
    hearRefused();
    rest();
    restThrows();
    removeIf();
    removeIfRefused();
    removeIfThrows();
    replaceAll();
    replaceAllRefused();
    replaceAllThrows();
    copy();
    check.end();
  }

  private static void newObject() {
    check.says(1, "Creates empty rows and tables, and hearers that heard nothing.");
    Loopdefaults x = new Loopdefaults();
    for (int i = 0; i < 2; i++) {
      check.due("length", x.length(i), 0);
      check.due("rowText", x.rowText(i), "");
      check.due("isFixed", x.isFixed(i), false);
      check.dueCounts(x, i, 0, 0, 0, 0, 0);
      check.due("heard 0", x.heard(i, 0), 0);
      check.due("heard 1", x.heard(i, 1), 0);
      check.due("heard 2", x.heard(i, 2), -1);
      check.due("heard 3", x.heard(i, 3), -1000);
      check.due("heardText", x.heardText(i), "");
    }
    for (int table = 0; table < 3; table++) {
      check.due("size", x.size(table), 0);
      check.due("text", x.text(table), "");
    }
    check.dueShelfCounts(x, 0, 0, 0, 0, 0, 0, 0);
    for (int what = 0; what <= 4; what++) {
      check.due("house", x.house(what), 0);
    }
    Loopdefaults y = new Loopdefaults();
    y.type(0, 1);
    y.put(0, 1, 1);
    y.knock();
    check.due("length of another object", x.length(0), 0);
    check.due("size of another object", x.size(0), 0);
    check.due("house of another object", x.house(4), 0);
  }

  private static void type() {
    check.says(2, "A VALUE behind the others.");
    Loopdefaults x = new Loopdefaults();
    x.type(1, -999);
    x.type(1, 999);
    x.type(1, -9);
    x.type(1, 999);
    check.due("rowText", x.rowText(1), "-999 999 -9 999");
    check.due("the other row", x.rowText(0), "");
    check.dueCounts(x, 1, 0, 0, 0, 0, 0);

    check.saysReturns(2, "how many there are then.");
    Loopdefaults y = new Loopdefaults();
    for (int i = 1; i <= 12; i++) {
      check.due("type", y.type(0, -9), i);
      check.due("type on the other row", y.type(1, 0), i);
    }
    y.drop(0, 3);
    check.due("type behind drop", y.type(0, 5), 10);
  }

  private static void typeThrows() {
    check.saysIndex(2, "if row is not 0 or 1");
    check.indexBounds(0, 1, Loopdefaults::new, "type(n, 5)", (x, n) -> x.type(n, 5));
    Loopdefaults full = Check.withFullRows();
    check.dueIndex(full, "type(2, 0), both rows are full", () -> full.type(2, 0));
    check.dueIndex(full, "type(-1, 0), both rows are full", () -> full.type(-1, 0));
    check.dueIndex(full, "type(2, 1000)", () -> full.type(2, 1000));
    check.dueIndex(full, "type(-1, -1000)", () -> full.type(-1, -1000));

    check.saysArgument(2, "if value is not -999 to 999");
    check.argumentBounds(-999, 999, Loopdefaults::new, "type(0, n)", (x, n) -> x.type(0, n));
    check.dueArgument(full, "type(0, 1000) of a full row", () -> full.type(0, 1000));
    check.dueArgument(full, "type(1, -1000) of a full row", () -> full.type(1, -1000));

    check.says(2, "Throws `IllegalStateException` if there are 12");
    Loopdefaults x = Check.withRow(0, 1, 2, 3, 4, 5, 6, 7, 8, 9, 10, 11);
    check.due("type of the 12th", x.type(0, 12), 12);
    for (int value : new int[] {-999, 0, 999}) {
      check.dueThrow(x, "type of the 13th", IllegalStateException.class, () -> x.type(0, value));
    }
    check.due("type on the other row", x.type(1, 1), 1);
    x.drop(0, 1);
    check.due("type of the 12th again", x.type(0, 13), 12);
    check.due("rowText", x.rowText(0), "1 2 3 4 5 6 7 8 9 10 11 13");
    Loopdefaults copied = new Loopdefaults();
    copied.copy(0);
    for (int i = 0; i < 12; i++) {
      copied.type(1, i);
    }
    copied.copy(0);
    check.dueThrow(
        copied, "type behind 12 copied", IllegalStateException.class, () -> copied.type(0, 0));
  }

  private static void drop() {
    check.says(3, "The last VALUES go.");
    Loopdefaults x = Check.withRow(0, 1, 2, 3, 4, 5);
    x.type(1, 7);
    x.drop(0, 1);
    check.due("rowText", x.rowText(0), "1 2 3 4");
    x.drop(0, 2);
    check.due("rowText", x.rowText(0), "1 2");
    x.drop(0, 2);
    check.due("rowText", x.rowText(0), "");
    check.due("the other row", x.rowText(1), "7");
    x.type(0, 9);
    check.due("rowText behind type", x.rowText(0), "9");
    check.dueCounts(x, 0, 0, 0, 0, 0, 0);

    check.saysReturns(3, "how many are left.");
    Loopdefaults y = Check.withFullRows();
    check.due("drop of 1", y.drop(0, 1), 11);
    check.due("drop of 4", y.drop(0, 4), 7);
    check.due("drop of all", y.drop(0, 7), 0);
    check.due("drop of all 12", y.drop(1, 12), 0);

    check.saysIndex(3, "if row is not 0 or 1");
    check.indexBounds(0, 1, Check::withFullRows, "drop(n, 1)", (z, n) -> z.drop(n, 1));
    check.dueIndex(y, "drop(2, 0)", () -> y.drop(2, 0));
    check.dueIndex(y, "drop(-1, 13)", () -> y.drop(-1, 13));

    check.saysArgument(3, "if many is not 1 to how many there are");
    check.argumentBounds(1, 0, Loopdefaults::new, "drop(0, n) of none", (z, n) -> z.drop(0, n));
    check.argumentBounds(
        1, 1, () -> Check.withRow(1, 5), "drop(1, n) of one", (z, n) -> z.drop(1, n));
    check.argumentBounds(
        1, 3, () -> Check.withRow(0, 5, 6, 7), "drop(0, n) of 3", (z, n) -> z.drop(0, n));
    check.argumentBounds(1, 12, Check::withFullRows, "drop(1, n) of 12", (z, n) -> z.drop(1, n));
    Loopdefaults other = Check.withRow(0, 5, 6, 7);
    other.type(1, 1);
    check.dueArgument(other, "drop, as many as the other row has", () -> other.drop(1, 3));
  }

  private static void fix() {
    check.says(4, "A ROW is FIXED, or not");
    Loopdefaults x = new Loopdefaults();
    for (int row = 0; row < 2; row++) {
      x.fix(row, true);
      check.due("isFixed", x.isFixed(row), true);
      x.fix(row, true);
      check.due("isFixed, once more", x.isFixed(row), true);
      check.due("isFixed, the other row", x.isFixed(1 - row), false);
      x.fix(row, false);
      check.due("isFixed", x.isFixed(row), false);
    }

    check.saysReturns(4, "1 if it was, otherwise 0.");
    for (int row = 0; row < 2; row++) {
      check.due("fix at first", x.fix(row, false), 0);
      check.due("fix", x.fix(row, true), 0);
      check.due("fix", x.fix(row, true), 1);
      check.due("fix", x.fix(row, false), 1);
      check.due("fix", x.fix(row, false), 0);
    }

    check.saysIndex(4, "if row is not 0 or 1");
    check.indexBounds(0, 1, Loopdefaults::new, "fix(n, true)", (y, n) -> y.fix(n, true));
    check.indexBounds(0, 1, Loopdefaults::new, "fix(n, false)", (y, n) -> y.fix(n, false));
  }

  private static void fixIsNotAsked() {
    check.says(4, "(type(), drop() and copy() do not ask that).");
    Loopdefaults x = Check.withRow(0, 1, 2);
    x.type(1, 8);
    x.fix(0, true);
    x.fix(1, true);
    check.due("type", x.type(0, 3), 3);
    check.due("drop", x.drop(0, 2), 1);
    check.due("rowText", x.rowText(0), "1");
    check.due("copy", x.copy(0), 1);
    check.due("rowText", x.rowText(0), "8");
    check.due("isFixed", x.isFixed(0), true);
    check.due("house(3)", x.house(3), 0);
  }

  private static void hear() {
    check.saysReturns(5, "how many were heard;");
    Loopdefaults x = Check.withRow(0, 4, -9, 4);
    check.due("hear of none", x.hear(1, 0), 0);
    check.due("hear of 3", x.hear(0, 1), 3);
    check.due("hear once more", x.hear(0, 1), 3);
    check.due("heardText", x.heardText(1), "4 -9 4 4 -9 4");
    check.due("the other hearer", x.heardText(0), "");
    check.due("hear of 12", Check.withFullRows().hear(1, 1), 12);
    x.fix(0, true);
    check.due("hear of a fixed row", x.hear(0, 0), 3);

    check.saysIndex(5, "if row is not 0 or 1, or hearer is not 0 or 1");
    check.indexBounds(0, 1, Check::withFullRows, "hear(n, 0)", (y, n) -> y.hear(n, 0));
    check.indexBounds(0, 1, Check::withFullRows, "hear(0, n)", (y, n) -> y.hear(0, n));
    check.dueIndex(x, "hear(2, 2)", () -> x.hear(2, 2));
    check.dueIndex(x, "hear(-1, -1)", () -> x.hear(-1, -1));
    check.dueIndex(x, "hear(1, 2) of none", () -> x.hear(1, 2));
  }

  private static void hearRefused() {
    check.says(5, "REFUSED if the HEARER refused.");
    for (int at = 0; at < 12; at++) {
      Loopdefaults x = Check.withFullRows();
      x.stop(0, at + 1);
      check.due("hear, stopped at place " + at, x.hear(1, 0), -9);
      check.due("those ahead of it stay heard", x.heard(0, 0), at);
      check.due("the sum", x.heard(0, 1), at * (at + 1) / 2);
      check.due("the last one", x.heard(0, 2), at == 0 ? -1 : at);
      check.dueCounts(x, 1, 1, at + 1, at + 1, 0, 0);
      check.due("house(3)", x.house(3), 1);
      check.due("hear by the other hearer", x.hear(1, 1), 12);
    }
    Loopdefaults x = Check.withRow(0, -9, 999);
    x.stop(0, 998);
    check.due("hear, one beside the stop", x.hear(0, 0), 2);
    x.stop(0, -9);
    check.due("hear, stopped at -9", x.hear(0, 0), -9);
    x.stop(0, 999);
    check.due("hear, stopped at 999", x.hear(0, 0), -9);
    check.due("heardText", x.heardText(0), "-9 999 -9");
    check.due("hear of none", x.hear(1, 0), 0);
    check.due("house(3)", x.house(3), 2);
  }

  private static void rest() {
    check.saysReturns(6, "how many were heard;");
    Loopdefaults x = Check.withRow(1, 4, 5, 6);
    check.due("rest, none passed by", x.rest(1, 0, 0), 3);
    check.dueCounts(x, 1, 1, 4, 3, 0, 0);
    check.due("rest, 2 passed by", x.rest(1, 2, 0), 1);
    check.dueCounts(x, 1, 2, 6, 6, 0, 0);
    check.due("rest, all passed by", x.rest(1, 3, 0), 0);
    check.dueCounts(x, 1, 3, 7, 9, 0, 0);
    check.due("heardText", x.heardText(0), "4 5 6 6");
    check.due("rest of none", x.rest(0, 0, 0), 0);
    check.dueCounts(x, 0, 1, 1, 0, 0, 0);
    for (int ahead = 0; ahead <= 12; ahead++) {
      check.due("rest of 12", Check.withFullRows().rest(0, ahead, 1), 12 - ahead);
    }

    check.says(6, "REFUSED if the HEARER refused.");
    x.stop(1, 5);
    check.due("rest, stopped", x.rest(1, 0, 1), -9);
    check.due("those ahead of it stay heard", x.heardText(1), "4");
    check.dueCounts(x, 1, 4, 9, 11, 0, 0);
    check.due("rest, stopped at the first", x.rest(1, 1, 1), -9);
    check.due("those ahead of it stay heard", x.heardText(1), "4");
    check.dueCounts(x, 1, 5, 10, 13, 0, 0);
    check.due("rest, what would stop is passed by", x.rest(1, 2, 1), 1);
    check.due("house(3)", x.house(3), 2);
    x.stop(1, 6);
    check.due("rest, stopped at the last", x.rest(1, 1, 1), -9);
    check.due("rest, all passed by", x.rest(1, 3, 1), 0);
    check.due("heardText", x.heardText(1), "4 6 5");
    check.due("house(3)", x.house(3), 3);
  }

  private static void restThrows() {
    Loopdefaults x = Check.withRow(1, 4, 5, 6);
    check.saysIndex(6, "if row is not 0 or 1, or hearer is not 0 or 1");
    check.indexBounds(0, 1, Check::withFullRows, "rest(n, 0, 0)", (y, n) -> y.rest(n, 0, 0));
    check.indexBounds(0, 1, Check::withFullRows, "rest(0, 0, n)", (y, n) -> y.rest(0, 0, n));
    check.dueIndex(x, "rest(2, 99, 0)", () -> x.rest(2, 99, 0));
    check.dueIndex(x, "rest(-1, -1, 0)", () -> x.rest(-1, -1, 0));
    check.dueIndex(x, "rest(1, 4, 2)", () -> x.rest(1, 4, 2));
    check.dueIndex(x, "rest(1, -1, -1)", () -> x.rest(1, -1, -1));

    check.saysArgument(6, "if ahead is not 0 to how many there are");
    check.argumentBounds(
        0, 0, Loopdefaults::new, "rest(0, n, 0) of none", (y, n) -> y.rest(0, n, 0));
    check.argumentBounds(
        0, 3, () -> Check.withRow(1, 4, 5, 6), "rest(1, n, 0) of 3", (y, n) -> y.rest(1, n, 0));
    check.argumentBounds(
        0, 12, Check::withFullRows, "rest(0, n, 1) of 12", (y, n) -> y.rest(0, n, 1));
    x.stop(0, 4);
    check.dueArgument(x, "rest(1, 4, 0), stopped at the first", () -> x.rest(1, 4, 0));
    check.dueArgument(x, "rest(1, -1, 0), stopped at the first", () -> x.rest(1, -1, 0));
  }

  private static void removeIf() {
    check.saysReturns(7, "1 if one was taken away, otherwise 0;");
    String[] left = {"-3 5 5 -1", "2 4 8", "4 5 5 8", "-3 2 4 -1", "-3 2 5 5 8 -1"};
    int[] taken = {3, 4, 3, 3, 1};
    for (int test = 0; test <= 4; test++) {
      Loopdefaults x = Check.withRow(0, -3, 2, 4, 5, 5, 8, -1);
      check.due("removeIf of test " + test, x.removeIf(0, test, 4), 1);
      check.due("rowText of test " + test, x.rowText(0), left[test]);
      check.dueCounts(x, 0, 1, 8, 7, 0, taken[test]);
      check.due("house(3)", x.house(3), 0);
    }
    Loopdefaults x = Check.withRow(1, 6, 6, 6);
    check.due("removeIf of none of 3", x.removeIf(1, 1, 0), 0);
    check.due("rowText", x.rowText(1), "6 6 6");
    check.due("removeIf of test 5, never n", x.removeIf(1, 5, 5), 0);
    check.due("removeIf of all 3", x.removeIf(1, 0, -999), 1);
    check.due("length", x.length(1), 0);
    check.dueCounts(x, 1, 3, 12, 9, 0, 3);
    for (int test = 0; test <= 5; test++) {
      check.due("removeIf of an empty row", x.removeIf(1, test, 999), 0);
    }
    check.dueCounts(x, 1, 9, 18, 9, 0, 3);
    Loopdefaults one = Check.withRow(0, 1, 2, 3);
    check.due("removeIf of the last one", one.removeIf(0, 4, 3), 1);
    check.due("removeIf of the first one", one.removeIf(0, 4, 1), 1);
    check.due("rowText", one.rowText(0), "2");
  }

  private static void removeIfRefused() {
    check.says(7, "REFUSED if the TEST refused,");
    Loopdefaults x = Check.withRow(0, 1, 2, 3, 4);
    check.due("removeIf, the test refuses", x.removeIf(0, 5, 3), -9);
    check.due("rowText", x.rowText(0), "1 2 3 4");
    check.dueCounts(x, 0, 1, 3, 3, 0, 0);
    check.due("removeIf, the test refuses the first", x.removeIf(0, 5, 1), -9);
    check.dueCounts(x, 0, 2, 4, 4, 0, 0);
    check.due("house(3)", x.house(3), 2);

    check.says(7, "or the ROW is FIXED and one was to go.");
    x.fix(0, true);
    check.due("removeIf of a fixed row", x.removeIf(0, 3, 1), -9);
    check.due("rowText", x.rowText(0), "1 2 3 4");
    check.dueCounts(x, 0, 3, 6, 6, 0, 0);
    check.due("removeIf of the last of a fixed row", x.removeIf(0, 4, 4), -9);
    check.dueCounts(x, 0, 4, 10, 10, 0, 0);
    check.due("house(3)", x.house(3), 4);
    check.due("removeIf of none of a fixed row", x.removeIf(0, 4, 9), 0);
    check.dueCounts(x, 0, 5, 15, 14, 0, 0);
    check.due("removeIf of none of a fixed row", x.removeIf(0, 5, 9), 0);
    check.due("removeIf of a fixed row, the test refuses", x.removeIf(0, 5, 2), -9);
    x.fix(1, true);
    check.due("removeIf of an empty fixed row", x.removeIf(1, 0, 0), 0);
    check.due("house(3)", x.house(3), 5);
    check.due("rowText", x.rowText(0), "1 2 3 4");
    x.fix(0, false);
    check.due("removeIf, not fixed any more", x.removeIf(0, 3, 1), 1);
    check.due("rowText", x.rowText(0), "1");
  }

  private static void removeIfThrows() {
    Loopdefaults fixed = Check.withRow(0, 1, 2, 3, 4);
    fixed.fix(0, true);
    check.saysIndex(7, "if row is not 0 or 1");
    check.indexBounds(0, 1, Check::withFullRows, "removeIf(n, 0, 0)", (x, n) -> x.removeIf(n, 0, 0));
    check.dueIndex(fixed, "removeIf(2, 6, 0)", () -> fixed.removeIf(2, 6, 0));
    check.dueIndex(fixed, "removeIf(-1, 0, 1000)", () -> fixed.removeIf(-1, 0, 1000));

    check.saysArgument(7, "if test is not 0 to 5, or number not -999 to 999");
    check.argumentBounds(
        0, 5, Check::withFullRows, "removeIf(0, n, 0)", (x, n) -> x.removeIf(0, n, 0));
    check.argumentBounds(
        0, 5, Loopdefaults::new, "removeIf(0, n, 0) of none", (x, n) -> x.removeIf(0, n, 0));
    for (int t = 0; t <= 5; t++) {
      int test = t;
      check.argumentBounds(
          -999, 999, Check::withFullRows, "removeIf(0, t, n)", (x, n) -> x.removeIf(0, test, n));
    }
    check.argumentBounds(
        -999, 999, Loopdefaults::new, "removeIf(1, 2, n) of none", (x, n) -> x.removeIf(1, 2, n));
    check.dueArgument(fixed, "removeIf(0, 6, 0), fixed", () -> fixed.removeIf(0, 6, 0));
    check.dueArgument(fixed, "removeIf(0, 0, 1000), fixed", () -> fixed.removeIf(0, 0, 1000));
  }

  private static void replaceAll() {
    check.saysReturns(8, "how many there are;");
    Loopdefaults x = Check.withRow(0, 4, -999, 998);
    check.due("replaceAll by rule 0", x.replaceAll(0, 0, 2), 3);
    check.due("rowText", x.rowText(0), "6 -997 999");
    check.due("replaceAll by rule 0", x.replaceAll(0, 0, -5), 3);
    check.due("rowText", x.rowText(0), "1 -999 994");
    check.dueCounts(x, 0, 2, 8, 6, 6, 0);
    check.due("replaceAll by rule 1", x.replaceAll(0, 1, -3), 3);
    check.due("rowText", x.rowText(0), "1 -3 994");
    x.removeIf(0, 3, 900);
    check.due("replaceAll by rule 4", x.replaceAll(0, 4, 1), 2);
    check.due("rowText", x.rowText(0), "2 -2");
    check.due("replaceAll of an empty row", x.replaceAll(1, 4, 1), 0);
    check.dueCounts(x, 1, 1, 1, 0, 0, 0);
    check.due("replaceAll of 12", Check.withFullRows().replaceAll(1, 1, 6), 12);
    Loopdefaults y = Check.withRow(0, -10, -19);
    check.due("replaceAll to -9", y.replaceAll(0, 0, 1), 2);
    check.due("replaceAll to -9", y.replaceAll(0, 1, -9), 2);
    check.due("rowText", y.rowText(0), "-9 -9");
    check.due("house(3)", y.house(3), 0);
  }

  private static void replaceAllRefused() {
    check.says(8, "REFUSED if the RULE refused,");
    Loopdefaults x = Check.withRow(1, 1, 3, 4, 5);
    check.due("replaceAll, the rule refuses", x.replaceAll(1, 4, 1), -9);
    check.due("those ahead of it stay replaced", x.rowText(1), "2 4 4 5");
    check.dueCounts(x, 1, 1, 3, 3, 2, 0);
    check.due("replaceAll, the rule refuses the first", x.replaceAll(1, 4, 1), -9);
    check.due("replaceAll, the rule refuses the last", x.replaceAll(1, 4, 2), -9);
    check.due("those ahead of it stay replaced", x.rowText(1), "4 6 6 5");
    check.dueCounts(x, 1, 3, 8, 8, 5, 0);
    check.due("house(3)", x.house(3), 3);

    check.says(8, "or the ROW is FIXED and has a VALUE.");
    x.fix(1, true);
    check.due("replaceAll of a fixed row", x.replaceAll(1, 0, 1), -9);
    check.dueCounts(x, 1, 4, 9, 9, 5, 0);
    check.due("replaceAll of a fixed row by what is there", x.replaceAll(1, 0, 0), -9);
    check.due("replaceAll of a fixed row by what is there", x.replaceAll(1, 1, -999), -9);
    check.due("replaceAll of a fixed row, the rule refuses", x.replaceAll(1, 4, 1), -9);
    check.dueCounts(x, 1, 7, 12, 12, 5, 0);
    check.due("rowText", x.rowText(1), "4 6 6 5");
    check.due("house(3)", x.house(3), 7);
    x.fix(0, true);
    for (int rule : new int[] {0, 1, 4}) {
      check.due("replaceAll of a fixed empty row", x.replaceAll(0, rule, 1), 0);
    }
    check.due("house(3)", x.house(3), 7);
    x.type(0, 5);
    check.due("replaceAll of a fixed row of one", x.replaceAll(0, 0, 1), -9);
    check.due("rowText", x.rowText(0), "5");
  }

  private static void replaceAllThrows() {
    Loopdefaults fixed = Check.withRow(0, 1, 2);
    fixed.fix(0, true);
    check.saysIndex(8, "if row is not 0 or 1");
    check.indexBounds(
        0, 1, Check::withFullRows, "replaceAll(n, 0, 1)", (x, n) -> x.replaceAll(n, 0, 1));
    check.dueIndex(fixed, "replaceAll(2, 2, 0)", () -> fixed.replaceAll(2, 2, 0));
    check.dueIndex(fixed, "replaceAll(-1, 0, 1000)", () -> fixed.replaceAll(-1, 0, 1000));

    check.saysArgument(8, "if rule is not 0, 1 or 4, or number not -999 to 999");
    for (int r : new int[] {-1, 2, 3, 5, 6, Integer.MIN_VALUE, Integer.MAX_VALUE}) {
      int rule = r;
      Loopdefaults none = new Loopdefaults();
      Loopdefaults full = Check.withFullRows();
      check.dueArgument(none, "of none, by rule " + rule, () -> none.replaceAll(0, rule, 0));
      check.dueArgument(full, "of 12, by rule " + rule, () -> full.replaceAll(0, rule, 0));
      check.dueArgument(fixed, "fixed, by rule " + rule, () -> fixed.replaceAll(0, rule, 0));
    }
    for (int r : new int[] {0, 1, 4}) {
      int rule = r;
      check.argumentBounds(
          -999, 999, Loopdefaults::new, "of none, n", (x, n) -> x.replaceAll(0, rule, n));
      check.argumentBounds(
          -999, 999, Check::withFullRows, "of 12, n", (x, n) -> x.replaceAll(1, rule, n));
    }
    check.dueArgument(fixed, "fixed, number 1000", () -> fixed.replaceAll(0, 0, 1000));
    check.dueArgument(fixed, "fixed, refused, -1000", () -> fixed.replaceAll(0, 4, -1000));
  }

  private static void copy() {
    check.says(9, "A ROW has the VALUES of the other one from now on");
    Loopdefaults x = Check.withRow(0, 1, 2, 3);
    x.type(1, 9);
    x.copy(1);
    check.due("rowText", x.rowText(1), "1 2 3");
    check.due("rowText", x.rowText(0), "1 2 3");
    x.type(1, 4);
    check.due("the other row, behind type", x.rowText(0), "1 2 3");
    x.replaceAll(0, 0, 10);
    check.due("the other row, behind replaceAll", x.rowText(1), "1 2 3 4");
    x.copy(0);
    check.due("rowText", x.rowText(0), "1 2 3 4");

    check.says(9, "(FIXED or not as it was; no COUNTS).");
    Loopdefaults y = Check.withRow(0, 1, 2, 3);
    y.hear(0, 0);
    y.hear(1, 0);
    y.fix(0, true);
    y.copy(1);
    check.due("copied from a fixed row", y.isFixed(1), false);
    check.due("copied from a fixed row", y.isFixed(0), true);
    check.dueCounts(y, 0, 1, 4, 3, 0, 0);
    check.dueCounts(y, 1, 1, 1, 0, 0, 0);
    y.copy(0);
    check.due("copied to a fixed row", y.isFixed(0), true);
    check.due("copied to a fixed row", y.isFixed(1), false);
    check.dueCounts(y, 0, 1, 4, 3, 0, 0);

    check.saysReturns(9, "how many there are then.");
    Loopdefaults z = Check.withRow(0, 5, 6);
    check.due("copy of 2", z.copy(1), 2);
    z.drop(0, 2);
    check.due("copy of 2", z.copy(0), 2);
    z.drop(1, 2);
    check.due("copy of none", z.copy(0), 0);
    check.due("rowText", z.rowText(0), "");
    check.due("copy of none on none", z.copy(1), 0);
    check.due("copy of 12", Check.withFullRows().copy(0), 12);

    check.saysIndex(9, "if row is not 0 or 1");
    check.indexBounds(0, 1, Check::withFullRows, "copy(n)", (w, n) -> w.copy(n));
  }
}

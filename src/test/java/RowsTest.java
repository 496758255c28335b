/** Promises 1 to 9. */
public final class RowsTest {
  private static final Check check = new Check("RowsTest");

  public static void main(String[] args) {
    newObject();
    type();
    drop();
    fix();
    hear();
    rest();
    removeIf();
    removeIfRefused();
    replaceAll();
    replaceAllRefused();
    copy();
    check.end();
  }

  private static void newObject() {
    check.promise(1);
    Loopdefaults x = new Loopdefaults();
    for (int i = 0; i < 2; i++) {
      check.due("length", x.length(i), 0);
      check.due("rowText", x.rowText(i), "");
      check.due("isFixed", x.isFixed(i), false);
      check.dueCounts(x, i, 0, 0, 0, 0, 0);
      check.due("heard 0", x.heard(i, 0), 0);
      check.due("heard 1", x.heard(i, 1), 0);
      check.due("heard 2", x.heard(i, 2), -1);
      check.due("heard 3", x.heard(i, 3), -1000);
      check.due("heardText", x.heardText(i), "");
    }
    for (int table = 0; table < 3; table++) {
      check.due("size", x.size(table), 0);
      check.due("text", x.text(table), "");
    }
    check.dueShelfCounts(x, 0, 0, 0, 0, 0, 0, 0);
    for (int what = 0; what <= 4; what++) {
      check.due("house", x.house(what), 0);
    }
    Loopdefaults y = new Loopdefaults();
    y.type(0, 1);
    y.knock();
    check.due("length of another object", x.length(0), 0);
    check.due("house of another object", x.house(4), 0);
  }

  private static void type() {
    check.promise(2);
    Loopdefaults x = new Loopdefaults();
    check.due("type", x.type(1, -999), 1);
    check.due("type", x.type(1, 999), 2);
    check.due("type", x.type(1, -9), 3);
    check.due("rowText", x.rowText(1), "-999 999 -9");
    check.due("the other row", x.length(0), 0);
    x.fix(1, true);
    check.due("type on a fixed row", x.type(1, 0), 4);
    for (int i = 5; i <= 12; i++) {
      check.due("type", x.type(1, i), i);
    }
    check.due("rowText", x.rowText(1), "-999 999 -9 0 5 6 7 8 9 10 11 12");
    check.dueThrow(x, "type of the 13th", IllegalStateException.class, () -> x.type(1, 0));
    check.dueArgument(x, "type of the 13th, no value", () -> x.type(1, 1000));
    check.dueIndex(x, "type(2, 1000)", () -> x.type(2, 1000));
    check.dueIndex(x, "type(-1, 0)", () -> x.type(-1, 0));
    check.dueIndex(x, "type(MIN, 0)", () -> x.type(Integer.MIN_VALUE, 0));
    check.dueIndex(x, "type(MAX, 0)", () -> x.type(Integer.MAX_VALUE, 0));
    check.dueArgument(x, "type(0, 1000)", () -> x.type(0, 1000));
    check.dueArgument(x, "type(0, -1000)", () -> x.type(0, -1000));
    check.dueCounts(x, 1, 0, 0, 0, 0, 0);
  }

  private static void drop() {
    check.promise(3);
    Loopdefaults x = Check.withRow(0, 1, 2, 3, 4, 5);
    check.due("drop", x.drop(0, 1), 4);
    check.due("rowText", x.rowText(0), "1 2 3 4");
    x.fix(0, true);
    check.due("drop of a fixed row", x.drop(0, 2), 2);
    check.due("rowText", x.rowText(0), "1 2");
    check.dueArgument(x, "drop(0, 3)", () -> x.drop(0, 3));
    check.dueArgument(x, "drop(0, 0)", () -> x.drop(0, 0));
    check.dueArgument(x, "drop(0, -1)", () -> x.drop(0, -1));
    check.dueArgument(x, "drop(0, MIN)", () -> x.drop(0, Integer.MIN_VALUE));
    check.dueArgument(x, "drop(1, 1)", () -> x.drop(1, 1));
    check.dueIndex(x, "drop(2, 0)", () -> x.drop(2, 0));
    check.dueIndex(x, "drop(-1, 1)", () -> x.drop(-1, 1));
    check.due("drop of all", x.drop(0, 2), 0);
    check.due("rowText", x.rowText(0), "");
    check.due("type behind", x.type(0, 7), 1);
    check.due("rowText", x.rowText(0), "7");
    check.dueCounts(x, 0, 0, 0, 0, 0, 0);
  }

  private static void fix() {
    check.promise(4);
    Loopdefaults x = new Loopdefaults();
    check.due("fix", x.fix(0, true), 0);
    check.due("fix", x.fix(0, true), 1);
    check.due("the other row", x.isFixed(1), false);
    check.due("fix", x.fix(0, false), 1);
    check.due("fix", x.fix(0, false), 0);
    check.due("isFixed", x.isFixed(0), false);
    check.dueIndex(x, "fix(2, true)", () -> x.fix(2, true));
    check.dueIndex(x, "fix(-1, false)", () -> x.fix(-1, false));
  }

  private static void hear() {
    check.promise(5);
    Loopdefaults x = Check.withRow(0, 4, -9, 4, 7);
    check.due("hear", x.hear(0, 1), 4);
    check.due("heardText", x.heardText(1), "4 -9 4 7");
    check.due("the other hearer", x.heardText(0), "");
    check.dueCounts(x, 0, 1, 5, 4, 0, 0);
    check.dueCounts(x, 1, 0, 0, 0, 0, 0);
    check.due("hear of an empty row", x.hear(1, 1), 0);
    check.dueCounts(x, 1, 1, 1, 0, 0, 0);
    x.stop(1, -9);
    check.due("hear, refused", x.hear(0, 1), -9);
    check.due("heardText", x.heardText(1), "4 -9 4 7 4");
    check.dueCounts(x, 0, 2, 7, 6, 0, 0);
    check.due("house(3)", x.house(3), 1);
    x.stop(1, 4);
    check.due("hear, refused at first", x.hear(0, 1), -9);
    check.due("heard", x.heard(1, 0), 5);
    check.dueCounts(x, 0, 3, 8, 7, 0, 0);
    x.fix(0, true);
    check.due("hear of a fixed row", x.hear(0, 0), 4);
    check.dueIndex(x, "hear(2, 0)", () -> x.hear(2, 0));
    check.dueIndex(x, "hear(-1, 0)", () -> x.hear(-1, 0));
    check.dueIndex(x, "hear(0, 2)", () -> x.hear(0, 2));
    check.dueIndex(x, "hear(0, -1)", () -> x.hear(0, -1));
    Loopdefaults y = Check.withRow(1, 1, 2, 3, 4, 5, 6, 7, 8, 9, 10, 11, 12);
    check.due("hear of a full row", y.hear(1, 0), 12);
    check.dueCounts(y, 1, 1, 13, 12, 0, 0);
    check.due("heardText", y.heardText(0), "3 4 5 6 7 8 9 10 11 12");
  }

  private static void rest() {
    check.promise(6);
    Loopdefaults x = Check.withRow(1, 4, 5, 6);
    check.due("rest", x.rest(1, 0, 0), 3);
    check.dueCounts(x, 1, 1, 4, 3, 0, 0);
    check.due("rest", x.rest(1, 2, 0), 1);
    check.dueCounts(x, 1, 2, 6, 6, 0, 0);
    check.due("rest", x.rest(1, 3, 0), 0);
    check.dueCounts(x, 1, 3, 7, 9, 0, 0);
    check.due("heardText", x.heardText(0), "4 5 6 6");
    x.stop(0, 5);
    check.due("rest, refused", x.rest(1, 1, 0), -9);
    check.dueCounts(x, 1, 4, 8, 11, 0, 0);
    check.due("rest, the refused one passed by", x.rest(1, 2, 0), 1);
    check.due("house(3)", x.house(3), 1);
    check.due("rest of an empty row", x.rest(0, 0, 0), 0);
    check.dueCounts(x, 0, 1, 1, 0, 0, 0);
    check.dueArgument(x, "rest(1, 4, 0)", () -> x.rest(1, 4, 0));
    check.dueArgument(x, "rest(1, -1, 0)", () -> x.rest(1, -1, 0));
    check.dueArgument(x, "rest(0, 1, 0)", () -> x.rest(0, 1, 0));
    check.dueIndex(x, "rest(2, 99, 0)", () -> x.rest(2, 99, 0));
    check.dueIndex(x, "rest(1, 99, 2)", () -> x.rest(1, 99, 2));
    check.dueIndex(x, "rest(1, -1, -1)", () -> x.rest(1, -1, -1));
    check.dueIndex(x, "rest(-1, 0, 0)", () -> x.rest(-1, 0, 0));
  }

  private static void removeIf() {
    check.promise(7);
    String[] left = {"-3 5 5 -1", "2 4 8", "4 5 5 8", "-3 2 4 -1", "-3 2 5 5 8 -1"};
    int[] taken = {3, 4, 3, 3, 1};
    for (int test = 0; test <= 4; test++) {
      Loopdefaults x = Check.withRow(0, -3, 2, 4, 5, 5, 8, -1);
      check.due("removeIf of test " + test, x.removeIf(0, test, 4), 1);
      check.due("rowText of test " + test, x.rowText(0), left[test]);
      check.dueCounts(x, 0, 1, 8, 7, 0, taken[test]);
      check.due("house(3)", x.house(3), 0);
    }
    Loopdefaults x = Check.withRow(1, 6, 6, 6);
    check.due("removeIf of none", x.removeIf(1, 1, 0), 0);
    check.due("rowText", x.rowText(1), "6 6 6");
    check.due("removeIf of test 5, never n", x.removeIf(1, 5, 5), 0);
    check.due("removeIf of all", x.removeIf(1, 0, -999), 1);
    check.due("length", x.length(1), 0);
    check.dueCounts(x, 1, 3, 12, 9, 0, 3);
    check.due("removeIf of an empty row", x.removeIf(1, 5, 999), 0);
    check.dueCounts(x, 1, 4, 13, 9, 0, 3);
    check.dueArgument(x, "removeIf(0, 6, 0)", () -> x.removeIf(0, 6, 0));
    check.dueArgument(x, "removeIf(0, -1, 0)", () -> x.removeIf(0, -1, 0));
    check.dueArgument(x, "removeIf(0, 0, 1000)", () -> x.removeIf(0, 0, 1000));
    check.dueArgument(x, "removeIf(0, 0, -1000)", () -> x.removeIf(0, 0, -1000));
    check.dueIndex(x, "removeIf(2, 6, 1000)", () -> x.removeIf(2, 6, 1000));
    check.dueIndex(x, "removeIf(-1, 0, 0)", () -> x.removeIf(-1, 0, 0));
  }

  private static void removeIfRefused() {
    check.promise(7);
    Loopdefaults x = Check.withRow(0, 1, 2, 3, 4);
    check.due("removeIf, the test refuses", x.removeIf(0, 5, 3), -9);
    check.due("rowText", x.rowText(0), "1 2 3 4");
    check.dueCounts(x, 0, 1, 3, 3, 0, 0);
    x.fix(0, true);
    check.due("removeIf of a fixed row", x.removeIf(0, 3, 1), -9);
    check.due("rowText", x.rowText(0), "1 2 3 4");
    check.dueCounts(x, 0, 2, 5, 5, 0, 0);
    check.due("removeIf of none of a fixed row", x.removeIf(0, 4, 9), 0);
    check.dueCounts(x, 0, 3, 10, 9, 0, 0);
    check.due("house(3)", x.house(3), 2);
    check.dueArgument(x, "removeIf(0, 6, 0) of a fixed row", () -> x.removeIf(0, 6, 0));
    x.fix(0, false);
    check.due("removeIf, not fixed any more", x.removeIf(0, 3, 1), 1);
    check.due("rowText", x.rowText(0), "1");
  }

  private static void replaceAll() {
    check.promise(8);
    Loopdefaults x = Check.withRow(0, 4, -999, 998);
    check.due("replaceAll by rule 0", x.replaceAll(0, 0, 2), 3);
    check.due("rowText", x.rowText(0), "6 -997 999");
    check.due("replaceAll by rule 0", x.replaceAll(0, 0, -5), 3);
    check.due("rowText", x.rowText(0), "1 -999 994");
    check.dueCounts(x, 0, 2, 8, 6, 6, 0);
    check.due("replaceAll by rule 1", x.replaceAll(0, 1, -3), 3);
    check.due("rowText", x.rowText(0), "1 -3 994");
    x.removeIf(0, 3, 900);
    check.due("replaceAll by rule 4", x.replaceAll(0, 4, 1), 2);
    check.due("rowText", x.rowText(0), "2 -2");
    check.due("replaceAll of an empty row", x.replaceAll(1, 4, 1), 0);
    check.dueCounts(x, 1, 1, 1, 0, 0, 0);
    check.due("house(3)", x.house(3), 0);
    for (int rule : new int[] {2, 3, 5, 6, -1}) {
      check.dueArgument(x, "replaceAll by rule " + rule, () -> x.replaceAll(0, rule, 0));
    }
    check.dueArgument(x, "replaceAll(0, 0, 1000)", () -> x.replaceAll(0, 0, 1000));
    check.dueArgument(x, "replaceAll(0, 0, -1000)", () -> x.replaceAll(0, 0, -1000));
    check.dueIndex(x, "replaceAll(2, 2, 1000)", () -> x.replaceAll(2, 2, 1000));
    check.dueIndex(x, "replaceAll(-1, 0, 0)", () -> x.replaceAll(-1, 0, 0));
  }

  private static void replaceAllRefused() {
    check.promise(8);
    Loopdefaults x = Check.withRow(1, 1, 3, 4, 5);
    check.due("replaceAll, the rule refuses", x.replaceAll(1, 4, 1), -9);
    check.due("rowText", x.rowText(1), "2 4 4 5");
    check.dueCounts(x, 1, 1, 3, 3, 2, 0);
    x.fix(1, true);
    check.due("replaceAll of a fixed row", x.replaceAll(1, 0, 1), -9);
    check.dueCounts(x, 1, 2, 4, 4, 2, 0);
    check.due("replaceAll of a fixed row, the rule refuses", x.replaceAll(1, 4, 1), -9);
    check.dueCounts(x, 1, 3, 5, 5, 2, 0);
    check.due("rowText", x.rowText(1), "2 4 4 5");
    check.due("house(3)", x.house(3), 3);
    x.fix(0, true);
    check.due("replaceAll of a fixed empty row", x.replaceAll(0, 0, 1), 0);
    check.due("house(3)", x.house(3), 3);
    Loopdefaults y = Check.withRow(0, -10, -19);
    check.due("replaceAll to -9", y.replaceAll(0, 0, 1), 2);
    check.due("replaceAll to -9", y.replaceAll(0, 1, -9), 2);
    check.due("rowText", y.rowText(0), "-9 -9");
    check.due("house(3)", y.house(3), 0);
  }

  private static void copy() {
    check.promise(9);
    Loopdefaults x = Check.withRow(0, 1, 2, 3);
    x.hear(0, 0);
    x.fix(0, true);
    check.due("copy", x.copy(1), 3);
    check.due("rowText", x.rowText(1), "1 2 3");
    check.due("isFixed", x.isFixed(1), false);
    check.due("isFixed", x.isFixed(0), true);
    check.dueCounts(x, 1, 0, 0, 0, 0, 0);
    check.dueCounts(x, 0, 1, 4, 3, 0, 0);
    x.type(1, 4);
    check.due("the other row", x.rowText(0), "1 2 3");
    check.due("copy to a fixed row", x.copy(0), 4);
    check.due("rowText", x.rowText(0), "1 2 3 4");
    check.due("isFixed", x.isFixed(0), true);
    x.drop(1, 4);
    check.due("copy of none", x.copy(0), 0);
    check.due("rowText", x.rowText(0), "");
    check.dueIndex(x, "copy(2)", () -> x.copy(2));
    check.dueIndex(x, "copy(-1)", () -> x.copy(-1));
    check.dueIndex(x, "copy(MIN)", () -> x.copy(Integer.MIN_VALUE));
  }
}

/** Promises 10 to 22. */
public final class TablesTest {
  private static final Check check = new Check("TablesTest");

  public static void main(String[] args) {
    put();
    remove();
    putIfAbsent();
    replace();
    replaceIf();
    removePair();
    computeIfAbsent();
    computeIfPresent();
    compute();
    merge();
    bounds();
    hearTable();
    replaceTable();
    clear();
    check.end();
  }

  /** COUNTS 5 and 6 of the SHELF, told together: 100 * puts + tellings to go. */
  private static int told(Loopdefaults x) {
    return 100 * x.shelfCounts(5) + x.shelfCounts(6);
  }

  private static void dueTexts(Loopdefaults x, int table, String coming, String sorted) {
    check.due("text(" + table + ")", x.text(table), table == 2 ? sorted : coming);
  }

  private static void put() {
    check.promise(10);
    for (int t = 0; t < 3; t++) {
      int table = t;
      Loopdefaults x = new Loopdefaults();
      check.due("put", x.put(table, 19, -999), -1000);
      check.due("put", x.put(table, 0, 999), -1000);
      check.due("put", x.put(table, 7, -9), -1000);
      check.due("put", x.put(table, 3, 0), -1000);
      dueTexts(x, table, "19=-999 0=999 7=-9 3=0", "0=999 3=0 7=-9 19=-999");
      check.due("put of another value", x.put(table, 0, 5), 999);
      check.due("put of the same value", x.put(table, 7, -9), -9);
      dueTexts(x, table, "19=-999 0=5 7=-9 3=0", "0=5 3=0 7=-9 19=-999");
      x.remove(table, 19);
      check.due("put of one that went", x.put(table, 19, 1), -1000);
      dueTexts(x, table, "0=5 7=-9 3=0 19=1", "0=5 3=0 7=-9 19=1");
      check.due("told", told(x), table == 0 ? 701 : 0);
      check.due("the other tables", x.house(1), 4);
      check.dueArgument(x, "put(t, 20, 0)", () -> x.put(table, 20, 0));
      check.dueArgument(x, "put(t, -1, 0)", () -> x.put(table, -1, 0));
      check.dueArgument(x, "put(t, 0, 1000)", () -> x.put(table, 0, 1000));
      check.dueArgument(x, "put(t, 0, -1000)", () -> x.put(table, 0, -1000));
      check.dueIndex(x, "put(3, 20, 1000)", () -> x.put(3, 20, 1000));
      check.dueIndex(x, "put(-1, 0, 0)", () -> x.put(-1, 0, 0));
    }
    Loopdefaults full = new Loopdefaults();
    for (int key = 19; key >= 0; key--) {
      for (int table = 0; table < 3; table++) {
        check.due("put", full.put(table, key, key), -1000);
      }
    }
    check.due("house(1)", full.house(1), 60);
    check.due("keys", full.text(0).startsWith("19=19 18=18 17=17"), true);
    check.due("keys", full.text(2).startsWith("0=0 1=1 2=2"), true);
  }

  private static void remove() {
    check.promise(11);
    for (int t = 0; t < 3; t++) {
      int table = t;
      Loopdefaults x = Check.withTables(5, 1, 2, -9, 9, 3);
      check.due("remove", x.remove(table, 2), -9);
      dueTexts(x, table, "5=1 9=3", "5=1 9=3");
      check.due("remove of none", x.remove(table, 2), -1000);
      check.due("remove", x.remove(table, 5), 1);
      check.due("remove", x.remove(table, 9), 3);
      check.due("text", x.text(table), "");
      check.due("told", told(x), table == 0 ? 4 : 0);
      check.due("size of the next one", x.size((table + 1) % 3), 3);
      check.dueArgument(x, "remove(t, 20)", () -> x.remove(table, 20));
      check.dueArgument(x, "remove(t, -1)", () -> x.remove(table, -1));
      check.dueIndex(x, "remove(3, 20)", () -> x.remove(3, 20));
      check.dueIndex(x, "remove(-1, 0)", () -> x.remove(-1, 0));
    }
  }

  private static void putIfAbsent() {
    check.promise(12);
    for (int t = 0; t < 3; t++) {
      int table = t;
      Loopdefaults x = Check.withTables(5, 0);
      check.due("putIfAbsent, there", x.putIfAbsent(table, 5, 8), 0);
      check.due("putIfAbsent, not there", x.putIfAbsent(table, 4, 8), -1000);
      dueTexts(x, table, "5=0 4=8", "4=8 5=0");
      check.due("told", told(x), table == 0 ? 100 : 0);
      check.dueArgument(x, "putIfAbsent(t, 20, 0)", () -> x.putIfAbsent(table, 20, 0));
      check.dueArgument(x, "putIfAbsent(t, -1, 0)", () -> x.putIfAbsent(table, -1, 0));
      check.dueArgument(x, "putIfAbsent(t, 5, 1000)", () -> x.putIfAbsent(table, 5, 1000));
      check.dueArgument(x, "putIfAbsent(t, 0, -1000)", () -> x.putIfAbsent(table, 0, -1000));
      check.dueIndex(x, "putIfAbsent(3, 20, 0)", () -> x.putIfAbsent(3, 20, 0));
      check.dueIndex(x, "putIfAbsent(-1, 0, 0)", () -> x.putIfAbsent(-1, 0, 0));
    }
  }

  private static void replace() {
    check.promise(13);
    for (int t = 0; t < 3; t++) {
      int table = t;
      Loopdefaults x = Check.withTables(5, 0, 3, 1);
      check.due("replace, there", x.replace(table, 5, 8), 0);
      check.due("replace, the same", x.replace(table, 5, 8), 8);
      check.due("replace, not there", x.replace(table, 4, 8), -1000);
      dueTexts(x, table, "5=8 3=1", "3=1 5=8");
      check.due("told", told(x), table == 0 ? 200 : 0);
      check.dueArgument(x, "replace(t, 20, 0)", () -> x.replace(table, 20, 0));
      check.dueArgument(x, "replace(t, -1, 0)", () -> x.replace(table, -1, 0));
      check.dueArgument(x, "replace(t, 5, 1000)", () -> x.replace(table, 5, 1000));
      check.dueArgument(x, "replace(t, 0, -1000)", () -> x.replace(table, 0, -1000));
      check.dueIndex(x, "replace(3, 20, 0)", () -> x.replace(3, 20, 0));
      check.dueIndex(x, "replace(-1, 0, 0)", () -> x.replace(-1, 0, 0));
    }
  }

  private static void replaceIf() {
    check.promise(14);
    for (int t = 0; t < 3; t++) {
      int table = t;
      Loopdefaults x = Check.withTables(5, 0, 3, 1);
      check.due("replaceIf", x.replaceIf(table, 5, 0, 8), true);
      check.due("replaceIf, the same", x.replaceIf(table, 5, 8, 8), true);
      check.due("replaceIf, another is there", x.replaceIf(table, 5, 0, 9), false);
      check.due("replaceIf, not there", x.replaceIf(table, 4, 0, 9), false);
      dueTexts(x, table, "5=8 3=1", "3=1 5=8");
      check.due("told", told(x), table == 0 ? 200 : 0);
      check.dueArgument(x, "replaceIf(t, 20, 0, 0)", () -> x.replaceIf(table, 20, 0, 0));
      check.dueArgument(x, "replaceIf(t, -1, 0, 0)", () -> x.replaceIf(table, -1, 0, 0));
      check.dueArgument(x, "replaceIf(t, 0, -1000, 0)", () -> x.replaceIf(table, 0, -1000, 0));
      check.dueArgument(x, "replaceIf(t, 5, 1000, 0)", () -> x.replaceIf(table, 5, 1000, 0));
      check.dueArgument(x, "replaceIf(t, 5, 8, 1000)", () -> x.replaceIf(table, 5, 8, 1000));
      check.dueArgument(x, "replaceIf(t, 5, 8, -1000)", () -> x.replaceIf(table, 5, 8, -1000));
      check.dueIndex(x, "replaceIf(3, 20, 0, 0)", () -> x.replaceIf(3, 20, 0, 0));
      check.dueIndex(x, "replaceIf(-1, 0, 0, 0)", () -> x.replaceIf(-1, 0, 0, 0));
    }
  }

  private static void removePair() {
    check.promise(15);
    for (int t = 0; t < 3; t++) {
      int table = t;
      Loopdefaults x = Check.withTables(5, 0, 3, 1);
      check.due("removePair, another is there", x.removePair(table, 5, 1), false);
      check.due("removePair, not there", x.removePair(table, 4, 0), false);
      check.due("told", told(x), 0);
      check.due("removePair", x.removePair(table, 5, 0), true);
      check.due("removePair, gone", x.removePair(table, 5, 0), false);
      check.due("text", x.text(table), "3=1");
      check.due("told", told(x), table == 0 ? 1 : 0);
      check.dueArgument(x, "removePair(t, 20, 0)", () -> x.removePair(table, 20, 0));
      check.dueArgument(x, "removePair(t, -1, 0)", () -> x.removePair(table, -1, 0));
      check.dueArgument(x, "removePair(t, 0, -1000)", () -> x.removePair(table, 0, -1000));
      check.dueArgument(x, "removePair(t, 3, 1000)", () -> x.removePair(table, 3, 1000));
      check.dueIndex(x, "removePair(3, 20, 0)", () -> x.removePair(3, 20, 0));
      check.dueIndex(x, "removePair(-1, 0, 0)", () -> x.removePair(-1, 0, 0));
    }
  }

  private static void computeIfAbsent() {
    check.promise(16);
    for (int t = 0; t < 3; t++) {
      int table = t;
      Loopdefaults x = Check.withTables(5, 7);
      check.due("there", x.computeIfAbsent(table, 5, 4, 0), 7);
      check.due("there", x.computeIfAbsent(table, 5, 3, 0), 7);
      check.due("rule 0", x.computeIfAbsent(table, 4, 0, -9), -9);
      check.due("rule 1", x.computeIfAbsent(table, 3, 1, -5), 0);
      check.due("rule 2, even", x.computeIfAbsent(table, 2, 2, 6), 6);
      check.due("rule 2, odd", x.computeIfAbsent(table, 1, 2, 7), -1000);
      check.due("rule 3", x.computeIfAbsent(table, 1, 3, 7), -1000);
      check.due("rule 4, odd", x.computeIfAbsent(table, 1, 4, 7), -9);
      check.due("rule 4, even", x.computeIfAbsent(table, 6, 4, 8), 8);
      check.due("rule 5", x.computeIfAbsent(table, 19, 5, 990), 999);
      dueTexts(x, table, "5=7 4=-9 3=0 2=6 6=8 19=999", "2=6 3=0 4=-9 5=7 6=8 19=999");
      check.due("told", told(x), table == 0 ? 500 : 0);
      check.due("house(3)", x.house(3), 1);
      dueReckonThrows(x, "computeIfAbsent", x::computeIfAbsent, table);
    }
  }

  private static void computeIfPresent() {
    check.promise(17);
    for (int t = 0; t < 3; t++) {
      int table = t;
      Loopdefaults x = Check.withTables(5, 7, 4, 3, 3, 1);
      check.due("not there", x.computeIfPresent(table, 0, 0, 0), -1000);
      check.due("not there", x.computeIfPresent(table, 0, 4, 1), -1000);
      check.due("rule 0", x.computeIfPresent(table, 5, 0, -16), -9);
      check.due("rule 4, refused", x.computeIfPresent(table, 5, 4, 0), -9);
      check.due("rule 4", x.computeIfPresent(table, 5, 4, 1), -8);
      check.due("rule 1", x.computeIfPresent(table, 3, 1, 1), 1);
      check.due("rule 5", x.computeIfPresent(table, 3, 5, 1), 4);
      check.due("rule 2, odd", x.computeIfPresent(table, 4, 2, 0), -1000);
      dueTexts(x, table, "5=-8 3=4", "3=4 5=-8");
      check.due("rule 2, even", x.computeIfPresent(table, 5, 2, 0), -8);
      check.due("rule 3", x.computeIfPresent(table, 3, 3, 0), -1000);
      check.due("rule 3, gone", x.computeIfPresent(table, 3, 3, 0), -1000);
      check.due("text", x.text(table), "5=-8");
      check.due("told", told(x), table == 0 ? 502 : 0);
      check.due("house(3)", x.house(3), 1);
      dueReckonThrows(x, "computeIfPresent", x::computeIfPresent, table);
    }
  }

  private static void compute() {
    check.promise(18);
    for (int t = 0; t < 3; t++) {
      int table = t;
      Loopdefaults x = Check.withTables(5, 7, 4, 3);
      check.due("there, rule 0", x.compute(table, 5, 0, 2), 9);
      check.due("not there, rule 0", x.compute(table, 1, 0, 2), 2);
      check.due("not there, rule 1", x.compute(table, 2, 1, -2), 0);
      check.due("not there, rule 5", x.compute(table, 6, 5, -15), -9);
      check.due("not there, rule 4, refused", x.compute(table, 7, 4, 1), -9);
      check.due("there, rule 4, refused", x.compute(table, 5, 4, 0), -9);
      check.due("not there, rule 3", x.compute(table, 7, 3, 0), -1000);
      check.due("not there, rule 2, odd", x.compute(table, 7, 2, 5), -1000);
      dueTexts(x, table, "5=9 4=3 1=2 2=0 6=-9", "1=2 2=0 4=3 5=9 6=-9");
      check.due("told", told(x), table == 0 ? 400 : 0);
      check.due("there, rule 3", x.compute(table, 4, 3, 0), -1000);
      check.due("there, rule 2, odd", x.compute(table, 1, 2, 1), -1000);
      check.due("there, rule 2, even", x.compute(table, 5, 2, 1), 10);
      check.due("came again", x.compute(table, 4, 0, 1), 1);
      dueTexts(x, table, "5=10 2=0 6=-9 4=1", "2=0 4=1 5=10 6=-9");
      check.due("told", told(x), table == 0 ? 602 : 0);
      check.due("house(3)", x.house(3), 2);
      dueReckonThrows(x, "compute", x::compute, table);
    }
  }

  private static void merge() {
    check.promise(19);
    for (int t = 0; t < 3; t++) {
      int table = t;
      Loopdefaults x = Check.withTables(5, 7, 4, 3);
      check.due("not there", x.merge(table, 3, 9, 4), 9);
      check.due("not there", x.merge(table, 2, -9, 3), -9);
      check.due("rule 0", x.merge(table, 5, 999, 0), 999);
      check.due("rule 1", x.merge(table, 4, 12, 1), 12);
      check.due("rule 1", x.merge(table, 4, -12, 1), 12);
      check.due("rule 4, refused", x.merge(table, 4, 1, 4), -9);
      check.due("rule 4", x.merge(table, 4, -2, 4), 10);
      check.due("rule 5", x.merge(table, 3, 50, 5), 53);
      dueTexts(x, table, "5=999 4=10 3=53 2=-9", "2=-9 3=53 4=10 5=999");
      check.due("rule 2, odd", x.merge(table, 4, 1, 2), -1000);
      check.due("rule 2, even", x.merge(table, 3, 1, 2), 54);
      check.due("rule 3", x.merge(table, 5, 0, 3), -1000);
      dueTexts(x, table, "3=54 2=-9", "2=-9 3=54");
      check.due("told", told(x), table == 0 ? 802 : 0);
      check.due("house(3)", x.house(3), 1);
      check.dueArgument(x, "merge(t, 20, 0, 0)", () -> x.merge(table, 20, 0, 0));
      check.dueArgument(x, "merge(t, -1, 0, 0)", () -> x.merge(table, -1, 0, 0));
      check.dueArgument(x, "merge(t, 0, 1000, 0)", () -> x.merge(table, 0, 1000, 0));
      check.dueArgument(x, "merge(t, 0, -1000, 0)", () -> x.merge(table, 0, -1000, 0));
      check.dueArgument(x, "merge(t, 0, 0, 6)", () -> x.merge(table, 0, 0, 6));
      check.dueArgument(x, "merge(t, 3, 0, -1)", () -> x.merge(table, 3, 0, -1));
      check.dueIndex(x, "merge(3, 20, 1000, 6)", () -> x.merge(3, 20, 1000, 6));
      check.dueIndex(x, "merge(-1, 0, 0, 0)", () -> x.merge(-1, 0, 0, 0));
    }
  }

  private interface Reckons {
    int answer(int table, int key, int rule, int number);
  }

  private static void dueReckonThrows(Loopdefaults x, String name, Reckons call, int table) {
    check.dueArgument(x, name + "(t, 20, 0, 0)", () -> call.answer(table, 20, 0, 0));
    check.dueArgument(x, name + "(t, -1, 0, 0)", () -> call.answer(table, -1, 0, 0));
    check.dueArgument(x, name + "(t, 5, 6, 0)", () -> call.answer(table, 5, 6, 0));
    check.dueArgument(x, name + "(t, 5, -1, 0)", () -> call.answer(table, 5, -1, 0));
    check.dueArgument(x, name + "(t, 0, 6, 0)", () -> call.answer(table, 0, 6, 0));
    check.dueArgument(x, name + "(t, 5, 0, 1000)", () -> call.answer(table, 5, 0, 1000));
    check.dueArgument(x, name + "(t, 0, 3, -1000)", () -> call.answer(table, 0, 3, -1000));
    check.dueIndex(x, name + "(3, 20, 6, 1000)", () -> call.answer(3, 20, 6, 1000));
    check.dueIndex(x, name + "(-1, 0, 0, 0)", () -> call.answer(-1, 0, 0, 0));
  }

  /** What a rule is given is bounded, not what it tells by wrapping around. */
  private static void bounds() {
    check.promise(18);
    Loopdefaults x = Check.withTables(1, 999, 2, -999);
    check.due("compute above", x.compute(0, 1, 0, 999), 999);
    check.due("compute below", x.compute(1, 2, 0, -999), -999);
    check.due("rule 2 asks the bounded one", x.compute(2, 1, 2, 1), -1000);
    check.due("rule 4 asks the bounded one", x.compute(0, 2, 4, -1), -9);
  }

  private static void hearTable() {
    check.promise(20);
    for (int t = 0; t < 3; t++) {
      int table = t;
      Loopdefaults x = Check.withTables(5, 7, 0, -999, 19, 999, 1, 0);
      check.due("hearTable", x.hearTable(table, 1), 4);
      String coming = "5007 -999 19999 1000";
      String sorted = "-999 1000 5007 19999";
      check.due("heardText", x.heardText(1), table == 2 ? sorted : coming);
      check.due("sum", x.heard(1, 1), 25007);
      x.stop(0, 19999);
      check.due("hearTable, refused", x.hearTable(table, 0), -9);
      check.due("heardText", x.heardText(0), table == 2 ? "-999 1000 5007" : "5007 -999");
      x.stop(0, 7);
      check.due("hearTable, no such number", x.hearTable(table, 0), 4);
      if (table == 0) {
        check.dueShelfCounts(x, 3, 5 + 3 + 5, 4 + 3 + 4, 0, 0, 0, 0);
      } else {
        check.dueShelfCounts(x, 0, 0, 0, 0, 0, 0, 0);
      }
      check.due("house(3)", x.house(3), 1);
      check.dueIndex(x, "hearTable(t, 2)", () -> x.hearTable(table, 2));
      check.dueIndex(x, "hearTable(t, -1)", () -> x.hearTable(table, -1));
      check.dueIndex(x, "hearTable(3, 0)", () -> x.hearTable(3, 0));
      check.dueIndex(x, "hearTable(-1, 0)", () -> x.hearTable(-1, 0));
    }
    Loopdefaults empty = new Loopdefaults();
    check.due("hearTable of none", empty.hearTable(0, 0), 0);
    check.dueShelfCounts(empty, 1, 1, 0, 0, 0, 0, 0);
  }

  private static void replaceTable() {
    check.promise(21);
    for (int t = 0; t < 3; t++) {
      int table = t;
      Loopdefaults x = Check.withTables(5, 7, 0, -1, 3, 1);
      check.due("rule 0", x.replaceTable(table, 0, 1), 3);
      dueTexts(x, table, "5=8 0=0 3=2", "0=0 3=2 5=8");
      check.due("rule 1", x.replaceTable(table, 1, 2), 3);
      dueTexts(x, table, "5=8 0=2 3=2", "0=2 3=2 5=8");
      check.due("rule 4", x.replaceTable(table, 4, 2), 3);
      dueTexts(x, table, "5=10 0=4 3=4", "0=4 3=4 5=10");
      x.put(table, 0, 5);
      check.due("rule 4, refused", x.replaceTable(table, 4, 2), -9);
      dueTexts(x, table, "5=12 0=5 3=4", "0=5 3=4 5=10");
      check.due("rule 5", x.replaceTable(table, 5, -3), 3);
      dueTexts(x, table, "5=2 0=-3 3=0", "0=-3 3=0 5=2");
      if (table == 0) {
        check.dueShelfCounts(x, 5, 18, 14, 13, 0, 1, 0);
      } else {
        check.dueShelfCounts(x, 0, 0, 0, 0, 0, 0, 0);
      }
      check.due("house(3)", x.house(3), 1);
      for (int r : new int[] {2, 3, 6, -1}) {
        int rule = r;
        check.dueArgument(x, "rule " + rule, () -> x.replaceTable(table, rule, 0));
      }
      check.dueArgument(x, "number 1000", () -> x.replaceTable(table, 0, 1000));
      check.dueArgument(x, "number -1000", () -> x.replaceTable(table, 0, -1000));
      check.dueIndex(x, "replaceTable(3, 2, 0)", () -> x.replaceTable(3, 2, 0));
      check.dueIndex(x, "replaceTable(-1, 0, 0)", () -> x.replaceTable(-1, 0, 0));
      check.due("of -9", Check.withTables(1, -10).replaceTable(table, 0, 1), 1);
      check.due("of none", new Loopdefaults().replaceTable(table, 4, 1), 0);
    }
  }

  private static void clear() {
    check.promise(22);
    for (int t = 0; t < 3; t++) {
      Loopdefaults x = Check.withTables(19, 7, 0, -1, 3, 1);
      check.due("clear", x.clear(t), 3);
      check.due("text", x.text(t), "");
      for (int key = 0; key < 20; key++) {
        check.due("get of " + key, x.get(t, key), -1000);
      }
      check.due("house(1)", x.house(1), 6);
      check.due("clear again", x.clear(t), 0);
      check.due("put behind", x.put(t, 3, 2), -1000);
      check.due("text", x.text(t), "3=2");
      check.due("told", told(x), t == 0 ? 100 : 0);
      check.dueIndex(x, "clear(3)", () -> x.clear(3));
      check.dueIndex(x, "clear(-1)", () -> x.clear(-1));
    }
  }
}

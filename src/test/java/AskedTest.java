/** Promises 30 to 44, sentence by sentence. */
public final class AskedTest {
  private static final String NO_TABLE = "if there is no such TABLE";
  private static final Check check = new Check("AskedTest", 30, 44);

  public static void main(String[] args) {
    length();
    at();
    rowText();
    isFixed();
    counts();
    shelfCounts();
    forgetCounts();
    get();
    getOr();
    has();
    size();
    text();
    areLike();
    given();
    givenThrows();
    tested();
    testedThrows();
    check.end();
  }

  private static void length() {
    check.saysReturns(30, "how many VALUES it has.");
    Loopdefaults x = new Loopdefaults();
    for (int i = 1; i <= 12; i++) {
      x.type(1, 3);
      check.due("length", x.length(1), i);
    }
    check.due("length of the other row", x.length(0), 0);
    x.drop(1, 11);
    check.due("length", x.length(1), 1);
    x.drop(1, 1);
    check.due("length", x.length(1), 0);

    check.saysIndex(30, "if row is not 0 or 1");
    check.indexBounds(0, 1, Check::withFullRows, "length(n)", (y, n) -> y.length(n));
  }

  private static void at() {
    check.saysReturns(31, "the VALUE there.");
    Loopdefaults x = Check.withRow(1, 3, -9, 999, -999);
    check.due("at", x.at(1, 0), 3);
    check.due("at", x.at(1, 1), -9);
    check.due("at", x.at(1, 2), 999);
    check.due("at", x.at(1, 3), -999);
    Loopdefaults full = Check.withFullRows();
    for (int place = 0; place < 12; place++) {
      check.due("at", full.at(0, place), place + 1);
    }
    check.due("house(3)", x.house(3), 0);

    check.saysIndex(31, "if row is not 0 or 1, or there is no such place");
    check.indexBounds(0, 1, Check::withFullRows, "at(n, 0)", (y, n) -> y.at(n, 0));
    check.indexBounds(0, -1, Loopdefaults::new, "at(0, n) of none", (y, n) -> y.at(0, n));
    check.indexBounds(
        0, 0, () -> Check.withRow(1, 7), "at(1, n) of one", (y, n) -> y.at(1, n));
    check.indexBounds(0, 11, Check::withFullRows, "at(1, n) of 12", (y, n) -> y.at(1, n));
    check.dueIndex(x, "at(2, 4)", () -> x.at(2, 4));
    check.dueIndex(x, "at of a place of the other row", () -> x.at(0, 0));
    x.drop(1, 1);
    check.dueIndex(x, "at of one that went", () -> x.at(1, 3));
    x.removeIf(1, 4, 3);
    check.dueIndex(x, "at of one that was taken away", () -> x.at(1, 2));
  }

  private static void rowText() {
    check.saysReturns(32, "its VALUES, with one blank between.");
    Loopdefaults x = Check.withRow(1, -999);
    check.due("rowText of none", x.rowText(0), "");
    check.due("rowText of one", x.rowText(1), "-999");
    x.type(1, 0);
    x.type(1, 12);
    check.due("rowText of 3", x.rowText(1), "-999 0 12");
    check.due("rowText of 12", Check.withFullRows().rowText(0), "1 2 3 4 5 6 7 8 9 10 11 12");

    check.saysIndex(32, "if row is not 0 or 1");
    check.indexBounds(0, 1, Check::withFullRows, "rowText(n)", (y, n) -> y.rowText(n));
  }

  private static void isFixed() {
    check.saysReturns(33, "whether it is FIXED.");
    Loopdefaults x = new Loopdefaults();
    x.fix(1, true);
    check.due("isFixed", x.isFixed(1), true);
    check.due("isFixed", x.isFixed(0), false);
    x.fix(1, false);
    check.due("isFixed", x.isFixed(1), false);

    check.saysIndex(33, "if row is not 0 or 1");
    check.indexBounds(0, 1, Loopdefaults::new, "isFixed(n)", (y, n) -> y.isFixed(n));
  }

  private static void counts() {
    check.says(34, "- `what`: 0 to 4");
    Loopdefaults x = Check.withRow(1, 1, 2, 3);
    x.hear(1, 0);
    x.rest(1, 2, 0);
    x.replaceAll(1, 0, 1);
    x.removeIf(1, 0, 0);
    check.dueCounts(x, 1, 4, 4 + 2 + 4 + 4, 3 + 3 + 3 + 3, 3, 2);
    check.dueCounts(x, 0, 0, 0, 0, 0, 0);

    check.saysReturns(34, "that of its COUNTS.");
    x.hear(0, 0);
    check.dueCounts(x, 0, 1, 1, 0, 0, 0);
    check.dueCounts(x, 1, 4, 14, 12, 3, 2);
    check.dueShelfCounts(x, 0, 0, 0, 0, 0, 0, 0);

    check.saysIndex(34, "if row is not 0 or 1");
    check.indexBounds(0, 1, Check::withFullRows, "counts(n, 0)", (y, n) -> y.counts(n, 0));
    check.dueIndex(x, "counts(2, 5)", () -> x.counts(2, 5));
    check.dueIndex(x, "counts(-1, -1)", () -> x.counts(-1, -1));

    check.saysArgument(34, "if what is not 0 to 4");
    check.argumentBounds(0, 4, Loopdefaults::new, "counts(0, n)", (y, n) -> y.counts(0, n));
    check.argumentBounds(0, 4, Check::withFullRows, "counts(1, n)", (y, n) -> y.counts(1, n));
  }

  private static void shelfCounts() {
    check.says(35, "- `what`: 0 to 6");
    Loopdefaults x = new Loopdefaults();
    x.put(0, 1, 1);
    x.put(0, 2, 2);
    x.replaceTable(0, 0, 1);
    x.hearTable(0, 0);
    x.remove(0, 1);
    x.remove(0, 1);
    x.remove(0, 5);
    check.dueShelfCounts(x, 2, 6, 4, 2, 0, 2, 3);

    check.saysReturns(35, "that of the COUNTS of the SHELF.");
    x.put(1, 2, 2);
    x.put(2, 2, 2);
    x.hearTable(1, 0);
    x.replaceTable(2, 0, 1);
    x.remove(1, 2);
    x.remove(2, 2);
    x.type(0, 1);
    x.hear(0, 0);
    check.dueShelfCounts(x, 2, 6, 4, 2, 0, 2, 3);

    check.saysArgument(35, "if what is not 0 to 6");
    check.argumentBounds(0, 6, Loopdefaults::new, "shelfCounts(n)", (y, n) -> y.shelfCounts(n));
    check.argumentBounds(0, 6, Check::someTables, "shelfCounts(n)", (y, n) -> y.shelfCounts(n));
  }

  private static void forgetCounts() {
    Loopdefaults x = Check.withRow(0, 1, 2);
    check.saysReturns(36, "the sum of all of them before.");
    check.due("forgetCounts of none", x.forgetCounts(), 0);
    x.hear(0, 0);
    check.due("forgetCounts, row 0", x.forgetCounts(), 1 + 3 + 2);
    x.copy(1);
    x.replaceAll(1, 0, 1);
    x.removeIf(1, 0, 0);
    check.due("forgetCounts, row 1", x.forgetCounts(), 1 + 3 + 2 + 2 + 1 + 3 + 2 + 1);
    x.put(0, 1, 1);
    check.due("forgetCounts, a put", x.forgetCounts(), 1);
    x.replaceTable(0, 0, 1);
    check.due("forgetCounts, the shelf", x.forgetCounts(), 1 + 2 + 1 + 1);
    x.remove(0, 7);
    check.due("forgetCounts, a key told to go", x.forgetCounts(), 1);
    x.put(1, 1, 1);
    x.hearTable(1, 0);
    x.remove(2, 1);
    x.hearSpan(1, 9, 1, 0);
    check.due("forgetCounts, what has none", x.forgetCounts(), 0);

    check.says(36, "All COUNTS of ROWS and SHELF are 0 from now on.");
    x.hear(0, 0);
    x.replaceAll(1, 0, 1);
    x.removeIf(1, 0, 0);
    x.put(0, 2, 1);
    x.replaceTable(0, 0, 1);
    x.remove(0, 2);
    x.forgetCounts();
    check.dueCounts(x, 0, 0, 0, 0, 0, 0);
    check.dueCounts(x, 1, 0, 0, 0, 0, 0);
    check.dueShelfCounts(x, 0, 0, 0, 0, 0, 0, 0);
    check.due("rowText", x.rowText(0), "1 2");
    check.due("text", x.text(0), "1=3");
    check.due("house(2)", x.house(2), 14);
    x.hear(0, 0);
    check.dueCounts(x, 0, 1, 3, 2, 0, 0);
  }

  private static void get() {
    check.saysReturns(37, "its VALUE; NOTHING without.");
    for (int table = 0; table < 3; table++) {
      Loopdefaults x = Check.withTables(0, -9, 19, 0, 7, -999, 8, 999);
      check.due("get of -9", x.get(table, 0), -9);
      check.due("get of 0", x.get(table, 19), 0);
      check.due("get of -999", x.get(table, 7), -999);
      check.due("get of 999", x.get(table, 8), 999);
      check.due("get of none", x.get(table, 1), -1000);
      x.remove(table, 0);
      check.due("get of one that went", x.get(table, 0), -1000);
    }
    check.saysIndex(37, NO_TABLE);
    check.tableBounds("get(n, k)", Loopdefaults::get);
    check.saysArgument(37, "if key is not 0 to 19");
    check.keyBounds("get(t, n)", Loopdefaults::get);
  }

  private static void getOr() {
    check.saysReturns(38, "the VALUE of the KEY; the told one without.");
    for (int table = 0; table < 3; table++) {
      Loopdefaults x = Check.withTables(0, -9, 19, 0, 7, -999);
      check.due("getOr of 0", x.getOr(table, 19, 5), 0);
      check.due("getOr of -9", x.getOr(table, 0, 5), -9);
      check.due("getOr of -999", x.getOr(table, 7, 999), -999);
      check.due("getOr of none", x.getOr(table, 1, 5), 5);
      check.due("getOr of none", x.getOr(table, 1, -999), -999);
      check.due("getOr of none", x.getOr(table, 1, 999), 999);
      x.remove(table, 0);
      check.due("getOr of one that went", x.getOr(table, 0, 5), 5);
      check.due("size", x.size(table), 2);
    }
    check.saysIndex(38, NO_TABLE);
    check.tableBounds("getOr(n, k, 0)", (x, t, k) -> x.getOr(t, k, 0));
    check.tableFirst("getOr(n, k, 1000)", (x, t, k) -> x.getOr(t, k, 1000));
    check.saysArgument(38, "if key is not 0 to 19, or value is not -999 to 999");
    check.keyBounds("getOr(t, n, 0)", (x, t, k) -> x.getOr(t, k, 0));
    check.numberBounds(-999, 999, "getOr(t, k, n)", Loopdefaults::getOr);
  }

  private static void has() {
    check.saysReturns(39, "whether it is there.");
    for (int table = 0; table < 3; table++) {
      Loopdefaults x = Check.withTables(0, 0, 19, -999);
      check.due("has", x.has(table, 0), true);
      check.due("has", x.has(table, 19), true);
      check.due("has of none", x.has(table, 1), false);
      check.due("has of none", x.has(table, 18), false);
      x.remove(table, 0);
      check.due("has of one that went", x.has(table, 0), false);
      check.due("has of the other table", x.has((table + 1) % 3, 0), true);
    }
    check.saysIndex(39, NO_TABLE);
    check.tableBounds("has(n, k)", Loopdefaults::has);
    check.saysArgument(39, "if key is not 0 to 19");
    check.keyBounds("has(t, n)", Loopdefaults::has);
  }

  private static void size() {
    check.saysReturns(40, "how many PAIRS it has.");
    Loopdefaults x = new Loopdefaults();
    for (int table = 0; table < 3; table++) {
      check.due("size of none", x.size(table), 0);
      for (int key = 0; key < 20; key++) {
        x.put(table, key, 0);
        check.due("size", x.size(table), key + 1);
      }
      x.put(table, 0, 5);
      check.due("size behind another value", x.size(table), 20);
      x.remove(table, 19);
      x.remove(table, 19);
      check.due("size behind remove", x.size(table), 19);
    }
    check.saysIndex(40, NO_TABLE);
    check.indexBounds(0, 2, Check::someTables, "size(n)", (y, n) -> y.size(n));
  }

  private static void text() {
    check.saysReturns(41, "it as a text.");
    Loopdefaults x = Check.withTables(10, -999, 2, 0, 9, 17);
    check.due("text", x.text(0), "10=-999 2=0 9=17");
    check.due("text", x.text(1), "10=-999 2=0 9=17");
    check.due("text", x.text(2), "2=0 9=17 10=-999");
    for (int table = 0; table < 3; table++) {
      x.clear(table);
      check.due("text of none", x.text(table), "");
      x.put(table, 0, -9);
      check.due("text of one", x.text(table), "0=-9");
    }
    check.saysIndex(41, NO_TABLE);
    check.indexBounds(0, 2, Check::someTables, "text(n)", (y, n) -> y.text(n));
  }

  private static void areLike() {
    check.saysReturns(42, "whether both have the same PAIRS (in whichever sequence).");
    for (int t = 0; t < 3; t++) {
      for (int o = 0; o < 3; o++) {
        areLike(t, o);
      }
    }
    Loopdefaults x = new Loopdefaults();
    for (int key = 0; key < 20; key++) {
      x.put(0, key, key);
      x.put(1, 19 - key, 19 - key);
      check.due("areLike of halves", x.areLike(0, 1), key == 19);
    }

    check.saysIndex(42, "if there is no such TABLE (both)");
    check.indexBounds(0, 2, Check::someTables, "areLike(n, 0)", (y, n) -> y.areLike(n, 0));
    check.indexBounds(0, 2, Check::someTables, "areLike(0, n)", (y, n) -> y.areLike(0, n));
    check.indexBounds(0, 2, Loopdefaults::new, "areLike(n, n)", (y, n) -> y.areLike(n, n));
  }

  private static void areLike(int table, int other) {
    Loopdefaults x = new Loopdefaults();
    boolean isSame = table == other;
    check.due("areLike of none", x.areLike(table, other), true);
    x.put(table, 0, 0);
    check.due("areLike of 0=0 and none", x.areLike(table, other), isSame);
    check.due("areLike of none and 0=0", x.areLike(other, table), isSame);
    x.put(other, 19, -1);
    x.put(other, 0, 0);
    x.put(table, 19, -1);
    check.due("areLike, another sequence", x.areLike(table, other), true);
    x.put(other, 19, 1);
    check.due("areLike, another value", x.areLike(table, other), isSame);
    x.remove(other, 19);
    x.put(other, 18, -1);
    check.due("areLike, another key", x.areLike(table, other), isSame);
  }

  private static void given() {
    check.says(43, "- `value`: a VALUE, or -1000 for NOTHING");
    Loopdefaults x = new Loopdefaults();
    int[] ofNothing = {6, 6, 6, -1000, 6, 11};
    for (int rule = 0; rule <= 5; rule++) {
      check.due("of nothing, rule " + rule, x.given(rule, 5, -1000, 6), ofNothing[rule]);
      check.due("of 0, rule " + rule, x.given(rule, 5, 0, 6), ofNothing[rule]);
    }
    check.due("of nothing", x.given(1, 5, -1000, -7), 0);
    check.due("of -999", x.given(1, 5, -999, -7), -7);
    check.due("of nothing, bounded", x.given(0, 5, -1000, -999), -999);

    check.saysReturns(
        43, "what the RULE tells: a VALUE, -1000 for NOTHING, REFUSED (as a VALUE it may be -9, too).");
    int[][] due = {
      // rule, key, value, number, what it tells
      {0, 5, 3, -12, -9}, {0, 5, 999, 1, 999}, {0, 5, -999, -999, -999},
      {1, 5, 3, 4, 4}, {1, 5, 3, 2, 3}, {1, 5, -9, -10, -9},
      {2, 5, 3, 5, 8}, {2, 5, 3, 4, -1000}, {2, 5, 999, 1, -1000},
      {2, 5, -3, 0, -1000}, {2, 5, -999, -1, -1000}, {2, 5, 998, 0, 998},
      {3, 5, 3, 4, -1000}, {3, 0, -1000, 0, -1000},
      {4, 5, 3, 5, 8}, {4, 5, 3, 4, -9}, {4, 5, 999, 1, -9},
      {4, 5, -3, 0, -9}, {4, 5, -3, -5, -8},
      {5, 5, 3, 4, 9}, {5, 19, 3, 990, 999}, {5, 0, 3, -999, -999}, {5, 1, -1000, -10, -9},
    };
    for (int[] row : due) {
      String call = "given(" + row[0] + ", " + row[1] + ", " + row[2] + ", " + row[3] + ")";
      check.due(call, x.given(row[0], row[1], row[2], row[3]), row[4]);
    }
    check.due("house(3)", x.house(3), 0);
  }

  private static void givenThrows() {
    check.saysArgument(
        43,
        "if key is not 0 to 19, value not -1000 to 999, rule is not 0 to 5, "
            + "or number not -999 to 999");
    check.argumentBounds(0, 5, Loopdefaults::new, "given, rule", (x, n) -> x.given(n, 0, 0, 0));
    for (int r = 0; r <= 5; r++) {
      int rule = r;
      check.argumentBounds(
          0, 19, Loopdefaults::new, "given, key", (x, n) -> x.given(rule, n, 0, 0));
      check.argumentBounds(
          -1000, 999, Loopdefaults::new, "given, value", (x, n) -> x.given(rule, 0, n, 0));
      check.argumentBounds(
          -999, 999, Loopdefaults::new, "given, number", (x, n) -> x.given(rule, 0, 0, n));
    }
    Loopdefaults x = new Loopdefaults();
    check.dueArgument(x, "given, odd, key 20", () -> x.given(4, 20, 0, 1));
  }

  private static void tested() {
    check.saysReturns(44, "1 if it tells yes, 0 if no, REFUSED if it refuses.");
    Loopdefaults x = new Loopdefaults();
    int[][] due = {
      // test, value, number, what it tells
      {0, 4, 1, 1}, {0, -4, 1, 1}, {0, 0, 1, 1}, {0, 3, 1, 0}, {0, -3, 1, 0},
      {1, 4, 1, 0}, {1, 3, 1, 1}, {1, -3, 1, 1}, {1, 0, 1, 0},
      {2, 3, 4, 1}, {2, 4, 4, 0}, {2, 5, 4, 0}, {2, -5, -4, 1},
      {3, 3, 4, 0}, {3, 4, 4, 0}, {3, 5, 4, 1},
      {4, 3, 4, 0}, {4, 4, 4, 1}, {4, 999, 999, 1}, {4, -9, -9, 1},
      {5, 3, 4, 0}, {5, 4, 4, -9}, {5, 5, 4, 0}, {5, -999, -999, -9},
    };
    for (int[] row : due) {
      String call = "tested(" + row[0] + ", " + row[1] + ", " + row[2] + ")";
      check.due(call, x.tested(row[0], row[1], row[2]), row[3]);
    }
    check.due("house(3)", x.house(3), 0);
  }

  private static void testedThrows() {
    check.saysArgument(44, "if test is not 0 to 5, or value or number not -999 to 999");
    check.argumentBounds(0, 5, Loopdefaults::new, "tested, test", (x, n) -> x.tested(n, 0, 0));
    for (int t = 0; t <= 5; t++) {
      int test = t;
      check.argumentBounds(
          -999, 999, Loopdefaults::new, "tested, value", (x, n) -> x.tested(test, n, 0));
      check.argumentBounds(
          -999, 999, Loopdefaults::new, "tested, number", (x, n) -> x.tested(test, 0, n));
    }
    Loopdefaults x = new Loopdefaults();
    check.dueArgument(x, "tested, test 5 of 1000", () -> x.tested(5, 1000, 1000));
    check.dueArgument(x, "tested, test 5 of -1000", () -> x.tested(5, -1000, -1000));
  }
}

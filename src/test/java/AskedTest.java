/** Promises 30 to 44. */
public final class AskedTest {
  private static final Check check = new Check("AskedTest");

  public static void main(String[] args) {
    length();
    at();
    rowText();
    isFixed();
    counts();
    shelfCounts();
    forgetCounts();
    get();
    getOr();
    has();
    size();
    text();
    areLike();
    given();
    givenThrows();
    tested();
    check.end();
  }

  private static void length() {
    check.promise(30);
    Loopdefaults x = Check.withRow(1, 3, 3);
    check.due("length", x.length(1), 2);
    check.due("length", x.length(0), 0);
    x.drop(1, 1);
    check.due("length", x.length(1), 1);
    check.dueIndex(x, "length(2)", () -> x.length(2));
    check.dueIndex(x, "length(-1)", () -> x.length(-1));
  }

  private static void at() {
    check.promise(31);
    Loopdefaults x = Check.withRow(1, 3, -9, 999);
    check.due("at", x.at(1, 0), 3);
    check.due("at", x.at(1, 1), -9);
    check.due("at", x.at(1, 2), 999);
    check.dueIndex(x, "at(1, 3)", () -> x.at(1, 3));
    check.dueIndex(x, "at(1, -1)", () -> x.at(1, -1));
    check.dueIndex(x, "at(0, 0)", () -> x.at(0, 0));
    check.dueIndex(x, "at(2, 0)", () -> x.at(2, 0));
    check.dueIndex(x, "at(-1, 0)", () -> x.at(-1, 0));
    check.dueIndex(x, "at(1, MAX)", () -> x.at(1, Integer.MAX_VALUE));
    x.drop(1, 1);
    check.dueIndex(x, "at of one that went", () -> x.at(1, 2));
    Loopdefaults full = Check.withRow(0, 0, 1, 2, 3, 4, 5, 6, 7, 8, 9, 10, 11);
    check.due("at of a full row", full.at(0, 11), 11);
    check.dueIndex(full, "at(0, 12)", () -> full.at(0, 12));
  }

  private static void rowText() {
    check.promise(32);
    Loopdefaults x = Check.withRow(1, -999);
    check.due("rowText", x.rowText(1), "-999");
    check.due("rowText", x.rowText(0), "");
    x.type(1, 0);
    x.type(1, 12);
    check.due("rowText", x.rowText(1), "-999 0 12");
    check.dueIndex(x, "rowText(2)", () -> x.rowText(2));
    check.dueIndex(x, "rowText(-1)", () -> x.rowText(-1));
  }

  private static void isFixed() {
    check.promise(33);
    Loopdefaults x = new Loopdefaults();
    x.fix(1, true);
    check.due("isFixed", x.isFixed(1), true);
    check.due("isFixed", x.isFixed(0), false);
    x.fix(1, false);
    check.due("isFixed", x.isFixed(1), false);
    check.dueIndex(x, "isFixed(2)", () -> x.isFixed(2));
    check.dueIndex(x, "isFixed(-1)", () -> x.isFixed(-1));
  }

  private static void counts() {
    check.promise(34);
    Loopdefaults x = Check.withRow(1, 1, 2, 3);
    x.hear(1, 0);
    x.rest(1, 2, 0);
    x.replaceAll(1, 0, 1);
    x.removeIf(1, 0, 0);
    check.dueCounts(x, 1, 4, 4 + 2 + 4 + 4, 3 + 3 + 3 + 3, 3, 2);
    check.dueCounts(x, 0, 0, 0, 0, 0, 0);
    check.dueShelfCounts(x, 0, 0, 0, 0, 0, 0, 0);
    x.isSound();
    x.digest();
    x.at(1, 0);
    x.rowText(1);
    x.copy(0);
    check.dueCounts(x, 1, 4, 14, 12, 3, 2);
    check.dueCounts(x, 0, 0, 0, 0, 0, 0);
    check.dueArgument(x, "counts(0, 5)", () -> x.counts(0, 5));
    check.dueArgument(x, "counts(0, -1)", () -> x.counts(0, -1));
    check.dueIndex(x, "counts(2, 5)", () -> x.counts(2, 5));
    check.dueIndex(x, "counts(-1, 0)", () -> x.counts(-1, 0));
  }

  private static void shelfCounts() {
    check.promise(35);
    Loopdefaults x = new Loopdefaults();
    x.put(0, 1, 1);
    x.put(0, 2, 2);
    x.replaceTable(0, 0, 1);
    x.hearTable(0, 0);
    x.remove(0, 1);
    x.remove(0, 1);
    x.remove(0, 5);
    check.dueShelfCounts(x, 2, 6, 4, 2, 0, 2, 3);
    x.get(0, 2);
    x.getOr(0, 2, 0);
    x.has(0, 2);
    x.text(0);
    x.areLike(0, 1);
    x.isSound();
    x.digest();
    x.put(1, 2, 2);
    x.hearTable(1, 0);
    x.replaceTable(2, 0, 1);
    x.remove(2, 2);
    x.clear(0);
    check.dueShelfCounts(x, 2, 6, 4, 2, 0, 2, 3);
    check.dueArgument(x, "shelfCounts(7)", () -> x.shelfCounts(7));
    check.dueArgument(x, "shelfCounts(-1)", () -> x.shelfCounts(-1));
  }

  private static void forgetCounts() {
    check.promise(36);
    Loopdefaults x = Check.withRow(0, 1, 2);
    check.due("forgetCounts of none", x.forgetCounts(), 0);
    x.copy(1);
    x.hear(0, 0);
    x.replaceAll(1, 0, 1);
    x.put(0, 1, 1);
    x.put(1, 1, 1);
    x.hearTable(1, 0);
    x.hearTable(0, 0);
    x.remove(0, 7);
    check.due("forgetCounts", x.forgetCounts(), 1 + 3 + 2 + 1 + 3 + 2 + 2 + 1 + 1 + 2 + 1 + 1);
    check.dueCounts(x, 0, 0, 0, 0, 0, 0);
    check.dueCounts(x, 1, 0, 0, 0, 0, 0);
    check.dueShelfCounts(x, 0, 0, 0, 0, 0, 0, 0);
    check.due("forgetCounts", x.forgetCounts(), 0);
    check.due("rowText", x.rowText(1), "2 3");
    check.due("text", x.text(0), "1=1");
  }

  private static void get() {
    check.promise(37);
    for (int t = 0; t < 3; t++) {
      int table = t;
      Loopdefaults x = Check.withTables(0, -9, 19, 0);
      check.due("get", x.get(table, 0), -9);
      check.due("get", x.get(table, 19), 0);
      check.due("get of none", x.get(table, 1), -1000);
      check.dueArgument(x, "get(t, 20)", () -> x.get(table, 20));
      check.dueArgument(x, "get(t, -1)", () -> x.get(table, -1));
      check.dueIndex(x, "get(3, 20)", () -> x.get(3, 20));
      check.dueIndex(x, "get(-1, 0)", () -> x.get(-1, 0));
    }
  }

  private static void getOr() {
    check.promise(38);
    for (int t = 0; t < 3; t++) {
      int table = t;
      Loopdefaults x = Check.withTables(0, -9, 19, 0);
      check.due("getOr", x.getOr(table, 19, 5), 0);
      check.due("getOr of none", x.getOr(table, 1, 5), 5);
      check.due("text", x.text(table), "0=-9 19=0");
      check.dueArgument(x, "getOr(t, 20, 0)", () -> x.getOr(table, 20, 0));
      check.dueArgument(x, "getOr(t, -1, 0)", () -> x.getOr(table, -1, 0));
      check.dueArgument(x, "getOr(t, 0, 1000)", () -> x.getOr(table, 0, 1000));
      check.dueArgument(x, "getOr(t, 1, -1000)", () -> x.getOr(table, 1, -1000));
      check.dueIndex(x, "getOr(3, 20, 1000)", () -> x.getOr(3, 20, 1000));
      check.dueIndex(x, "getOr(-1, 0, 0)", () -> x.getOr(-1, 0, 0));
    }
  }

  private static void has() {
    check.promise(39);
    for (int t = 0; t < 3; t++) {
      int table = t;
      Loopdefaults x = Check.withTables(0, 0, 19, 0);
      check.due("has", x.has(table, 0), true);
      check.due("has of none", x.has(table, 1), false);
      x.remove(table, 0);
      check.due("has of one that went", x.has(table, 0), false);
      check.dueArgument(x, "has(t, 20)", () -> x.has(table, 20));
      check.dueArgument(x, "has(t, -1)", () -> x.has(table, -1));
      check.dueIndex(x, "has(3, 20)", () -> x.has(3, 20));
      check.dueIndex(x, "has(-1, 0)", () -> x.has(-1, 0));
    }
  }

  private static void size() {
    check.promise(40);
    Loopdefaults x = Check.withTables(0, 0, 19, 0);
    for (int table = 0; table < 3; table++) {
      check.due("size", x.size(table), 2);
      x.put(table, 0, 5);
      check.due("size", x.size(table), 2);
      x.put(table, 1, 5);
      check.due("size", x.size(table), 3);
      x.remove(table, 19);
      check.due("size", x.size(table), 2);
    }
    check.dueIndex(x, "size(3)", () -> x.size(3));
    check.dueIndex(x, "size(-1)", () -> x.size(-1));
  }

  private static void text() {
    check.promise(41);
    Loopdefaults x = Check.withTables(10, -999, 2, 0, 9, 17);
    check.due("text", x.text(0), "10=-999 2=0 9=17");
    check.due("text", x.text(1), "10=-999 2=0 9=17");
    check.due("text", x.text(2), "2=0 9=17 10=-999");
    x.clear(1);
    check.due("text of none", x.text(1), "");
    check.dueIndex(x, "text(3)", () -> x.text(3));
    check.dueIndex(x, "text(-1)", () -> x.text(-1));
  }

  private static void areLike() {
    check.promise(42);
    Loopdefaults x = Check.withTables(5, 1, 2, 3);
    for (int table = 0; table < 3; table++) {
      for (int other = 0; other < 3; other++) {
        check.due("areLike", x.areLike(table, other), true);
      }
    }
    x.remove(0, 5);
    check.due("areLike, one less", x.areLike(0, 1), false);
    check.due("areLike, one more", x.areLike(1, 0), false);
    x.put(0, 5, 1);
    check.due("areLike, another sequence", x.areLike(0, 1), true);
    x.put(0, 5, 2);
    check.due("areLike, another value", x.areLike(0, 1), false);
    check.due("areLike, another value", x.areLike(2, 0), false);
    x.remove(0, 5);
    x.put(0, 6, 1);
    check.due("areLike, another key", x.areLike(0, 1), false);
    check.dueIndex(x, "areLike(3, 0)", () -> x.areLike(3, 0));
    check.dueIndex(x, "areLike(0, 3)", () -> x.areLike(0, 3));
    check.dueIndex(x, "areLike(-1, 0)", () -> x.areLike(-1, 0));
    check.dueIndex(x, "areLike(0, -1)", () -> x.areLike(0, -1));
    Loopdefaults none = new Loopdefaults();
    check.due("areLike of none", none.areLike(0, 2), true);
    none.put(0, 0, 0);
    check.due("areLike of 0 and none", none.areLike(0, 2), false);
  }

  private static void given() {
    check.promise(43);
    Loopdefaults x = new Loopdefaults();
    int[][] due = {
      // rule, key, value, number, what it tells
      {0, 5, 3, -12, -9}, {0, 5, 999, 1, 999}, {0, 5, -999, -999, -999}, {0, 5, -1000, 7, 7},
      {1, 5, 3, 4, 4}, {1, 5, 3, 2, 3}, {1, 5, -1000, -7, 0}, {1, 5, -1000, 7, 7},
      {2, 5, 3, 5, 8}, {2, 5, 3, 4, -1000}, {2, 5, 999, 1, -1000}, {2, 5, -1000, -4, -4},
      {2, 5, -3, 0, -1000}, {2, 5, -999, -1, -1000}, {2, 5, 998, 0, 998},
      {3, 5, 3, 4, -1000}, {3, 0, -1000, 0, -1000},
      {4, 5, 3, 5, 8}, {4, 5, 3, 4, -9}, {4, 5, 999, 1, -9}, {4, 5, -1000, 6, 6},
      {4, 5, -3, 0, -9}, {4, 5, -3, -5, -8},
      {5, 5, 3, 4, 9}, {5, 19, 3, 990, 999}, {5, 0, 3, -999, -999}, {5, 1, -1000, -10, -9},
    };
    for (int[] row : due) {
      String call = "given(" + row[0] + ", " + row[1] + ", " + row[2] + ", " + row[3] + ")";
      check.due(call, x.given(row[0], row[1], row[2], row[3]), row[4]);
    }
    check.due("house(3)", x.house(3), 0);
  }

  private static void givenThrows() {
    check.promise(43);
    Loopdefaults x = new Loopdefaults();
    check.dueArgument(x, "given, rule 6", () -> x.given(6, 0, 0, 0));
    check.dueArgument(x, "given, rule -1", () -> x.given(-1, 0, 0, 0));
    check.dueArgument(x, "given, key 20", () -> x.given(0, 20, 0, 0));
    check.dueArgument(x, "given, key -1", () -> x.given(0, -1, 0, 0));
    check.dueArgument(x, "given, value 1000", () -> x.given(0, 0, 1000, 0));
    check.dueArgument(x, "given, value -1001", () -> x.given(0, 0, -1001, 0));
    check.dueArgument(x, "given, number 1000", () -> x.given(0, 0, 0, 1000));
    check.dueArgument(x, "given, number -1000", () -> x.given(0, 0, 0, -1000));
  }

  private static void tested() {
    check.promise(44);
    Loopdefaults x = new Loopdefaults();
    int[][] due = {
      // test, value, number, what it tells
      {0, 4, 1, 1}, {0, -4, 1, 1}, {0, 0, 1, 1}, {0, 3, 1, 0}, {0, -3, 1, 0},
      {1, 4, 1, 0}, {1, 3, 1, 1}, {1, -3, 1, 1}, {1, 0, 1, 0},
      {2, 3, 4, 1}, {2, 4, 4, 0}, {2, 5, 4, 0}, {2, -5, -4, 1},
      {3, 3, 4, 0}, {3, 4, 4, 0}, {3, 5, 4, 1},
      {4, 3, 4, 0}, {4, 4, 4, 1}, {4, 999, 999, 1},
      {5, 3, 4, 0}, {5, 4, 4, -9}, {5, 5, 4, 0},
    };
    for (int[] row : due) {
      String call = "tested(" + row[0] + ", " + row[1] + ", " + row[2] + ")";
      check.due(call, x.tested(row[0], row[1], row[2]), row[3]);
    }
    check.due("house(3)", x.house(3), 0);
    check.dueArgument(x, "tested, test 6", () -> x.tested(6, 0, 0));
    check.dueArgument(x, "tested, test -1", () -> x.tested(-1, 0, 0));
    check.dueArgument(x, "tested, value 1000", () -> x.tested(0, 1000, 0));
    check.dueArgument(x, "tested, value -1000", () -> x.tested(0, -1000, 0));
    check.dueArgument(x, "tested, number 1000", () -> x.tested(0, 0, 1000));
    check.dueArgument(x, "tested, number -1000", () -> x.tested(0, 0, -1000));
  }
}

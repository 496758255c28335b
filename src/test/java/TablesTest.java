/** Promises 10 to 22, sentence by sentence; what they do is told for each of the three tables. */
public final class TablesTest {
  private static final String NO_TABLE = "if there is no such TABLE";
  private static final String KEY_OR_VALUE =
      "if key is not 0 to 19, or value is not -999 to 999";
  private static final String KEY_OR_RULE_OR_NUMBER =
      "if key is not 0 to 19, rule is not 0 to 5, or number not -999 to 999";
  private static final String REFUSED = "REFUSED if the RULE refused.";
  private static final Check check = new Check("TablesTest", 10, 22);

  public static void main(String[] args) {
    for (int table = 0; table < 3; table++) {
      put(table);
      remove(table);
      putIfAbsent(table);
      replace(table);
      replaceIf(table);
      removePair(table);
      computeIfAbsent(table);
      computeIfPresent(table);
      compute(table);
      merge(table);
      hearTable(table);
      replaceTable(table);
      clear(table);
    }
    putThrows();
    removeThrows();
    putIfAbsentThrows();
    replaceThrows();
    replaceIfThrows();
    removePairThrows();
    reckonThrows(16, "computeIfAbsent", (x, t, k, r, n) -> x.computeIfAbsent(t, k, r, n));
    reckonThrows(17, "computeIfPresent", (x, t, k, r, n) -> x.computeIfPresent(t, k, r, n));
    reckonThrows(18, "compute", (x, t, k, r, n) -> x.compute(t, k, r, n));
    mergeThrows();
    hearTableThrows();
    replaceTableThrows();
    clearThrows();
    check.end();
  }

  /** COUNTS 5 and 6 of the SHELF; the other tables have none. */
  private static void dueTold(Loopdefaults x, int table, int puts, int tellings) {
    check.due("puts", x.shelfCounts(5), table == 0 ? puts : 0);
    check.due("keys told to go", x.shelfCounts(6), table == 0 ? tellings : 0);
  }

  private static void dueTexts(Loopdefaults x, int table, String coming, String sorted) {
    check.due("text(" + table + ")", x.text(table), table == 2 ? sorted : coming);
  }

  private static void put(int table) {
    check.says(10, "Puts a PAIR.");
    Loopdefaults x = new Loopdefaults();
    x.put(table, 19, -999);
    x.put(table, 0, 999);
    x.put(table, 7, -9);
    x.put(table, 3, 0);
    dueTexts(x, table, "19=-999 0=999 7=-9 3=0", "0=999 3=0 7=-9 19=-999");
    x.put(table, 0, 5);
    x.put(table, 7, -9);
    dueTexts(x, table, "19=-999 0=5 7=-9 3=0", "0=5 3=0 7=-9 19=-999");
    x.remove(table, 19);
    x.put(table, 19, 1);
    dueTexts(x, table, "0=5 7=-9 3=0 19=1", "0=5 3=0 7=-9 19=1");
    dueTold(x, table, 7, 1);
    check.due("the other tables", x.house(1), 4);

    check.saysReturns(10, "the VALUE before; NOTHING without.");
    Loopdefaults y = new Loopdefaults();
    int[] values = {-999, -9, -1, 0, 999, 999};
    int before = -1000;
    for (int value : values) {
      check.due("put of " + value, y.put(table, 5, value), before);
      before = value;
    }
    y.remove(table, 5);
    check.due("put of one that went", y.put(table, 5, 1), -1000);
    for (int key = 0; key < 20; key++) {
      check.due("put of key " + key, y.put(table, key, key), key == 5 ? 1 : -1000);
    }
    check.due("size of a full table", y.size(table), 20);
    check.due("put on a full table", y.put(table, 19, 7), 19);
  }

  private static void putThrows() {
    check.saysIndex(10, NO_TABLE);
    check.tableBounds("put(n, k, 0)", (x, t, k) -> x.put(t, k, 0));
    check.tableFirst("put(n, k, 1000)", (x, t, k) -> x.put(t, k, 1000));
    check.saysArgument(10, KEY_OR_VALUE);
    check.keyBounds("put(t, n, 0)", (x, t, k) -> x.put(t, k, 0));
    check.numberBounds(-999, 999, "put(t, k, n)", Loopdefaults::put);
  }

  private static void remove(int table) {
    check.says(11, "A KEY is told to go.");
    Loopdefaults x = Check.withTables(5, 1, 2, -9, 9, 3);
    x.remove(table, 2);
    dueTexts(x, table, "5=1 9=3", "5=1 9=3");
    x.remove(table, 5);
    x.remove(table, 9);
    check.due("text", x.text(table), "");
    x.remove(table, 9);
    dueTold(x, table, 0, 4);
    check.due("size of the next one", x.size((table + 1) % 3), 3);

    check.saysReturns(11, "its VALUE; NOTHING without.");
    Loopdefaults y = Check.withTables(0, -999, 19, 999, 3, -9, 4, -1, 5, 0);
    check.due("remove of none", y.remove(table, 1), -1000);
    check.due("remove of -999", y.remove(table, 0), -999);
    check.due("remove of 999", y.remove(table, 19), 999);
    check.due("remove of -9", y.remove(table, 3), -9);
    check.due("remove of -1", y.remove(table, 4), -1);
    check.due("remove of 0", y.remove(table, 5), 0);
    check.due("remove of one that went", y.remove(table, 5), -1000);
    check.due("house(3)", y.house(3), 0);
  }

  private static void removeThrows() {
    check.saysIndex(11, NO_TABLE);
    check.tableBounds("remove(n, k)", Loopdefaults::remove);
    check.saysArgument(11, "if key is not 0 to 19");
    check.keyBounds("remove(t, n)", Loopdefaults::remove);
  }

  private static void putIfAbsent(int table) {
    check.saysReturns(12, "the VALUE that was there; NOTHING if it was put.");
    Loopdefaults x = Check.withTables(5, 0, 6, -999, 7, -9);
    check.due("putIfAbsent, 0 is there", x.putIfAbsent(table, 5, 8), 0);
    check.due("putIfAbsent, -999 is there", x.putIfAbsent(table, 6, 8), -999);
    check.due("putIfAbsent, -9 is there", x.putIfAbsent(table, 7, -9), -9);
    dueTold(x, table, 0, 0);
    check.due("putIfAbsent, not there", x.putIfAbsent(table, 4, 8), -1000);
    check.due("putIfAbsent, there now", x.putIfAbsent(table, 4, 9), 8);
    dueTexts(x, table, "5=0 6=-999 7=-9 4=8", "4=8 5=0 6=-999 7=-9");
    dueTold(x, table, 1, 0);
    x.remove(table, 5);
    check.due("putIfAbsent of one that went", x.putIfAbsent(table, 5, -999), -1000);
    dueTexts(x, table, "6=-999 7=-9 4=8 5=-999", "4=8 5=-999 6=-999 7=-9");
  }

  private static void putIfAbsentThrows() {
    check.saysIndex(12, NO_TABLE);
    check.tableBounds("putIfAbsent(n, k, 0)", (x, t, k) -> x.putIfAbsent(t, k, 0));
    check.tableFirst("putIfAbsent(n, k, -1000)", (x, t, k) -> x.putIfAbsent(t, k, -1000));
    check.saysArgument(12, KEY_OR_VALUE);
    check.keyBounds("putIfAbsent(t, n, 0)", (x, t, k) -> x.putIfAbsent(t, k, 0));
    check.numberBounds(-999, 999, "putIfAbsent(t, k, n)", Loopdefaults::putIfAbsent);
  }

  private static void replace(int table) {
    check.saysReturns(13, "the VALUE before; NOTHING without.");
    Loopdefaults x = Check.withTables(5, 0, 3, -999);
    check.due("replace, not there", x.replace(table, 4, 8), -1000);
    dueTold(x, table, 0, 0);
    check.due("replace, 0 is there", x.replace(table, 5, 8), 0);
    check.due("replace, the same", x.replace(table, 5, 8), 8);
    check.due("replace, -999 is there", x.replace(table, 3, -9), -999);
    check.due("replace, -9 is there", x.replace(table, 3, 1), -9);
    dueTexts(x, table, "5=8 3=1", "3=1 5=8");
    dueTold(x, table, 4, 0);
    x.remove(table, 5);
    check.due("replace of one that went", x.replace(table, 5, 8), -1000);
    check.due("text", x.text(table), "3=1");
  }

  private static void replaceThrows() {
    check.saysIndex(13, NO_TABLE);
    check.tableBounds("replace(n, k, 0)", (x, t, k) -> x.replace(t, k, 0));
    check.tableFirst("replace(n, k, 1000)", (x, t, k) -> x.replace(t, k, 1000));
    check.saysArgument(13, KEY_OR_VALUE);
    check.keyBounds("replace(t, n, 0)", (x, t, k) -> x.replace(t, k, 0));
    check.numberBounds(-999, 999, "replace(t, k, n)", Loopdefaults::replace);
  }

  private static void replaceIf(int table) {
    check.saysReturns(14, "whether it was put.");
    Loopdefaults x = Check.withTables(5, 0, 3, 1);
    check.due("replaceIf, one less is there", x.replaceIf(table, 5, 1, 9), false);
    check.due("replaceIf, one more is there", x.replaceIf(table, 5, -1, 9), false);
    check.due("replaceIf, not there", x.replaceIf(table, 4, 0, 9), false);
    check.due("replaceIf, not there", x.replaceIf(table, 4, -999, 9), false);
    dueTold(x, table, 0, 0);
    check.due("replaceIf", x.replaceIf(table, 5, 0, -999), true);
    check.due("replaceIf, the same", x.replaceIf(table, 5, -999, -999), true);
    check.due("replaceIf, what was there before", x.replaceIf(table, 5, 0, 9), false);
    check.due("replaceIf to 999", x.replaceIf(table, 5, -999, 999), true);
    check.due("replaceIf of 999", x.replaceIf(table, 5, 999, 8), true);
    dueTexts(x, table, "5=8 3=1", "3=1 5=8");
    dueTold(x, table, 4, 0);
  }

  private static void replaceIfThrows() {
    check.saysIndex(14, NO_TABLE);
    check.tableBounds("replaceIf(n, k, 7, 0)", (x, t, k) -> x.replaceIf(t, k, 7, 0));
    check.tableFirst("replaceIf(n, k, 1000, 0)", (x, t, k) -> x.replaceIf(t, k, 1000, 0));
    check.tableFirst("replaceIf(n, k, 7, -1000)", (x, t, k) -> x.replaceIf(t, k, 7, -1000));
    check.saysArgument(14, "if key is not 0 to 19, or old or value not -999 to 999");
    check.keyBounds("replaceIf(t, n, 7, 0)", (x, t, k) -> x.replaceIf(t, k, 7, 0));
    check.numberBounds(-999, 999, "replaceIf(t, k, n, 0)", (x, t, k, n) -> x.replaceIf(t, k, n, 0));
    check.numberBounds(-999, 999, "replaceIf(t, k, 7, n)", (x, t, k, n) -> x.replaceIf(t, k, 7, n));
    check.numberBounds(-999, 999, "replaceIf(t, k, 8, n)", (x, t, k, n) -> x.replaceIf(t, k, 8, n));
    Loopdefaults x = new Loopdefaults();
    // What a table answers for a key that is not there is no old value.
    check.dueArgument(x, "replaceIf(0, 4, -1000, 0)", () -> x.replaceIf(0, 4, -1000, 0));
  }

  private static void removePair(int table) {
    check.saysReturns(15, "whether it went.");
    Loopdefaults x = Check.withTables(5, 0, 3, -999, 2, 999);
    check.due("removePair, one less is there", x.removePair(table, 5, 1), false);
    check.due("removePair, one more is there", x.removePair(table, 5, -1), false);
    check.due("removePair, not there", x.removePair(table, 4, 0), false);
    check.due("removePair, not there", x.removePair(table, 4, -999), false);
    dueTold(x, table, 0, 0);
    check.due("removePair", x.removePair(table, 5, 0), true);
    check.due("removePair, gone", x.removePair(table, 5, 0), false);
    dueTexts(x, table, "3=-999 2=999", "2=999 3=-999");
    check.due("removePair of -999", x.removePair(table, 3, -999), true);
    check.due("removePair of 999", x.removePair(table, 2, 999), true);
    check.due("text", x.text(table), "");
    dueTold(x, table, 0, 3);
  }

  private static void removePairThrows() {
    check.saysIndex(15, NO_TABLE);
    check.tableBounds("removePair(n, k, 7)", (x, t, k) -> x.removePair(t, k, 7));
    check.tableFirst("removePair(n, k, 1000)", (x, t, k) -> x.removePair(t, k, 1000));
    check.saysArgument(15, KEY_OR_VALUE);
    check.keyBounds("removePair(t, n, 7)", (x, t, k) -> x.removePair(t, k, 7));
    check.numberBounds(-999, 999, "removePair(t, k, n)", Loopdefaults::removePair);
    Loopdefaults x = new Loopdefaults();
    check.dueArgument(x, "removePair(0, 4, -1000)", () -> x.removePair(0, 4, -1000));
  }

  private static void computeIfAbsent(int table) {
    check.saysReturns(16, "the VALUE then; NOTHING without;");
    Loopdefaults x = Check.withTables(5, 7, 8, -999, 9, -9);
    for (int rule = 0; rule <= 5; rule++) {
      check.due("there, rule " + rule, x.computeIfAbsent(table, 5, rule, 0), 7);
      check.due("-999 is there, rule " + rule, x.computeIfAbsent(table, 8, rule, 1), -999);
      check.due("-9 is there, rule " + rule, x.computeIfAbsent(table, 9, rule, 1), -9);
    }
    check.due("rule 2, odd", x.computeIfAbsent(table, 1, 2, 7), -1000);
    check.due("rule 3", x.computeIfAbsent(table, 1, 3, 7), -1000);
    dueTold(x, table, 0, 0);
    check.due("rule 0", x.computeIfAbsent(table, 4, 0, -9), -9);
    check.due("rule 1, below 0", x.computeIfAbsent(table, 3, 1, -5), 0);
    check.due("rule 2, even", x.computeIfAbsent(table, 2, 2, 6), 6);
    check.due("rule 4, even", x.computeIfAbsent(table, 6, 4, 8), 8);
    check.due("rule 5", x.computeIfAbsent(table, 19, 5, 990), 999);
    dueTexts(
        x,
        table,
        "5=7 8=-999 9=-9 4=-9 3=0 2=6 6=8 19=999",
        "2=6 3=0 4=-9 5=7 6=8 8=-999 9=-9 19=999");
    dueTold(x, table, 5, 0);
    check.due("house(3)", x.house(3), 0);

    check.says(16, REFUSED);
    String before = x.text(table);
    check.due("rule 4, odd", x.computeIfAbsent(table, 1, 4, 7), -9);
    check.due("rule 4, odd below 0", x.computeIfAbsent(table, 1, 4, -999), -9);
    check.due("house(3)", x.house(3), 2);
    check.due("there, odd, is not asked", x.computeIfAbsent(table, 5, 4, 0), 7);
    check.due("house(3)", x.house(3), 2);
    check.due("text", x.text(table), before);
    dueTold(x, table, 5, 0);
  }

  private static void computeIfPresent(int table) {
    check.saysReturns(17, "the VALUE then; NOTHING without;");
    Loopdefaults x = Check.withTables(5, 7, 4, 3, 3, -999);
    for (int rule = 0; rule <= 5; rule++) {
      check.due("not there, rule " + rule, x.computeIfPresent(table, 0, rule, 1), -1000);
    }
    dueTold(x, table, 0, 0);
    check.due("rule 0", x.computeIfPresent(table, 5, 0, -16), -9);
    check.due("rule 4", x.computeIfPresent(table, 5, 4, 1), -8);
    check.due("rule 1", x.computeIfPresent(table, 3, 1, 1), 1);
    check.due("rule 5", x.computeIfPresent(table, 3, 5, 1), 4);
    check.due("rule 2, odd", x.computeIfPresent(table, 4, 2, 0), -1000);
    dueTexts(x, table, "5=-8 3=4", "3=4 5=-8");
    check.due("rule 2, even", x.computeIfPresent(table, 5, 2, 0), -8);
    dueTold(x, table, 5, 1);
    check.due("rule 3", x.computeIfPresent(table, 3, 3, 0), -1000);
    check.due("rule 3, gone", x.computeIfPresent(table, 3, 3, 0), -1000);
    check.due("text", x.text(table), "5=-8");
    dueTold(x, table, 5, 2);
    check.due("house(3)", x.house(3), 0);

    check.says(17, REFUSED);
    check.due("rule 4, odd", x.computeIfPresent(table, 5, 4, 1), -9);
    check.due("house(3)", x.house(3), 1);
    check.due("not there, odd, is not asked", x.computeIfPresent(table, 4, 4, 1), -1000);
    check.due("house(3)", x.house(3), 1);
    check.due("text", x.text(table), "5=-8");
    dueTold(x, table, 5, 2);
  }

  private static void compute(int table) {
    check.saysReturns(18, "the VALUE then; NOTHING without;");
    Loopdefaults x = Check.withTables(5, 7, 4, 3);
    check.due("not there, rule 3", x.compute(table, 7, 3, 0), -1000);
    check.due("not there, rule 2, odd", x.compute(table, 7, 2, 5), -1000);
    dueTold(x, table, 0, 0);
    check.due("there, rule 0", x.compute(table, 5, 0, 2), 9);
    check.due("not there, rule 0", x.compute(table, 1, 0, 2), 2);
    check.due("not there, rule 1", x.compute(table, 2, 1, -2), 0);
    check.due("not there, rule 5", x.compute(table, 6, 5, -15), -9);
    dueTexts(x, table, "5=9 4=3 1=2 2=0 6=-9", "1=2 2=0 4=3 5=9 6=-9");
    dueTold(x, table, 4, 0);
    check.due("there, rule 3", x.compute(table, 4, 3, 0), -1000);
    check.due("there, rule 2, odd", x.compute(table, 1, 2, 1), -1000);
    dueTold(x, table, 4, 2);
    check.due("there, rule 2, even", x.compute(table, 5, 2, 1), 10);
    check.due("came again", x.compute(table, 4, 0, 1), 1);
    dueTexts(x, table, "5=10 2=0 6=-9 4=1", "2=0 4=1 5=10 6=-9");
    dueTold(x, table, 6, 2);
    check.due("house(3)", x.house(3), 0);

    check.says(18, REFUSED);
    check.due("not there, rule 4, odd", x.compute(table, 7, 4, 1), -9);
    check.due("there, rule 4, odd", x.compute(table, 5, 4, -1), -9);
    check.due("house(3)", x.house(3), 2);
    dueTexts(x, table, "5=10 2=0 6=-9 4=1", "2=0 4=1 5=10 6=-9");
    dueTold(x, table, 6, 2);
    check.due("there, rule 4, even", x.compute(table, 5, 4, -2), 8);
    check.due("not there, rule 4, even", x.compute(table, 7, 4, -2), -2);
    check.due("house(3)", x.house(3), 2);
  }

  private static void merge(int table) {
    check.saysReturns(19, "the VALUE then; NOTHING without;");
    Loopdefaults x = Check.withTables(5, 7, 4, 3);
    for (int rule = 0; rule <= 5; rule++) {
      check.due("not there, rule " + rule, x.merge(table, 10 + rule, -999, rule), -999);
      x.remove(table, 10 + rule);
    }
    dueTold(x, table, 6, 6);
    check.due("not there, to -9", x.merge(table, 2, -9, 3), -9);
    check.due("not there, odd", x.merge(table, 3, 9, 4), 9);
    check.due("rule 0", x.merge(table, 5, 999, 0), 999);
    check.due("rule 1", x.merge(table, 4, 12, 1), 12);
    check.due("rule 1", x.merge(table, 4, -12, 1), 12);
    check.due("rule 4", x.merge(table, 4, -2, 4), 10);
    check.due("rule 5", x.merge(table, 3, 50, 5), 53);
    dueTexts(x, table, "5=999 4=10 2=-9 3=53", "2=-9 3=53 4=10 5=999");
    dueTold(x, table, 13, 6);
    check.due("rule 2, odd", x.merge(table, 4, 1, 2), -1000);
    check.due("rule 2, even", x.merge(table, 3, 1, 2), 54);
    check.due("rule 3", x.merge(table, 5, 0, 3), -1000);
    dueTexts(x, table, "2=-9 3=54", "2=-9 3=54");
    dueTold(x, table, 14, 8);
    check.due("house(3)", x.house(3), 0);

    check.says(19, REFUSED);
    check.due("rule 4, odd", x.merge(table, 3, 1, 4), -9);
    check.due("house(3)", x.house(3), 1);
    dueTexts(x, table, "2=-9 3=54", "2=-9 3=54");
    dueTold(x, table, 14, 8);
    check.due("not there, odd, is not asked", x.merge(table, 4, 1, 4), 1);
    check.due("house(3)", x.house(3), 1);
  }

  private interface Reckons {
    int answer(Loopdefaults x, int table, int key, int rule, int number);
  }

  private static void reckonThrows(int promise, String name, Reckons call) {
    check.saysIndex(promise, NO_TABLE);
    check.tableBounds(name + "(n, k, 0, 0)", (x, t, k) -> call.answer(x, t, k, 0, 0));
    check.tableFirst(name + "(n, k, 6, 0)", (x, t, k) -> call.answer(x, t, k, 6, 0));
    check.tableFirst(name + "(n, k, 4, 1000)", (x, t, k) -> call.answer(x, t, k, 4, 1000));

    check.saysArgument(promise, KEY_OR_RULE_OR_NUMBER);
    check.keyBounds(name + "(t, n, 0, 0)", (y, t, k) -> call.answer(y, t, k, 0, 0));
    check.numberBounds(0, 5, name + "(t, k, n, 0)", (y, t, k, n) -> call.answer(y, t, k, n, 0));
    for (int r = 0; r <= 5; r++) {
      int rule = r;
      check.numberBounds(
          -999, 999, name + "(t, k, r, n)", (y, t, k, n) -> call.answer(y, t, k, rule, n));
    }
    Loopdefaults x = Check.someTables();
    for (int key : new int[] {4, 5}) {
      check.dueArgument(x, name + ", odd, 1001", () -> call.answer(x, 0, key, 4, 1001));
      check.dueArgument(x, name + ", even, -1000", () -> call.answer(x, 0, key, 4, -1000));
    }
  }

  private static void mergeThrows() {
    check.saysIndex(19, NO_TABLE);
    check.tableBounds("merge(n, k, 0, 0)", (x, t, k) -> x.merge(t, k, 0, 0));
    check.tableFirst("merge(n, k, 1000, 0)", (x, t, k) -> x.merge(t, k, 1000, 0));
    check.tableFirst("merge(n, k, 0, 6)", (x, t, k) -> x.merge(t, k, 0, 6));

    check.saysArgument(19, "if key is not 0 to 19, value not -999 to 999, or rule not 0 to 5");
    check.keyBounds("merge(t, n, 0, 0)", (y, t, k) -> y.merge(t, k, 0, 0));
    check.numberBounds(0, 5, "merge(t, k, 0, n)", (y, t, k, n) -> y.merge(t, k, 0, n));
    for (int r = 0; r <= 5; r++) {
      int rule = r;
      check.numberBounds(
          -999, 999, "merge(t, k, n, r)", (y, t, k, n) -> y.merge(t, k, n, rule));
    }
    Loopdefaults x = Check.someTables();
    check.dueArgument(x, "merge, odd, 1000", () -> x.merge(0, 5, 1000, 4));
    check.dueArgument(x, "merge, odd, rule 6", () -> x.merge(0, 5, 0, 6));
  }

  private static void hearTable(int table) {
    check.saysReturns(20, "how many were heard;");
    Loopdefaults x = Check.withTables(5, 7, 0, -999, 19, 999, 1, 0);
    check.due("hearTable of 4", x.hearTable(table, 1), 4);
    String coming = "5007 -999 19999 1000";
    String sorted = "-999 1000 5007 19999";
    check.due("heardText", x.heardText(1), table == 2 ? sorted : coming);
    check.due("sum", x.heard(1, 1), 25007);
    check.due("hearTable of none", new Loopdefaults().hearTable(table, 0), 0);
    Loopdefaults full = new Loopdefaults();
    for (int key = 0; key < 20; key++) {
      check.due("hearTable of " + key, full.hearTable(table, 0), key);
      full.put(table, key, 0);
    }
    check.due("hearTable of 20", full.hearTable(table, 0), 20);

    check.says(20, REFUSED.replace("RULE", "HEARER"));
    x.forgetCounts();
    x.stop(0, 19999);
    check.due("hearTable, refused", x.hearTable(table, 0), -9);
    String ahead = table == 2 ? "-999 1000 5007" : "5007 -999";
    check.due("those ahead of it stay heard", x.heardText(0), ahead);
    int steps = table == 0 ? 3 : 0;
    check.dueShelfCounts(x, table == 0 ? 1 : 0, steps, steps, 0, 0, 0, 0);
    check.due("house(3)", x.house(3), 1);
    x.stop(0, table == 2 ? -999 : 5007);
    check.due("hearTable, refused at the first", x.hearTable(table, 0), -9);
    check.due("those ahead of it stay heard", x.heardText(0), ahead);
    x.stop(0, 7);
    check.due("hearTable, stopped at a bare value", x.hearTable(table, 0), 4);
    x.stop(0, 5);
    check.due("hearTable, stopped at a bare key", x.hearTable(table, 0), 4);
    check.due("house(3)", x.house(3), 2);
    x.stop(0, 0);
    check.due("hearTable of none, stopped", new Loopdefaults().hearTable(table, 0), 0);
  }

  private static void hearTableThrows() {
    check.saysIndex(20, "if there is no such TABLE or HEARER");
    check.indexBounds(0, 2, Check::someTables, "hearTable(n, 0)", (x, n) -> x.hearTable(n, 0));
    check.indexBounds(0, 2, Loopdefaults::new, "hearTable(n, 1)", (x, n) -> x.hearTable(n, 1));
    for (int t = 0; t < 3; t++) {
      int table = t;
      check.indexBounds(0, 1, Check::someTables, "(t, n)", (x, n) -> x.hearTable(table, n));
      check.indexBounds(0, 1, Loopdefaults::new, "(t, n)", (x, n) -> x.hearTable(table, n));
    }
    Loopdefaults x = Check.someTables();
    check.dueIndex(x, "hearTable(3, 2)", () -> x.hearTable(3, 2));
  }

  private static void replaceTable(int table) {
    check.saysReturns(21, "how many PAIRS there are;");
    Loopdefaults x = Check.withTables(5, 7, 0, -1, 3, 1);
    check.due("rule 0", x.replaceTable(table, 0, 1), 3);
    dueTexts(x, table, "5=8 0=0 3=2", "0=0 3=2 5=8");
    check.due("rule 1", x.replaceTable(table, 1, 2), 3);
    dueTexts(x, table, "5=8 0=2 3=2", "0=2 3=2 5=8");
    check.due("rule 4", x.replaceTable(table, 4, 2), 3);
    dueTexts(x, table, "5=10 0=4 3=4", "0=4 3=4 5=10");
    check.due("rule 5", x.replaceTable(table, 5, -9), 3);
    dueTexts(x, table, "5=-4 0=-9 3=-6", "0=-9 3=-6 5=-4");
    check.due("house(3)", x.house(3), 0);
    check.dueShelfCounts(
        x, table == 0 ? new int[] {4, 16, 12, 12, 0, 0, 0} : new int[] {0, 0, 0, 0, 0, 0, 0});
    for (int rule : new int[] {0, 1, 4, 5}) {
      check.due("of none", new Loopdefaults().replaceTable(table, rule, 1), 0);
      check.due("of one", Check.withTables(7, 1).replaceTable(table, rule, 1), 1);
    }

    check.says(21, REFUSED);
    Loopdefaults y = Check.withTables(5, 8, 0, 5, 3, 2);
    check.due("refused in the midst", y.replaceTable(table, 4, 2), -9);
    dueTexts(y, table, "5=10 0=5 3=2", "0=5 3=2 5=8");
    int[] steps = table == 0 ? new int[] {1, 2, 2, 1, 0, 0, 0} : new int[7];
    check.dueShelfCounts(y, steps);
    check.due("house(3)", y.house(3), 1);
    Loopdefaults z = Check.withTables(5, 7, 0, 5, 3, 2);
    check.due("refused at the end", z.replaceTable(table, 4, 1), -9);
    dueTexts(z, table, "5=8 0=6 3=2", "0=6 3=2 5=7");
    check.due("house(3)", z.house(3), 1);
  }

  private static void replaceTableThrows() {
    check.saysIndex(21, NO_TABLE);
    check.indexBounds(0, 2, Check::someTables, "(n, 0, 0)", (x, n) -> x.replaceTable(n, 0, 0));
    Loopdefaults x = Check.someTables();
    check.dueIndex(x, "replaceTable(3, 2, 0)", () -> x.replaceTable(3, 2, 0));
    check.dueIndex(x, "replaceTable(-1, 0, 1000)", () -> x.replaceTable(-1, 0, 1000));

    check.saysArgument(21, "if rule is not 0, 1, 4 or 5, or number not -999 to 999");
    for (int t = 0; t < 3; t++) {
      int table = t;
      for (int r : new int[] {-1, 2, 3, 6, Integer.MIN_VALUE, Integer.MAX_VALUE}) {
        int rule = r;
        Loopdefaults some = Check.someTables();
        Loopdefaults none = new Loopdefaults();
        check.dueArgument(some, "rule " + rule, () -> some.replaceTable(table, rule, 0));
        check.dueArgument(none, "of none, rule " + rule, () -> none.replaceTable(table, rule, 0));
      }
      for (int r : new int[] {0, 1, 4, 5}) {
        int rule = r;
        check.argumentBounds(
            -999, 999, Check::someTables, "(t, r, n)", (y, n) -> y.replaceTable(table, rule, n));
        check.argumentBounds(
            -999, 999, Loopdefaults::new, "(t, r, n)", (y, n) -> y.replaceTable(table, rule, n));
      }
    }
  }

  private static void clear(int table) {
    check.says(22, "All PAIRS go");
    Loopdefaults x = Check.withTables(19, 7, 0, -1, 3, 1);
    x.clear(table);
    check.due("text", x.text(table), "");
    check.due("size", x.size(table), 0);
    for (int key = 0; key < 20; key++) {
      check.due("get of " + key, x.get(table, key), -1000);
    }
    check.due("house(1)", x.house(1), 6);
    x.put(table, 3, 2);
    x.put(table, 0, 4);
    dueTexts(x, table, "3=2 0=4", "0=4 3=2");

    check.says(22, "(no COUNTS).");
    Loopdefaults y = Check.withTables(19, 7, 0, -1);
    y.put(0, 5, 5);
    y.hearTable(0, 0);
    y.remove(0, 1);
    y.clear(table);
    y.clear(table);
    check.dueShelfCounts(y, 1, 4, 3, 0, 0, 1, 1);

    check.saysReturns(22, "how many there were.");
    Loopdefaults z = new Loopdefaults();
    check.due("clear of none", z.clear(table), 0);
    z.put(table, 5, -9);
    check.due("clear of one", z.clear(table), 1);
    check.due("clear once more", z.clear(table), 0);
    for (int key = 0; key < 20; key++) {
      z.put(table, key, -999);
    }
    check.due("clear of 20", z.clear(table), 20);
  }

  private static void clearThrows() {
    check.saysIndex(22, NO_TABLE);
    check.indexBounds(0, 2, Check::someTables, "clear(n)", (x, n) -> x.clear(n));
    check.indexBounds(0, 2, Loopdefaults::new, "clear(n) of none", (x, n) -> x.clear(n));
  }
}

import java.math.BigInteger;
import java.util.ArrayList;
import java.util.List;

/** Promises 45 to 48, sentence by sentence. */
public final class WholeTest {
  private static final Check check = new Check("WholeTest", 45, 48);

  public static void main(String[] args) {
    knock();
    houseOfRowsAndTables();
    houseOfHearersAndKnocks();
    refusals();
    houseThrows();
    isSoundOfRows();
    isSoundOfTables();
    digestOfNew();
    digestOrder();
    digestOfMany();
    check.end();
  }

  private static void knock() {
    check.says(45, "Knocks at the gate.");
    Loopdefaults x = new Loopdefaults();
    x.knock();
    check.due("house(4)", x.house(4), 1);
    x.knock();
    check.due("house(4)", x.house(4), 2);

    check.saysReturns(45, "how often one knocked, with this.");
    Loopdefaults y = new Loopdefaults();
    for (int i = 1; i <= 5; i++) {
      check.due("knock", y.knock(), i);
    }
    y.forgetCounts();
    y.forget(0);
    check.due("knock behind forgetCounts", y.knock(), 6);
    check.due("knock at another gate", new Loopdefaults().knock(), 1);
  }

  private static void houseOfRowsAndTables() {
    check.says(46, "- `what`: 0 VALUES of both ROWS, 1 PAIRS of all TABLES,");
    Loopdefaults x = new Loopdefaults();
    check.due("house(0) at first", x.house(0), 0);
    x.type(0, 1);
    check.due("house(0), row 0", x.house(0), 1);
    x.type(1, 1);
    x.type(1, 1);
    check.due("house(0), row 1", x.house(0), 3);
    x.drop(1, 1);
    check.due("house(0), behind drop", x.house(0), 2);
    check.due("house(0), full rows", Check.withFullRows().house(0), 24);
    check.due("house(1) at first", x.house(1), 0);
    for (int table = 0; table < 3; table++) {
      x.put(table, 5, 1);
      check.due("house(1), table " + table, x.house(1), table + 1);
    }
    x.put(1, 5, 2);
    check.due("house(1), another value", x.house(1), 3);
    x.remove(1, 5);
    check.due("house(1), behind remove", x.house(1), 2);
    for (int key = 0; key < 20; key++) {
      for (int table = 0; table < 3; table++) {
        x.put(table, key, 0);
      }
    }
    check.due("house(1), full tables", x.house(1), 60);
  }

  private static void houseOfHearersAndKnocks() {
    check.says(46, "2 HEARD of both HEARERS,");
    Loopdefaults x = new Loopdefaults();
    check.due("house(2) at first", x.house(2), 0);
    x.hearSpan(1, 4, 1, 0);
    check.due("house(2), hearer 0", x.house(2), 4);
    x.hearSpan(1, 3, 1, 1);
    check.due("house(2), hearer 1", x.house(2), 7);
    x.stop(1, 2);
    x.hearSpan(1, 3, 1, 1);
    check.due("house(2), a refused one", x.house(2), 8);
    x.forget(0);
    check.due("house(2), behind forget", x.house(2), 4);

    check.says(46, "4 how often one knocked");
    check.due("house(4) at first", x.house(4), 0);
    x.knock();
    x.knock();
    check.due("house(4)", x.house(4), 2);

    check.saysReturns(46, "that.");
    int[] due = {0, 0, 4, 1, 2};
    for (int what = 0; what <= 4; what++) {
      check.due("house(" + what + ")", x.house(what), due[what]);
    }
  }

  /** Every call that may refuse counts once; what is only told, or is a value of -9, does not. */
  private static void refusals() {
    check.says(
        46,
        "3 how often REFUSED was told ever because something refused "
            + "(not by given() and tested()),");
    Loopdefaults x = Check.withTables(1, 1);
    check.due("house(3) at first", x.house(3), 0);
    x.type(0, 1);
    x.stop(0, 1);
    x.stop(1, 1001);
    x.hear(0, 0);
    check.due("behind hear", x.house(3), 1);
    x.rest(0, 0, 0);
    check.due("behind rest", x.house(3), 2);
    x.removeIf(0, 5, 1);
    check.due("behind removeIf", x.house(3), 3);
    x.replaceAll(0, 4, 0);
    check.due("behind replaceAll", x.house(3), 4);
    x.computeIfAbsent(2, 2, 4, 1);
    check.due("behind computeIfAbsent", x.house(3), 5);
    x.computeIfPresent(1, 1, 4, 0);
    check.due("behind computeIfPresent", x.house(3), 6);
    x.compute(0, 1, 4, 0);
    check.due("behind compute", x.house(3), 7);
    x.merge(0, 1, 0, 4);
    check.due("behind merge", x.house(3), 8);
    x.hearTable(2, 1);
    check.due("behind hearTable", x.house(3), 9);
    x.replaceTable(1, 4, 0);
    check.due("behind replaceTable", x.house(3), 10);
    x.hearSpan(0, 1, 1, 0);
    check.due("behind hearSpan", x.house(3), 11);
    x.hearSteps(0, 1, 1, 1, 0);
    check.due("behind hearSteps", x.house(3), 12);
    x.takeStep(0, 0);
    check.due("behind takeStep", x.house(3), 13);
    x.fix(0, true);
    x.removeIf(0, 4, 1);
    check.due("behind removeIf of a fixed row", x.house(3), 14);
    x.replaceAll(0, 0, 0);
    check.due("behind replaceAll of a fixed row", x.house(3), 15);
    check.due("given, refused", x.given(4, 0, 0, 1), -9);
    check.due("tested, refused", x.tested(5, 1, 1), -9);
    check.due("behind given and tested", x.house(3), 15);
    notRefused();
    x.forgetCounts();
    x.forget(0);
    check.due("behind forgetCounts and forget", x.house(3), 15);
  }

  private static void notRefused() {
    Loopdefaults x = Check.withRow(0, -9);
    check.due("compute to -9", x.compute(0, 5, 0, -9), -9);
    check.due("computeIfAbsent to -9", x.computeIfAbsent(0, 6, 0, -9), -9);
    check.due("computeIfAbsent of -9", x.computeIfAbsent(0, 6, 4, 1), -9);
    check.due("computeIfPresent to -9", x.computeIfPresent(0, 6, 0, 0), -9);
    check.due("merge to -9", x.merge(1, 5, -9, 0), -9);
    check.due("merge to -9", x.merge(1, 5, 0, 0), -9);
    check.due("put over -9", x.put(0, 5, 1), -9);
    check.due("putIfAbsent over -9", x.putIfAbsent(0, 6, 1), -9);
    check.due("replace of -9", x.replace(0, 6, -9), -9);
    check.due("get of -9", x.get(1, 5), -9);
    check.due("getOr of -9", x.getOr(1, 5, 0), -9);
    check.due("remove of -9", x.remove(1, 5), -9);
    check.due("given to -9", x.given(0, 0, 0, -9), -9);
    check.due("at of -9", x.at(0, 0), -9);
    x.stop(0, -9);
    check.due("stop over -9", x.stop(0, 0), -9);
    x.hear(0, 0);
    check.due("heard of -9", x.heard(0, 2), -9);
    check.due("behind values of -9", x.house(3), 0);
  }

  private static void houseThrows() {
    check.saysArgument(46, "if what is not 0 to 4");
    check.argumentBounds(0, 4, Loopdefaults::new, "house(n)", (x, n) -> x.house(n));
    check.argumentBounds(0, 4, Check::withFullRows, "house(n)", (x, n) -> x.house(n));
  }

  /** Whether isSound() is so, and whether it leaves all as it was. */
  private static void dueSound(Loopdefaults x) {
    String before = Check.state(x);
    check.due("isSound", x.isSound(), true);
    check.due("isSound once more", x.isSound(), true);
    check.due("isSound leaves", Check.state(x), before);
  }

  private static void isSoundOfRows() {
    check.says(
        47,
        "Returns whether all of this is so: of each ROW a copy that counts comes by going through "
            + "it once to a WALK, to as many gives as it has VALUES and one ask more; with each "
            + "TEST of 0 to 4 and the number 0 a copy of it that is not FIXED is, by removeIf(), "
            + "what plainly taking these out leaves;");
    dueSound(new Loopdefaults());
    for (int row = 0; row < 2; row++) {
      Loopdefaults x = new Loopdefaults();
      int[] values = {0, 1, -1, 2, 0, -999, 999, -9, 0, 5, 4, 0};
      for (int value : values) {
        x.type(row, value);
        dueSound(x);
      }
      x.fix(0, true);
      x.fix(1, true);
      dueSound(x);
      check.due("isFixed", x.isFixed(row), true);
      check.due("house(3)", x.house(3), 0);
      x.forgetCounts();
      x.isSound();
      check.due("forgetCounts behind isSound", x.forgetCounts(), 0);
    }
  }

  private static void isSoundOfTables() {
    check.says(
        47,
        "of each TABLE a copy of it on each of the two other kinds has the same PAIRS; and for "
            + "the KEYS 0 to 3, the RULES 0, 2 and 3 and the number 1 compute(), "
            + "computeIfAbsent(), computeIfPresent() and merge() (the told VALUE is 1) on copies "
            + "of each TABLE on the three kinds tell the same and leave the same PAIRS.");
    Loopdefaults x = Check.withRow(0, 5, 4);
    x.hear(0, 0);
    for (int key = 3; key >= 0; key--) {
      x.put(0, key, key - 2);
      x.put(1, (key + 1) % 4, 999 - key);
      x.put(2, key, -999 + key);
      dueSound(x);
    }
    Loopdefaults full = new Loopdefaults();
    for (int key = 0; key < 20; key++) {
      full.put(0, 19 - key, key - 9);
      full.put(1, key * 7 % 20, 999 - key);
    }
    full.hearTable(0, 0);
    dueSound(full);
    full.stop(0, 1);
    for (int i = 0; i < 400; i++) {
      full.isSound();
    }
    dueSound(full);
    check.dueShelfCounts(full, 1, 21, 20, 0, 0, 20, 0);
  }

  private static void digestOfNew() {
    check.says(48, "Computes a checksum. A number d starts with 7774;");
    Loopdefaults x = new Loopdefaults();
    // The number that a shared run asks of a new object.
    check.due("digest of a new object", x.digest(), 86020335348945919L);

    check.saysReturns(48, "d.");
    check.due("digest once more", x.digest(), 86020335348945919L);
    check.due("digest of another one", new Loopdefaults().digest(), 86020335348945919L);
  }

  private static void digestOrder() {
    check.says(48, "then d becomes d * 31 + v, which wraps around as a 64-bit integer,");
    Loopdefaults x = new Loopdefaults();
    x.type(0, 5);
    x.type(0, -2);
    x.type(1, 7);
    x.fix(1, true);
    x.hear(0, 1);
    x.replaceAll(1, 0, 1);
    x.put(0, 4, 10);
    x.put(0, 2, -10);
    x.put(1, 9, 1);
    x.put(1, 3, 2);
    x.put(2, 9, 1);
    x.put(2, 3, 2);
    x.hearTable(0, 0);
    x.remove(0, 7);
    x.stop(1, 444);
    x.knock();
    x.knock();
    x.knock();
    // Written out from the promise: what each asked one has to be, in its order.
    int[] due = {
      3, 6, 4, 1, 3,
      2, 5, -2, 0, 1, 3, 2, 0, 0,
      1, 7, 1, 1, 1, 1, 0, 0,
      2, 4, 10, 2, -10,
      2, 9, 1, 3, 2,
      2, 3, 2, 9, 1,
      1, 3, 2, 0, 0, 2, 1,
      2, 4010 + 1990, 1990, -1000, 9,
      2, 3, -2, 444, 4,
      1,
    };
    check.due("digest", x.digest(), wrapped(due));
    check.due("digest once more", x.digest(), wrapped(due));
  }

  /** By numbers without an end, cut to 64 bits at last. */
  private static long wrapped(int[] all) {
    BigInteger d = BigInteger.valueOf(7774);
    for (int v : all) {
      d = d.multiply(BigInteger.valueOf(31)).add(BigInteger.valueOf(v));
    }
    return d.longValue();
  }

  private static void digestOfMany() {
    check.says(
        48,
        "for each v in this order: house() of 0 to 4; ROW by ROW length(), its VALUES, 1 if "
            + "isFixed(), otherwise 0, counts() of 0 to 4; TABLE by TABLE size(), PAIR by PAIR in "
            + "its sequence the KEY and the VALUE; shelfCounts() of 0 to 6; HEARER by HEARER "
            + "heard() of 0 to 3, the length of heardText(); 1 if isSound(), otherwise 0.");
    Loopdefaults x = new Loopdefaults();
    dueAsked(x);
    x.type(1, -9);
    dueAsked(x);
    x.type(0, 999);
    dueAsked(x);
    x.fix(0, true);
    dueAsked(x);
    x.hear(1, 1);
    dueAsked(x);
    x.replaceAll(1, 0, -1);
    dueAsked(x);
    x.removeIf(1, 0, 0);
    dueAsked(x);
    Loopdefaults y = new Loopdefaults();
    y.put(0, 19, -999);
    y.put(0, 0, 1);
    dueAsked(y);
    y.put(2, 19, -999);
    y.put(2, 0, 1);
    dueAsked(y);
    y.replaceTable(0, 0, 1);
    y.remove(0, 3);
    dueAsked(y);
    y.stop(1, 99999);
    y.hearSpan(-999, -960, 1, 0);
    dueAsked(y);
    y.takeStep(0, 0);
    y.knock();
    dueAsked(y);
  }

  private static void dueAsked(Loopdefaults x) {
    check.due("digest", x.digest(), wrapped(asked(x)));
  }

  /** What the promise names, each asked by its own call. */
  private static int[] asked(Loopdefaults x) {
    List<Integer> all = new ArrayList<>();
    for (int what = 0; what <= 4; what++) {
      all.add(x.house(what));
    }
    for (int row = 0; row < 2; row++) {
      all.add(x.length(row));
      for (int place = 0; place < x.length(row); place++) {
        all.add(x.at(row, place));
      }
      all.add(x.isFixed(row) ? 1 : 0);
      for (int what = 0; what <= 4; what++) {
        all.add(x.counts(row, what));
      }
    }
    for (int table = 0; table < 3; table++) {
      all.add(x.size(table));
      for (String number : x.text(table).split("[ =]")) {
        if (!number.isEmpty()) {
          all.add(Integer.valueOf(number));
        }
      }
    }
    for (int what = 0; what <= 6; what++) {
      all.add(x.shelfCounts(what));
    }
    for (int hearer = 0; hearer < 2; hearer++) {
      for (int what = 0; what <= 3; what++) {
        all.add(x.heard(hearer, what));
      }
      all.add(x.heardText(hearer).length());
    }
    all.add(x.isSound() ? 1 : 0);
    return all.stream().mapToInt(Integer::intValue).toArray();
  }
}

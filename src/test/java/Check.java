import java.util.function.Supplier;

/** Counts the calls whose answer is not the one that is due, and prints them. */
final class Check {
  private static final String ANSWERS = "an answer";

  private final String test;
  private final int first;
  private final int last;
  private final Document document;
  private int looked;
  private int lookedAhead;
  private int wrong;
  private String sentence = "";

  /** A call with an argument that goes over its bounds. */
  interface Call {
    Object answer(Loopdefaults x, int n);
  }

  /** A call on a table by a key. */
  interface Keyed {
    Object answer(Loopdefaults x, int table, int key);
  }

  /** A call on a table with a number of its own. */
  interface Numbered {
    Object answer(Loopdefaults x, int table, int key, int number);
  }

  Check(String test) {
    this(test, 0, -1);
  }

  /** Each sentence of these parts has to be quoted by says(), with an answer looked at behind. */
  Check(String test, int first, int last) {
    this.test = test;
    this.first = first;
    this.last = last;
    document = last >= first ? new Document() : null;
  }

  // ---- the sentences of the document

  /** What follows tests this sentence of the document. */
  void says(int part, String quote) {
    endSentence();
    sentence = ", " + Document.name(part) + ", \"" + quote + "\"";
    if (!document.quote(part, quote)) {
      tell("the document does not say so");
    }
  }

  private void endSentence() {
    if (lookedAhead == looked && !sentence.isEmpty()) {
      tell("no answer was looked at");
    }
    lookedAhead = looked;
    sentence = "";
  }

  void saysReturns(int promise, String quote) {
    says(promise, "Returns " + quote);
  }

  void saysIndex(int promise, String quote) {
    says(promise, "Throws `IndexOutOfBoundsException` " + quote);
  }

  void saysArgument(int promise, String quote) {
    says(promise, "Throws `IllegalArgumentException` " + quote);
  }

  /** A sentence that promises nothing a call could tell. */
  void promisesNothing(int part, String quote) {
    if (!document.quote(part, quote)) {
      tell("the document does not say: " + quote);
    }
  }

  // ---- answers

  private void tell(String what) {
    wrong++;
    System.out.println(test + sentence + ": " + what);
  }

  void due(String call, Object got, Object want) {
    looked++;
    if (want == null ? got != null : !want.equals(got)) {
      tell(call + " answered " + got + ", due is " + want);
    }
  }

  void dueIndex(Loopdefaults x, String call, Supplier<Object> run) {
    dueThrow(x, call, IndexOutOfBoundsException.class, run);
  }

  void dueArgument(Loopdefaults x, String call, Supplier<Object> run) {
    dueThrow(x, call, IllegalArgumentException.class, run);
  }

  /** The call throws just this, no class above or below it, and changes nothing. */
  void dueThrow(
      Loopdefaults x, String call, Class<? extends RuntimeException> want, Supplier<Object> run) {
    String before = state(x);
    due(call, thrownBy(run), want.getName());
    due(call + " leaves", state(x), before);
  }

  private static String thrownBy(Supplier<Object> run) {
    try {
      run.get();
      return ANSWERS;
    } catch (RuntimeException thrown) {
      return thrown.getClass().getName();
    }
  }

  // ---- both sides of a bound

  void indexBounds(int least, int greatest, Supplier<Loopdefaults> made, String call, Call run) {
    bounds(IndexOutOfBoundsException.class, least, greatest, made, call, run);
  }

  void argumentBounds(int least, int greatest, Supplier<Loopdefaults> made, String call, Call run) {
    bounds(IllegalArgumentException.class, least, greatest, made, call, run);
  }

  /** From least to greatest the call answers; one below and one above it throws, and far off. */
  private void bounds(
      Class<? extends RuntimeException> want,
      int least,
      int greatest,
      Supplier<Loopdefaults> made,
      String call,
      Call run) {
    for (int n : new int[] {Integer.MIN_VALUE, least - 1, greatest + 1, Integer.MAX_VALUE}) {
      Loopdefaults x = made.get();
      dueThrow(x, call + ", n is " + n, want, () -> run.answer(x, n));
    }
    for (int n : new int[] {least, greatest}) {
      if (least <= greatest) {
        Loopdefaults x = made.get();
        due(call + ", n is " + n, thrownBy(() -> run.answer(x, n)), ANSWERS);
      }
    }
  }

  /** There are tables 0 to 2; that there is no such table is thrown ahead of a wrong key. */
  void tableBounds(String call, Keyed run) {
    indexBounds(0, 2, Check::someTables, call, (x, n) -> run.answer(x, n, 5));
    Loopdefaults x = someTables();
    dueIndex(x, call + ", table 3, key 20", () -> run.answer(x, 3, 20));
    dueIndex(x, call + ", table -1, key -1", () -> run.answer(x, -1, -1));
  }

  /** That there is no such table is thrown ahead of what else is wrong with the call. */
  void tableFirst(String call, Keyed wrong) {
    for (int key : new int[] {4, 5, 20}) {
      Loopdefaults x = someTables();
      dueIndex(x, call + ", table 3", () -> wrong.answer(x, 3, key));
      dueIndex(x, call + ", table -1", () -> wrong.answer(x, -1, key));
    }
  }

  void keyBounds(String call, Keyed run) {
    for (int t = 0; t < 3; t++) {
      int table = t;
      argumentBounds(0, 19, Check::someTables, call, (x, n) -> run.answer(x, table, n));
    }
  }

  /** Whether the key is there or not. */
  void numberBounds(int least, int greatest, String call, Numbered run) {
    for (int t = 0; t < 3; t++) {
      int table = t;
      argumentBounds(
          least, greatest, Check::someTables, call, (x, n) -> run.answer(x, table, 5, n));
      argumentBounds(
          least, greatest, Check::someTables, call, (x, n) -> run.answer(x, table, 4, n));
    }
  }

  // ---- counts

  void dueCounts(Loopdefaults x, int row, int... want) {
    for (int what = 0; what < want.length; what++) {
      due("counts(" + row + ", " + what + ")", x.counts(row, what), want[what]);
    }
  }

  void dueShelfCounts(Loopdefaults x, int... want) {
    for (int what = 0; what < want.length; what++) {
      due("shelfCounts(" + what + ")", x.shelfCounts(what), want[what]);
    }
  }

  void end() {
    endSentence();
    for (int part = first; part <= last; part++) {
      for (String left : document.left(part)) {
        tell(Document.name(part) + " has no test of: " + left);
      }
    }
    System.out.println(test + ": " + looked + " answers, " + wrong + " wrong");
    if (wrong > 0 || looked == 0) {
      System.exit(1);
    }
  }

  // ---- objects

  /** What tells every change in few calls: an object promises nothing behind its 512th. */
  static String state(Loopdefaults x) {
    return String.join(
        "; ",
        String.valueOf(x.digest()),
        x.rowText(0),
        x.rowText(1),
        x.text(0),
        x.text(1),
        x.text(2),
        x.heardText(0),
        x.heardText(1));
  }

  static Loopdefaults withRow(int row, int... values) {
    Loopdefaults x = new Loopdefaults();
    for (int value : values) {
      x.type(row, value);
    }
    return x;
  }

  /** Both rows have 1 to 12. */
  static Loopdefaults withFullRows() {
    Loopdefaults x = withRow(0, 1, 2, 3, 4, 5, 6, 7, 8, 9, 10, 11, 12);
    x.copy(1);
    return x;
  }

  /** All three tables have the same pairs: a key, its value, a key, its value, .. */
  static Loopdefaults withTables(int... pairs) {
    Loopdefaults x = new Loopdefaults();
    for (int table = 0; table < 3; table++) {
      for (int i = 0; i + 1 < pairs.length; i += 2) {
        x.put(table, pairs[i], pairs[i + 1]);
      }
    }
    x.forgetCounts();
    return x;
  }

  /** Tables with a key 5, and without a key 4. */
  static Loopdefaults someTables() {
    return withTables(5, 7, 0, -1, 19, 2);
  }
}

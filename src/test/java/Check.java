import java.util.function.Supplier;

/** Counts the calls whose answer is not the one that is due, and prints them. */
final class Check {
  private final String test;
  private int looked;
  private int wrong;
  private int promise;

  Check(String test) {
    this.test = test;
  }

  void promise(int number) {
    promise = number;
  }

  void due(String call, Object got, Object want) {
    looked++;
    if (want == null ? got != null : !want.equals(got)) {
      wrong++;
      System.out.println(
          test + ", promise " + promise + ": " + call + " answered " + got + ", due is " + want);
    }
  }

  void dueIndex(Loopdefaults x, String call, Supplier<Object> run) {
    dueThrow(x, call, IndexOutOfBoundsException.class, run);
  }

  void dueArgument(Loopdefaults x, String call, Supplier<Object> run) {
    dueThrow(x, call, IllegalArgumentException.class, run);
  }

  /** The call throws just this, no class above or below it, and changes nothing. */
  void dueThrow(
      Loopdefaults x, String call, Class<? extends RuntimeException> want, Supplier<Object> run) {
    String before = state(x);
    String got;
    try {
      got = String.valueOf(run.get());
    } catch (RuntimeException thrown) {
      got = thrown.getClass().getName();
    }
    due(call, got, want.getName());
    due(call + " leaves", state(x), before);
  }

  void dueCounts(Loopdefaults x, int row, int... want) {
    for (int what = 0; what < want.length; what++) {
      due("counts(" + row + ", " + what + ")", x.counts(row, what), want[what]);
    }
  }

  void dueShelfCounts(Loopdefaults x, int... want) {
    for (int what = 0; what < want.length; what++) {
      due("shelfCounts(" + what + ")", x.shelfCounts(what), want[what]);
    }
  }

  void end() {
    System.out.println(test + ": " + looked + " answers, " + wrong + " wrong");
    if (wrong > 0 || looked == 0) {
      System.exit(1);
    }
  }

  /** What tells every change in few calls: an object promises nothing behind its 512th. */
  static String state(Loopdefaults x) {
    return String.join(
        "; ",
        String.valueOf(x.digest()),
        x.rowText(0),
        x.rowText(1),
        x.text(0),
        x.text(1),
        x.text(2),
        x.heardText(0),
        x.heardText(1));
  }

  static Loopdefaults withRow(int row, int... values) {
    Loopdefaults x = new Loopdefaults();
    for (int value : values) {
      x.type(row, value);
    }
    return x;
  }

  /** All three tables have the same pairs: a key, its value, a key, its value, .. */
  static Loopdefaults withTables(int... pairs) {
    Loopdefaults x = new Loopdefaults();
    for (int table = 0; table < 3; table++) {
      for (int i = 0; i + 1 < pairs.length; i += 2) {
        x.put(table, pairs[i], pairs[i + 1]);
      }
    }
    x.forgetCounts();
    return x;
  }
}

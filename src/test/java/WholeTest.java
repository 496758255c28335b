/** Promises 45 to 48. */
public final class WholeTest {
  private static final Check check = new Check("WholeTest");

  public static void main(String[] args) {
    knock();
    house();
    refusals();
    isSound();
    digest();
    check.end();
  }

  private static void knock() {
    check.promise(45);
    Loopdefaults x = new Loopdefaults();
    for (int i = 1; i <= 5; i++) {
      check.due("knock", x.knock(), i);
    }
    x.forgetCounts();
    check.due("knock", x.knock(), 6);
    check.due("knock at another gate", new Loopdefaults().knock(), 1);
  }

  private static void house() {
    check.promise(46);
    Loopdefaults x = Check.withTables(1, 1, 2, 2);
    x.put(2, 3, 3);
    x.type(0, 1);
    x.type(1, 1);
    x.type(1, 2);
    x.hear(0, 0);
    x.hearSpan(1, 4, 1, 1);
    x.knock();
    x.knock();
    check.due("house(0)", x.house(0), 3);
    check.due("house(1)", x.house(1), 7);
    check.due("house(2)", x.house(2), 5);
    check.due("house(3)", x.house(3), 0);
    check.due("house(4)", x.house(4), 2);
    x.forget(0);
    check.due("house(2)", x.house(2), 4);
    check.dueArgument(x, "house(5)", () -> x.house(5));
    check.dueArgument(x, "house(-1)", () -> x.house(-1));
  }

  /** Every call that may refuse counts once; what is only told, or is a value of -9, does not. */
  private static void refusals() {
    check.promise(46);
    Loopdefaults x = Check.withTables(1, 1);
    x.type(0, 1);
    x.stop(0, 1);
    x.stop(1, 1001);
    x.hear(0, 0);
    check.due("behind hear", x.house(3), 1);
    x.rest(0, 0, 0);
    check.due("behind rest", x.house(3), 2);
    x.removeIf(0, 5, 1);
    check.due("behind removeIf", x.house(3), 3);
    x.replaceAll(0, 4, 0);
    check.due("behind replaceAll", x.house(3), 4);
    x.computeIfAbsent(2, 2, 4, 1);
    check.due("behind computeIfAbsent", x.house(3), 5);
    x.computeIfPresent(1, 1, 4, 0);
    check.due("behind computeIfPresent", x.house(3), 6);
    x.compute(0, 1, 4, 0);
    check.due("behind compute", x.house(3), 7);
    x.merge(0, 1, 0, 4);
    check.due("behind merge", x.house(3), 8);
    x.hearTable(2, 1);
    check.due("behind hearTable", x.house(3), 9);
    x.replaceTable(1, 4, 0);
    check.due("behind replaceTable", x.house(3), 10);
    x.hearSpan(0, 1, 1, 0);
    check.due("behind hearSpan", x.house(3), 11);
    x.hearSteps(0, 1, 1, 1, 0);
    check.due("behind hearSteps", x.house(3), 12);
    x.takeStep(0, 0);
    check.due("behind takeStep", x.house(3), 13);
    x.given(4, 0, 0, 1);
    x.tested(5, 1, 1);
    check.due("behind given and tested", x.house(3), 13);
    check.due("compute to -9", x.compute(0, 5, 0, -9), -9);
    check.due("merge to -9", x.merge(1, 5, -9, 0), -9);
    check.due("put over -9", x.put(0, 5, 1), -9);
    check.due("get of -9", x.get(1, 5), -9);
    x.forgetCounts();
    x.forget(0);
    check.due("behind values of -9", x.house(3), 13);
  }

  private static void isSound() {
    check.promise(47);
    Loopdefaults x = new Loopdefaults();
    check.due("isSound of a new object", x.isSound(), true);
    for (int i = 0; i < 12; i++) {
      x.type(0, 5 - i);
    }
    x.type(1, -999);
    x.fix(0, true);
    x.fix(1, true);
    for (int key = 0; key < 20; key++) {
      x.put(0, 19 - key, key - 9);
      x.put(1, key * 7 % 20, 999 - key);
    }
    x.put(2, 2, -1);
    x.put(2, 0, 0);
    x.hearTable(0, 0);
    String before = Check.state(x);
    for (int i = 0; i < 20; i++) {
      check.due("isSound", x.isSound(), true);
    }
    check.due("isSound leaves", Check.state(x), before);
    check.due("isFixed", x.isFixed(0), true);
    check.due("house(3)", x.house(3), 0);
  }

  private static void digest() {
    check.promise(48);
    Loopdefaults x = new Loopdefaults();
    check.due("digest of a new object", x.digest(), 86020335348945919L);
    check.due("digest again", x.digest(), 86020335348945919L);
    x.type(0, 5);
    x.type(0, -2);
    x.type(1, 7);
    x.fix(1, true);
    x.hear(0, 1);
    x.replaceAll(1, 0, 1);
    x.put(0, 4, 10);
    x.put(0, 2, -10);
    x.put(1, 9, 1);
    x.put(1, 3, 2);
    x.put(2, 9, 1);
    x.put(2, 3, 2);
    x.hearTable(0, 0);
    x.remove(0, 7);
    x.stop(1, 444);
    x.knock();
    x.knock();
    x.knock();
    // Written out from the promise: what each asked one has to be, in its order.
    long[] due = {
      3, 6, 4, 1, 3,
      2, 5, -2, 0, 1, 3, 2, 0, 0,
      1, 7, 1, 1, 1, 1, 0, 0,
      2, 4, 10, 2, -10,
      2, 9, 1, 3, 2,
      2, 3, 2, 9, 1,
      1, 3, 2, 0, 0, 2, 1,
      2, 4010 + 1990, 1990, -1000, 9,
      2, 3, -2, 444, 4,
      1,
    };
    long d = 7774;
    for (long v : due) {
      d = d * 31 + v;
    }
    check.due("digest", x.digest(), d);
    check.due("digest again", x.digest(), d);
  }
}

/** Promises 23 to 25. */
public final class SpansTest {
  private static final Check check = new Check("SpansTest");

  public static void main(String[] args) {
    hearSpan();
    hearSteps();
    takeStep();
    check.end();
  }

  private static void hearSpan() {
    check.promise(23);
    Loopdefaults x = new Loopdefaults();
    check.due("hearSpan", x.hearSpan(-4, 5, 3, 1), 4);
    check.due("heardText", x.heardText(1), "-4 -1 2 5");
    check.due("hearSpan, the last one not reached", x.hearSpan(-4, 4, 3, 1), 3);
    check.due("heardText", x.heardText(1), "-4 -1 2 5 -4 -1 2");
    check.due("hearSpan of one", x.hearSpan(7, 7, 99, 0), 1);
    check.due("hearSpan of none", x.hearSpan(7, 6, 1, 0), 0);
    check.due("hearSpan of none, far", x.hearSpan(999, -999, 1, 0), 0);
    check.due("heardText", x.heardText(0), "7");
    check.due("hearSpan of 40", x.hearSpan(-999, -960, 1, 0), 40);
    check.due("hearSpan of 40 by 50", x.hearSpan(-999, 999, 50, 0), 40);
    check.due("last", x.heard(0, 2), 951);
    check.dueArgument(x, "hearSpan of 41", () -> x.hearSpan(0, 40, 1, 0));
    check.dueArgument(x, "hearSpan of 41 by 49", () -> x.hearSpan(-999, 999, 49, 0));
    check.dueArgument(x, "hearSpan by 0", () -> x.hearSpan(0, 1, 0, 0));
    check.dueArgument(x, "hearSpan of none by 0", () -> x.hearSpan(1, 0, 0, 0));
    check.dueArgument(x, "hearSpan by -1", () -> x.hearSpan(0, 1, -1, 0));
    check.dueArgument(x, "hearSpan by 100", () -> x.hearSpan(0, 1, 100, 0));
    check.dueArgument(x, "hearSpan from -1000", () -> x.hearSpan(-1000, -999, 1, 0));
    check.dueArgument(x, "hearSpan from 1000", () -> x.hearSpan(1000, 0, 1, 0));
    check.dueArgument(x, "hearSpan to 1000", () -> x.hearSpan(999, 1000, 1, 0));
    check.dueArgument(x, "hearSpan to -1000", () -> x.hearSpan(0, -1000, 1, 0));
    check.dueArgument(
        x, "hearSpan of MIN", () -> x.hearSpan(Integer.MIN_VALUE, Integer.MAX_VALUE, 1, 0));
    check.dueIndex(x, "hearSpan by 0, hearer 2", () -> x.hearSpan(0, 1, 0, 2));
    check.dueIndex(x, "hearSpan, hearer -1", () -> x.hearSpan(0, 1, 1, -1));
    refusedSpan();
  }

  private static void refusedSpan() {
    Loopdefaults x = new Loopdefaults();
    x.stop(0, 6);
    check.due("hearSpan, refused", x.hearSpan(0, 10, 2, 0), -9);
    check.due("heardText", x.heardText(0), "0 2 4");
    check.due("hearSpan, by it", x.hearSpan(1, 10, 2, 0), 5);
    check.due("house(3)", x.house(3), 1);
    check.due("forgetCounts", x.forgetCounts(), 0);
  }

  private static void hearSteps() {
    check.promise(24);
    Loopdefaults x = new Loopdefaults();
    check.due("hearSteps", x.hearSteps(1, 9, 2, 0, 0), 5);
    check.due("hearSteps", x.hearSteps(1, 9, 2, 3, 0), 2);
    check.due("hearSteps, all passed by", x.hearSteps(1, 9, 2, 5, 0), 0);
    check.due("hearSteps of one, passed by", x.hearSteps(4, 4, 9, 1, 0), 0);
    check.due("hearSteps of none", x.hearSteps(9, 1, 2, 0, 0), 0);
    check.due("heardText", x.heardText(0), "1 3 5 7 9 7 9");
    x.stop(0, 5);
    check.due("hearSteps, refused", x.hearSteps(1, 9, 2, 1, 0), -9);
    check.due("hearSteps, the refused one passed by", x.hearSteps(1, 9, 2, 3, 0), 2);
    check.due("heardText", x.heardText(0), "1 3 5 7 9 7 9 3 7 9");
    check.due("house(3)", x.house(3), 1);
    check.due("forgetCounts", x.forgetCounts(), 0);
    check.dueArgument(x, "ahead 6", () -> x.hearSteps(1, 9, 2, 6, 0));
    check.dueArgument(x, "ahead -1", () -> x.hearSteps(1, 9, 2, -1, 0));
    check.dueArgument(x, "ahead 2 of one", () -> x.hearSteps(4, 4, 9, 2, 0));
    check.dueArgument(x, "ahead 1 of none", () -> x.hearSteps(9, 1, 2, 1, 0));
    check.dueArgument(x, "41 of them", () -> x.hearSteps(0, 40, 1, 40, 0));
    check.dueArgument(x, "by 0", () -> x.hearSteps(0, 0, 0, 0, 0));
    check.dueArgument(x, "by 100", () -> x.hearSteps(0, 0, 100, 0, 0));
    check.dueArgument(x, "from 1000", () -> x.hearSteps(1000, 0, 1, 0, 0));
    check.dueArgument(x, "from -1000", () -> x.hearSteps(-1000, -999, 1, 0, 0));
    check.dueArgument(x, "to 1000", () -> x.hearSteps(999, 1000, 1, 0, 0));
    check.dueArgument(x, "to -1000", () -> x.hearSteps(0, -1000, 1, 0, 0));
    check.dueIndex(x, "hearer 2, by 0", () -> x.hearSteps(0, 0, 0, 0, 2));
    check.dueIndex(x, "hearer -1, ahead 9", () -> x.hearSteps(0, 0, 1, 9, -1));
  }

  private static void takeStep() {
    check.promise(25);
    Loopdefaults x = new Loopdefaults();
    check.due("takeStep", x.takeStep(-999, 999), -9);
    check.due("takeStep", x.takeStep(4, 4), -9);
    check.due("house(3)", x.house(3), 2);
    check.due("forgetCounts", x.forgetCounts(), 0);
    check.due("house(2)", x.house(2), 0);
    check.dueArgument(x, "takeStep(4, 3)", () -> x.takeStep(4, 3));
    check.dueArgument(x, "takeStep(-1000, 0)", () -> x.takeStep(-1000, 0));
    check.dueArgument(x, "takeStep(0, 1000)", () -> x.takeStep(0, 1000));
    check.dueArgument(x, "takeStep(1000, 1000)", () -> x.takeStep(1000, 1000));
    check.dueArgument(x, "takeStep(-1000, -1000)", () -> x.takeStep(-1000, -1000));
  }
}

/** Promises 23 to 25, sentence by sentence. */
public final class SpansTest {
  private static final String ENDS = "if from or to is not -999 to 999,";
  private static final Check check = new Check("SpansTest", 23, 25);

  public static void main(String[] args) {
    hearSpan();
    hearSpanThrows();
    hearSteps();
    hearStepsThrows();
    takeStep();
    check.end();
  }

  /** Hearers that refuse 0, so that an answer of -9 is ready behind each wrong argument. */
  private static Loopdefaults stopped() {
    Loopdefaults x = new Loopdefaults();
    x.stop(0, 0);
    x.stop(1, 0);
    return x;
  }

  private static void hearSpan() {
    check.saysReturns(23, "how many were heard;");
    Loopdefaults x = new Loopdefaults();
    check.due("hearSpan", x.hearSpan(-4, 5, 3, 1), 4);
    check.due("hearSpan, the last one not reached", x.hearSpan(-4, 4, 3, 1), 3);
    check.due("heardText", x.heardText(1), "-4 -1 2 5 -4 -1 2");
    check.due("hearSpan of one", x.hearSpan(7, 7, 99, 0), 1);
    check.due("hearSpan of none", x.hearSpan(7, 6, 1, 0), 0);
    check.due("hearSpan of none, far", x.hearSpan(999, -999, 1, 0), 0);
    check.due("heardText", x.heardText(0), "7");
    check.due("hearSpan of 40", x.hearSpan(-999, -960, 1, 0), 40);
    check.due("hearSpan of 40 by 50", x.hearSpan(-999, 999, 50, 0), 40);
    check.due("last", x.heard(0, 2), 951);
    check.due("forgetCounts", x.forgetCounts(), 0);

    check.says(23, "REFUSED if the HEARER refused.");
    Loopdefaults y = new Loopdefaults();
    y.stop(0, 6);
    check.due("hearSpan, refused", y.hearSpan(0, 10, 2, 0), -9);
    check.due("those ahead of it stay heard", y.heardText(0), "0 2 4");
    check.due("hearSpan, it does not come", y.hearSpan(1, 10, 2, 0), 5);
    check.due("hearSpan, refused at the first", y.hearSpan(6, 10, 2, 0), -9);
    check.due("hearSpan, refused at the last", y.hearSpan(5, 6, 1, 0), -9);
    check.due("hearSpan, it is not reached", y.hearSpan(5, 5, 1, 0), 1);
    check.due("hearSpan of none", y.hearSpan(6, 5, 1, 0), 0);
    check.due("heardText", y.heardText(0), "0 2 4 1 3 5 7 9 5 5");
    check.due("hearSpan by the other hearer", y.hearSpan(0, 10, 2, 1), 6);
    check.due("house(3)", y.house(3), 3);
  }

  private static void hearSpanThrows() {
    check.saysIndex(23, "if hearer is not 0 or 1");
    check.indexBounds(0, 1, SpansTest::stopped, "(0, 1, 1, n)", (x, n) -> x.hearSpan(0, 1, 1, n));
    check.indexBounds(0, 1, Loopdefaults::new, "(1, 0, 1, n)", (x, n) -> x.hearSpan(1, 0, 1, n));
    Loopdefaults x = stopped();
    check.dueIndex(x, "hearSpan(-1000, 1, 1, 2)", () -> x.hearSpan(-1000, 1, 1, 2));
    check.dueIndex(x, "hearSpan(0, 1000, 1, -1)", () -> x.hearSpan(0, 1000, 1, -1));
    check.dueIndex(x, "hearSpan(0, 1, 0, 2)", () -> x.hearSpan(0, 1, 0, 2));
    check.dueIndex(x, "hearSpan(0, 40, 1, 2)", () -> x.hearSpan(0, 40, 1, 2));

    check.saysArgument(23, ENDS);
    check.argumentBounds(-999, 999, SpansTest::stopped, "from", (y, n) -> y.hearSpan(n, -998, 1, 0));
    check.argumentBounds(-999, 999, SpansTest::stopped, "to", (y, n) -> y.hearSpan(998, n, 1, 0));
    check.argumentBounds(-999, 999, SpansTest::stopped, "both", (y, n) -> y.hearSpan(n, n, 1, 0));
    check.dueArgument(
        x, "both far", () -> x.hearSpan(Integer.MIN_VALUE, Integer.MAX_VALUE, 99, 0));
    check.dueArgument(
        x, "both far", () -> x.hearSpan(Integer.MAX_VALUE, Integer.MIN_VALUE, 99, 0));

    check.says(23, "or by not 1 to 99,");
    check.argumentBounds(1, 99, SpansTest::stopped, "by", (y, n) -> y.hearSpan(0, 1, n, 0));
    check.argumentBounds(1, 99, SpansTest::stopped, "by, of one", (y, n) -> y.hearSpan(0, 0, n, 0));
    check.argumentBounds(
        1, 99, SpansTest::stopped, "by, of none", (y, n) -> y.hearSpan(1, 0, n, 0));
    check.dueArgument(x, "by 0, from 1000", () -> x.hearSpan(1000, 1000, 0, 0));

    check.says(23, "or there are more than 40");
    check.due("40 of them, refused", x.hearSpan(0, 39, 1, 0), -9);
    check.dueArgument(x, "41 of them", () -> x.hearSpan(0, 40, 1, 0));
    for (int by : new int[] {1, 2, 49}) {
      Loopdefaults y = new Loopdefaults();
      int to = -999 + 40 * by;
      check.due("40 of them by " + by, y.hearSpan(-999, to - 1, by, 1), 40);
      check.due("last", y.heard(1, 2), to - by);
      check.dueArgument(y, "41 of them by " + by, () -> y.hearSpan(-999, to, by, 1));
      check.dueArgument(y, "all of them by " + by, () -> y.hearSpan(-999, 999, by, 1));
    }
  }

  private static void hearSteps() {
    check.saysReturns(24, "how many were heard;");
    Loopdefaults x = new Loopdefaults();
    check.due("hearSteps, none passed by", x.hearSteps(1, 9, 2, 0, 0), 5);
    check.due("hearSteps, 3 passed by", x.hearSteps(1, 9, 2, 3, 0), 2);
    check.due("hearSteps, all passed by", x.hearSteps(1, 9, 2, 5, 0), 0);
    check.due("hearSteps of one, passed by", x.hearSteps(4, 4, 9, 1, 0), 0);
    check.due("hearSteps of none", x.hearSteps(9, 1, 2, 0, 0), 0);
    check.due("heardText", x.heardText(0), "1 3 5 7 9 7 9");
    for (int ahead = 0; ahead <= 40; ahead++) {
      check.due("hearSteps of 40", x.hearSteps(-999, -960, 1, ahead, 1), 40 - ahead);
    }
    check.due("forgetCounts", x.forgetCounts(), 0);

    check.says(24, "REFUSED if the HEARER refused.");
    x.stop(0, 5);
    check.due("hearSteps, refused", x.hearSteps(1, 9, 2, 1, 0), -9);
    check.due("hearSteps, refused at the first", x.hearSteps(1, 9, 2, 2, 0), -9);
    check.due("hearSteps, what would stop is passed by", x.hearSteps(1, 9, 2, 3, 0), 2);
    check.due("hearSteps, refused at the last", x.hearSteps(1, 5, 2, 2, 0), -9);
    check.due("hearSteps, all passed by", x.hearSteps(1, 5, 2, 3, 0), 0);
    check.due("those ahead of it stay heard", x.heardText(0), "1 3 5 7 9 7 9 3 7 9");
    check.due("house(3)", x.house(3), 3);
  }

  private static void hearStepsThrows() {
    check.saysIndex(24, "if hearer is not 0 or 1");
    check.indexBounds(0, 1, SpansTest::stopped, "hearer", (x, n) -> x.hearSteps(0, 1, 1, 0, n));
    Loopdefaults x = stopped();
    check.dueIndex(x, "hearer 2, from 1000", () -> x.hearSteps(1000, 0, 1, 0, 2));
    check.dueIndex(x, "hearer -1, by 0", () -> x.hearSteps(0, 0, 0, 0, -1));
    check.dueIndex(x, "hearer 2, 41 of them", () -> x.hearSteps(0, 40, 1, 0, 2));
    check.dueIndex(x, "hearer -1, ahead 9", () -> x.hearSteps(0, 0, 1, 9, -1));

    check.saysArgument(24, ENDS);
    check.argumentBounds(
        -999, 999, SpansTest::stopped, "from", (y, n) -> y.hearSteps(n, -998, 1, 0, 0));
    check.argumentBounds(
        -999, 999, SpansTest::stopped, "to", (y, n) -> y.hearSteps(998, n, 1, 0, 0));

    check.says(24, "or by not 1 to 99,");
    check.argumentBounds(1, 99, SpansTest::stopped, "by", (y, n) -> y.hearSteps(0, 1, n, 0, 0));
    check.argumentBounds(
        1, 99, SpansTest::stopped, "by, of none", (y, n) -> y.hearSteps(1, 0, n, 0, 0));

    check.says(24, "or there are more than 40,");
    check.due("40 of them, refused", x.hearSteps(0, 39, 1, 0, 0), -9);
    check.dueArgument(x, "41 of them", () -> x.hearSteps(0, 40, 1, 0, 0));
    check.dueArgument(x, "41 of them, 1 passed by", () -> x.hearSteps(0, 40, 1, 1, 0));
    check.dueArgument(x, "41 of them, all passed by", () -> x.hearSteps(0, 40, 1, 41, 0));
    check.dueArgument(x, "41 of them by 49", () -> x.hearSteps(-999, 961, 49, 3, 0));
    check.due("40 of them by 49", x.hearSteps(-999, 960, 49, 3, 0), 37);

    check.says(24, "or ahead is not 0 to how many there are");
    check.argumentBounds(
        0, 0, SpansTest::stopped, "ahead of none", (y, n) -> y.hearSteps(1, 0, 1, n, 0));
    check.argumentBounds(
        0, 1, SpansTest::stopped, "ahead of one", (y, n) -> y.hearSteps(0, 0, 9, n, 0));
    check.argumentBounds(
        0, 5, SpansTest::stopped, "ahead of 5", (y, n) -> y.hearSteps(0, 9, 2, n, 0));
    check.argumentBounds(
        0, 40, SpansTest::stopped, "ahead of 40", (y, n) -> y.hearSteps(0, 39, 1, n, 0));
  }

  private static void takeStep() {
    check.says(25, "The WALK of a SPAN is told to take the first one away: it can not.");
    Loopdefaults x = Check.withFullRows();
    x.takeStep(1, 12);
    check.due("rowText", x.rowText(0), "1 2 3 4 5 6 7 8 9 10 11 12");
    check.due("forgetCounts", x.forgetCounts(), 0);
    check.due("house(2)", x.house(2), 0);
    check.due("house(3)", x.house(3), 1);

    check.saysReturns(25, "REFUSED.");
    check.due("takeStep of all", x.takeStep(-999, 999), -9);
    check.due("takeStep of one", x.takeStep(4, 4), -9);
    check.due("takeStep of two", x.takeStep(4, 5), -9);
    check.due("house(3)", x.house(3), 4);

    check.saysArgument(25, ENDS);
    check.argumentBounds(-999, 999, SpansTest::stopped, "from", (y, n) -> y.takeStep(n, 999));
    check.argumentBounds(-999, 999, SpansTest::stopped, "to", (y, n) -> y.takeStep(-999, n));
    check.argumentBounds(-999, 999, SpansTest::stopped, "both", (y, n) -> y.takeStep(n, n));

    check.says(25, "or from is above to");
    for (int to : new int[] {-998, -1, 0, 4, 998}) {
      check.due("from is to", x.takeStep(to, to), -9);
      check.due("from is below to", x.takeStep(to - 1, to), -9);
      check.dueArgument(x, "from is above to", () -> x.takeStep(to + 1, to));
    }
    check.dueArgument(x, "from is far above to", () -> x.takeStep(999, -999));
  }
}

/** Promises 26 to 29, sentence by sentence. */
public final class HearersTest {
  private static final Check check = new Check("HearersTest", 26, 29);

  public static void main(String[] args) {
    stop();
    stopThrows();
    forget();
    heard();
    heardThrows();
    heardText();
    check.end();
  }

  /** Hearer 0 heard 1 to 12, hearer 1 heard 5 and 6; both have a stop. */
  private static Loopdefaults heardBoth() {
    Loopdefaults x = new Loopdefaults();
    x.hearSpan(1, 12, 1, 0);
    x.hearSpan(5, 6, 1, 1);
    x.stop(0, 77);
    x.stop(1, -9);
    return x;
  }

  private static void stop() {
    check.says(26, "Sets a STOP.");
    Loopdefaults x = new Loopdefaults();
    for (int number : new int[] {-999, -9, -1, 0, 1, 999}) {
      x.stop(0, number);
      check.due("heard(0, 3)", x.heard(0, 3), number);
      check.due("hearSpan of it", x.hearSpan(number, number, 1, 0), -9);
      int beside = number == -999 ? -998 : number - 1;
      check.due("hearSpan beside it", x.hearSpan(beside, beside, 1, 0), 1);
      check.due("hearSpan by the other hearer", x.hearSpan(number, number, 1, 1), 1);
    }
    x.put(0, 19, 999);
    x.stop(0, 19999);
    check.due("hearTable of it", x.hearTable(0, 0), -9);
    check.due("the other hearer", x.heard(1, 3), -1000);

    check.says(26, "- `number`: the number (-1000: none)");
    x.stop(0, -1000);
    check.due("hearTable, without a stop", x.hearTable(0, 0), 1);
    check.due("hearSpan, without a stop", x.hearSpan(-999, -960, 1, 0), 40);
    check.due("heard(0, 3)", x.heard(0, 3), -1000);

    check.saysReturns(26, "the STOP before (-1000 without).");
    Loopdefaults y = new Loopdefaults();
    check.due("stop at first", y.stop(1, -999), -1000);
    check.due("stop", y.stop(1, 99999), -999);
    check.due("stop", y.stop(1, 99999), 99999);
    check.due("stop", y.stop(1, -1000), 99999);
    check.due("stop, without", y.stop(1, -1000), -1000);
    check.due("stop", y.stop(1, 0), -1000);
    check.due("stop", y.stop(1, -9), 0);
    check.due("stop", y.stop(1, 5), -9);
    check.due("stop of the other hearer", y.stop(0, 5), -1000);
  }

  private static void stopThrows() {
    check.saysIndex(26, "if hearer is not 0 or 1");
    check.indexBounds(0, 1, HearersTest::heardBoth, "stop(n, 5)", (x, n) -> x.stop(n, 5));
    Loopdefaults x = heardBoth();
    check.dueIndex(x, "stop(2, 100000)", () -> x.stop(2, 100000));
    check.dueIndex(x, "stop(-1, -1001)", () -> x.stop(-1, -1001));

    check.saysArgument(26, "if number is not -1000 to 99999");
    check.argumentBounds(-1000, 99999, Loopdefaults::new, "stop(0, n)", (y, n) -> y.stop(0, n));
    check.argumentBounds(
        -1000, 99999, HearersTest::heardBoth, "stop(1, n)", (y, n) -> y.stop(1, n));
  }

  private static void forget() {
    check.says(27, "A HEARER is as at first, but for its STOP.");
    Loopdefaults x = heardBoth();
    x.forget(0);
    check.due("heard", x.heard(0, 0), 0);
    check.due("sum", x.heard(0, 1), 0);
    check.due("last", x.heard(0, 2), -1);
    check.due("stop", x.heard(0, 3), 77);
    check.due("text", x.heardText(0), "");
    check.due("house(2)", x.house(2), 2);
    check.due("the other hearer", x.heardText(1), "5 6");
    check.due("hearSpan, refused", x.hearSpan(77, 77, 1, 0), -9);
    check.due("last", x.heard(0, 2), -1);
    x.hearSpan(3, 4, 1, 0);
    check.due("text behind", x.heardText(0), "3 4");
    check.due("sum behind", x.heard(0, 1), 7);
    x.forget(1);
    check.due("stop", x.heard(1, 3), -9);
    x.stop(0, -1000);
    x.forget(0);
    check.due("no stop", x.heard(0, 3), -1000);

    check.saysReturns(27, "HEARD before.");
    Loopdefaults y = heardBoth();
    check.due("forget", y.forget(0), 12);
    check.due("forget once more", y.forget(0), 0);
    check.due("forget", y.forget(1), 2);
    check.due("forget at first", new Loopdefaults().forget(1), 0);

    check.saysIndex(27, "if hearer is not 0 or 1");
    check.indexBounds(0, 1, HearersTest::heardBoth, "forget(n)", (z, n) -> z.forget(n));
  }

  private static void heard() {
    check.says(28, "- `what`: 0 HEARD, 1 SUM, 2 LAST, 3 its STOP (-1000 without)");
    Loopdefaults x = new Loopdefaults();
    for (int hearer = 0; hearer < 2; hearer++) {
      check.due("heard at first", x.heard(hearer, 0), 0);
      check.due("sum at first", x.heard(hearer, 1), 0);
      check.due("last at first", x.heard(hearer, 2), -1);
      check.due("stop at first", x.heard(hearer, 3), -1000);
    }
    x.hearSpan(-3, 1, 1, 1);
    x.stop(1, 2);
    x.hearSpan(1, 2, 1, 1);
    check.due("heard", x.heard(1, 0), 6);
    check.due("sum", x.heard(1, 1), -4);
    check.due("last", x.heard(1, 2), 1);
    check.due("stop", x.heard(1, 3), 2);
    check.due("the other hearer", x.heard(0, 0), 0);

    check.saysReturns(28, "that.");
    for (int i = 0; i < 30; i++) {
      x.hearSpan(-999, -960, 1, 1);
    }
    check.due("heard", x.heard(1, 0), 1206);
    check.due("sum", x.heard(1, 1), -4 - 30 * 39180);
    check.due("last", x.heard(1, 2), -960);
    x.hearSpan(-9, -9, 1, 1);
    check.due("last of -9", x.heard(1, 2), -9);
    x.hearSpan(-1, -1, 1, 0);
    check.due("last of -1", x.heard(0, 2), -1);
    check.due("heard of -1", x.heard(0, 0), 1);
    x.stop(0, -9);
    check.due("stop of -9", x.heard(0, 3), -9);
    check.due("house(3)", x.house(3), 1);
  }

  private static void heardThrows() {
    check.saysIndex(28, "if hearer is not 0 or 1");
    check.indexBounds(0, 1, HearersTest::heardBoth, "heard(n, 0)", (x, n) -> x.heard(n, 0));
    Loopdefaults x = heardBoth();
    check.dueIndex(x, "heard(2, 4)", () -> x.heard(2, 4));
    check.dueIndex(x, "heard(-1, -1)", () -> x.heard(-1, -1));

    check.saysArgument(28, "if what is not 0 to 3");
    check.argumentBounds(0, 3, HearersTest::heardBoth, "heard(0, n)", (y, n) -> y.heard(0, n));
    check.argumentBounds(0, 3, Loopdefaults::new, "heard(1, n)", (y, n) -> y.heard(1, n));
  }

  private static void heardText() {
    check.saysReturns(29, "its TEXT.");
    Loopdefaults x = new Loopdefaults();
    check.due("text at first", x.heardText(0), "");
    x.hearSpan(-1, -1, 1, 0);
    check.due("text of one", x.heardText(0), "-1");
    x.hearSpan(0, 7, 1, 0);
    check.due("text of nine", x.heardText(0), "-1 0 1 2 3 4 5 6 7");
    x.hearSpan(8, 8, 1, 0);
    check.due("text of ten", x.heardText(0), "-1 0 1 2 3 4 5 6 7 8");
    x.hearSpan(9, 9, 1, 0);
    check.due("text of eleven", x.heardText(0), "0 1 2 3 4 5 6 7 8 9");
    x.hearSpan(100, 139, 1, 0);
    check.due("text of more", x.heardText(0), "130 131 132 133 134 135 136 137 138 139");
    check.due("text of the other one", x.heardText(1), "");
    x.put(0, 19, 999);
    x.hearTable(0, 1);
    check.due("text of a pair", x.heardText(1), "19999");

    check.saysIndex(29, "if hearer is not 0 or 1");
    check.indexBounds(0, 1, HearersTest::heardBoth, "heardText(n)", (y, n) -> y.heardText(n));
  }
}

/** Promises 26 to 29. */
public final class HearersTest {
  private static final Check check = new Check("HearersTest");

  public static void main(String[] args) {
    stop();
    forget();
    heard();
    heardText();
    check.end();
  }

  private static void stop() {
    check.promise(26);
    Loopdefaults x = new Loopdefaults();
    check.due("stop", x.stop(0, -999), -1000);
    check.due("stop", x.stop(0, 99999), -999);
    check.due("the other hearer", x.heard(1, 3), -1000);
    check.due("stop", x.stop(0, 3), 99999);
    check.due("hearSpan, refused", x.hearSpan(3, 3, 1, 0), -9);
    check.due("hearSpan by the other hearer", x.hearSpan(3, 3, 1, 1), 1);
    check.due("stop", x.stop(0, -1000), 3);
    check.due("hearSpan", x.hearSpan(3, 3, 1, 0), 1);
    x.stop(0, -9);
    check.due("stop", x.stop(0, 0), -9);
    check.due("hearSpan, refused", x.hearSpan(0, 0, 1, 0), -9);
    check.dueArgument(x, "stop(0, 100000)", () -> x.stop(0, 100000));
    check.dueArgument(x, "stop(0, -1001)", () -> x.stop(0, -1001));
    check.dueIndex(x, "stop(2, 100000)", () -> x.stop(2, 100000));
    check.dueIndex(x, "stop(-1, 0)", () -> x.stop(-1, 0));
  }

  private static void forget() {
    check.promise(27);
    Loopdefaults x = new Loopdefaults();
    check.due("forget at first", x.forget(0), 0);
    x.hearSpan(1, 12, 1, 0);
    x.hearSpan(5, 6, 1, 1);
    x.stop(0, 77);
    check.due("forget", x.forget(0), 12);
    check.due("heard", x.heard(0, 0), 0);
    check.due("sum", x.heard(0, 1), 0);
    check.due("last", x.heard(0, 2), -1);
    check.due("stop", x.heard(0, 3), 77);
    check.due("text", x.heardText(0), "");
    check.due("the other hearer", x.heardText(1), "5 6");
    x.hearSpan(3, 4, 1, 0);
    check.due("text behind", x.heardText(0), "3 4");
    check.due("forget", x.forget(0), 2);
    check.dueIndex(x, "forget(2)", () -> x.forget(2));
    check.dueIndex(x, "forget(-1)", () -> x.forget(-1));
  }

  private static void heard() {
    check.promise(28);
    Loopdefaults x = new Loopdefaults();
    x.hearSpan(-3, 1, 1, 1);
    x.stop(1, 2);
    x.hearSpan(1, 2, 1, 1);
    check.due("heard", x.heard(1, 0), 6);
    check.due("sum", x.heard(1, 1), -4);
    check.due("last", x.heard(1, 2), 1);
    check.due("stop", x.heard(1, 3), 2);
    check.due("the other hearer", x.heard(0, 0), 0);
    for (int i = 0; i < 30; i++) {
      x.hearSpan(-999, -960, 1, 1);
    }
    check.due("heard", x.heard(1, 0), 1206);
    check.due("sum", x.heard(1, 1), -4 - 30 * 39180);
    check.dueArgument(x, "heard(0, 4)", () -> x.heard(0, 4));
    check.dueArgument(x, "heard(0, -1)", () -> x.heard(0, -1));
    check.dueIndex(x, "heard(2, 4)", () -> x.heard(2, 4));
    check.dueIndex(x, "heard(-1, 0)", () -> x.heard(-1, 0));
  }

  private static void heardText() {
    check.promise(29);
    Loopdefaults x = new Loopdefaults();
    check.due("text at first", x.heardText(0), "");
    x.hearSpan(-1, -1, 1, 0);
    check.due("text of one", x.heardText(0), "-1");
    x.hearSpan(0, 8, 1, 0);
    check.due("text of ten", x.heardText(0), "-1 0 1 2 3 4 5 6 7 8");
    x.hearSpan(9, 9, 1, 0);
    check.due("text of eleven", x.heardText(0), "0 1 2 3 4 5 6 7 8 9");
    x.hearSpan(100, 139, 1, 0);
    check.due("text of more", x.heardText(0), "130 131 132 133 134 135 136 137 138 139");
    check.due("text of the other one", x.heardText(1), "");
    check.dueIndex(x, "heardText(2)", () -> x.heardText(2));
    check.dueIndex(x, "heardText(-1)", () -> x.heardText(-1));
  }
}

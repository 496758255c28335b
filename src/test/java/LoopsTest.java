/** Sections 3 and 4 of the description, sentence by sentence. */
public final class LoopsTest {
  private static final int SECTION_3 = Document.SECTION_3;
  private static final int SECTION_4 = Document.SECTION_4;
  private static final Check check = new Check("LoopsTest", SECTION_3, SECTION_4);

  public static void main(String[] args) {
    goingThrough();
    rows();
    removeIf();
    replaceAll();
    spans();
    hearTable();
    replaceTable();
    putsAndTellings();
    computeIfAbsent();
    computeIfPresent();
    compute();
    merge();
    refused();
    gate();
    check.promisesNothing(
        SECTION_4,
        "The constructor and the methods follow, a promise each: the signature, then what it "
            + "does.");
    check.end();
  }

  // ---- section 3

  private static void goingThrough() {
    check.says(
        SECTION_3,
        "TO GO THROUGH: a WALK is begun; again and again it is asked whether there is one more; if "
            + "so, it gives that, and with that something is done; if not, the loop is at its "
            + "end.");
    for (int many = 0; many <= 12; many++) {
      Loopdefaults x = new Loopdefaults();
      for (int i = 0; i < many; i++) {
        x.type(0, 2 * i);
      }
      x.hear(0, 0);
      check.dueCounts(x, 0, 1, many + 1, many, 0, 0);
      x.replaceAll(0, 0, 1);
      check.dueCounts(x, 0, 2, 2 * many + 2, 2 * many, many, 0);
      x.removeIf(0, 1, 0);
      check.dueCounts(x, 0, 3, 3 * many + 3, 3 * many, many, many);
      // What refuses ends the loop: the one that it refused was asked for and given.
      x.copy(0);
      x.type(0, 5);
      x.type(0, 6);
      x.forgetCounts();
      x.stop(0, 5);
      x.hear(0, 0);
      check.dueCounts(x, 0, 1, 1, 1, 0, 0);
    }
  }

  private static void rows() {
    check.says(SECTION_3, "hear(): one goes through a ROW; each VALUE is heard.");
    Loopdefaults x = Check.withRow(1, 7, -9, 7, 0);
    x.hear(1, 0);
    check.due("heardText", x.heardText(0), "7 -9 7 0");
    check.dueCounts(x, 1, 1, 5, 4, 0, 0);
    x.hear(0, 0);
    check.due("heardText", x.heardText(0), "7 -9 7 0");
    check.due("rowText", x.rowText(1), "7 -9 7 0");

    check.says(
        SECTION_3,
        "rest(): a WALK is begun, and gives (without being asked whether there is one more) as "
            + "many as are to be passed by; then the rest is gone through by this WALK, and "
            + "heard.");
    for (int ahead = 0; ahead <= 4; ahead++) {
      Loopdefaults y = Check.withRow(1, 7, -9, 8, 0);
      check.due("rest", y.rest(1, ahead, 1), 4 - ahead);
      check.dueCounts(y, 1, 1, 5 - ahead, 4, 0, 0);
      String[] texts = {"7 -9 8 0", "-9 8 0", "8 0", "0", ""};
      check.due("heardText", y.heardText(1), texts[ahead]);
      // What is passed by is not offered to the hearer: its stop refuses only behind that.
      y.stop(1, -9);
      check.due("rest, stopped", y.rest(1, ahead, 1), ahead <= 1 ? -9 : 4 - ahead);
    }
  }

  private static void removeIf() {
    check.says(
        SECTION_3,
        "removeIf(): one goes through a ROW; the TEST is asked of each VALUE; if it tells yes, "
            + "that one is taken away by the WALK (the WALK goes on with the one that stood behind "
            + "it).");
    int[][] rows = {{2, 2, 2}, {2, 2, 1}, {2, 1, 2}, {1, 2, 2}, {1, 1, 2}, {2, 1, 1}, {1, 1, 1}};
    String[] left = {"", "1", "1", "1", "1 1", "1 1", "1 1 1"};
    for (int i = 0; i < rows.length; i++) {
      Loopdefaults x = Check.withRow(0, rows[i]);
      int taken = 3 - (left[i].length() + 1) / 2;
      check.due("removeIf", x.removeIf(0, 0, 0), taken > 0 ? 1 : 0);
      check.due("rowText", x.rowText(0), left[i]);
      check.dueCounts(x, 0, 1, 4, 3, 0, taken);
    }
    Loopdefaults full = Check.withFullRows();
    check.due("removeIf of all 12", full.removeIf(1, 3, 0), 1);
    check.due("rowText", full.rowText(1), "");
    check.dueCounts(full, 1, 1, 13, 12, 0, 12);
    check.due("the other row", full.length(0), 12);
  }

  private static void replaceAll() {
    check.says(
        SECTION_3,
        "replaceAll(): one goes through a ROW; the RULE is asked of each VALUE (its KEY is 0), and "
            + "what it tells is put in its place by the WALK");
    Loopdefaults x = Check.withRow(1, -999, 3, 3, 999);
    x.replaceAll(1, 0, 1);
    check.due("rule 0", x.rowText(1), "-998 4 4 999");
    x.replaceAll(1, 1, 5);
    check.due("rule 1", x.rowText(1), "5 5 5 999");
    x.replaceAll(1, 4, -1);
    check.due("rule 4", x.rowText(1), "4 4 4 998");
    x.replaceAll(1, 4, 0);
    check.due("rule 4, the same", x.rowText(1), "4 4 4 998");
    check.dueCounts(x, 1, 4, 20, 16, 16, 0);

    check.says(SECTION_3, "(a FIXED ROW refuses at the first one, behind the RULE).");
    x.forgetCounts();
    x.fix(1, true);
    check.due("fixed", x.replaceAll(1, 0, 2), -9);
    check.dueCounts(x, 1, 1, 1, 1, 0, 0);
    check.due("fixed, the rule refuses", x.replaceAll(1, 4, 1), -9);
    check.dueCounts(x, 1, 2, 2, 2, 0, 0);
    check.due("rowText", x.rowText(1), "4 4 4 998");
    x.drop(1, 4);
    check.due("fixed, of none", x.replaceAll(1, 0, 2), 0);
    check.dueCounts(x, 1, 3, 3, 2, 0, 0);
  }

  private static void spans() {
    check.says(
        SECTION_3,
        "A SPAN from, to, by: the numbers from, from + by, .. as long as they are not above to.");
    int[][] spans = {
      // from, to, by, how many, their sum, the last one
      {1, 0, 1, 0, 0, -1}, {1, 1, 1, 1, 1, 1}, {1, 2, 1, 2, 3, 2}, {1, 2, 2, 1, 1, 1},
      {1, 3, 2, 2, 4, 3}, {1, 4, 2, 2, 4, 3}, {1, 5, 2, 3, 9, 5}, {-1, 1, 1, 3, 0, 1},
      {-999, -999, 99, 1, -999, -999}, {-999, -900, 99, 2, -1899, -900},
      {-999, -901, 99, 1, -999, -999}, {999, 999, 99, 1, 999, 999},
      {900, 999, 99, 2, 1899, 999}, {901, 999, 99, 1, 901, 901}, {999, 998, 99, 0, 0, -1},
      {-999, 999, 99, 21, -189, 981}, {-999, 999, 50, 40, -960, 951},
      {960, 999, 1, 40, 39180, 999},
    };
    for (int[] span : spans) {
      Loopdefaults x = new Loopdefaults();
      String call = "hearSpan(" + span[0] + ", " + span[1] + ", " + span[2] + ")";
      check.due(call, x.hearSpan(span[0], span[1], span[2], 0), span[3]);
      check.due(call + ", sum", x.heard(0, 1), span[4]);
      check.due(call + ", last", x.heard(0, 2), span[5]);
    }

    check.says(SECTION_3, "hearSpan() goes through it, from its beginning;");
    Loopdefaults x = new Loopdefaults();
    x.hearSpan(-4, 6, 5, 1);
    check.due("heardText", x.heardText(1), "-4 1 6");
    x.hearSpan(-4, 6, 5, 1);
    check.due("heardText, once more", x.heardText(1), "-4 1 6 -4 1 6");

    check.says(SECTION_3, "hearSteps() as rest() does.");
    String[] texts = {"-4 1 6", "1 6", "6", ""};
    for (int ahead = 0; ahead <= 3; ahead++) {
      Loopdefaults y = new Loopdefaults();
      check.due("hearSteps", y.hearSteps(-4, 6, 5, ahead, 1), 3 - ahead);
      check.due("heardText", y.heardText(1), texts[ahead]);
      y.stop(1, 1);
      check.due("hearSteps, stopped", y.hearSteps(-4, 6, 5, ahead, 1), ahead <= 1 ? -9 : 3 - ahead);
    }
  }

  // ---- section 4

  private static void hearTable() {
    check.says(
        SECTION_4,
        "hearTable(): one goes through the PAIRS of a TABLE in their sequence; each is HEARD.");
    for (int table = 0; table < 3; table++) {
      Loopdefaults x = Check.withTables(9, 1, 0, -1, 4, 0);
      x.hearTable(table, 0);
      check.due("heardText", x.heardText(0), table == 2 ? "-1 4000 9001" : "9001 -1 4000");
      check.due("shelfCounts(1)", x.shelfCounts(1), table == 0 ? 4 : 0);
      x.remove(table, 9);
      x.put(table, 9, 2);
      x.forget(0);
      x.hearTable(table, 0);
      check.due("heardText", x.heardText(0), table == 2 ? "-1 4000 9002" : "-1 4000 9002");
      check.due("text", x.text(table), "0=-1 4=0 9=2");
    }
  }

  private static void replaceTable() {
    check.says(
        SECTION_4,
        "replaceTable(): one goes through them; the RULE is asked of each KEY and VALUE, and what "
            + "it tells is put in the place of the VALUE by the WALK.");
    for (int table = 0; table < 3; table++) {
      Loopdefaults x = Check.withTables(19, 1, 0, 997, 4, -999);
      boolean isSorted = table == 2;
      x.replaceTable(table, 0, 3);
      check.due("rule 0", x.text(table), isSorted ? "0=999 4=-996 19=4" : "19=4 0=999 4=-996");
      x.replaceTable(table, 1, 4);
      check.due("rule 1", x.text(table), isSorted ? "0=999 4=4 19=4" : "19=4 0=999 4=4");
      x.replaceTable(table, 5, 980);
      check.due("rule 5", x.text(table), isSorted ? "0=980 4=984 19=999" : "19=999 0=980 4=984");
      x.put(table, 19, 18);
      check.due("rule 4, 999 is odd", x.replaceTable(table, 4, 20), -9);
      check.due("rule 4", x.text(table), isSorted ? "0=980 4=984 19=18" : "19=38 0=980 4=984");
      x.replaceTable(table, 4, 2);
      check.due("rule 4", x.text(table), isSorted ? "0=982 4=986 19=20" : "19=40 0=982 4=986");
      int[] none = new int[7];
      check.dueShelfCounts(x, table == 0 ? new int[] {5, 18, 14, 13, 0, 1, 0} : none);
    }
  }

  private static void putsAndTellings() {
    for (int table = 0; table < 3; table++) {
      Loopdefaults x = Check.withTables(5, 7);
      check.says(SECTION_4, "putIfAbsent(): if the KEY is not there, the PAIR is put.");
      x.putIfAbsent(table, 5, 8);
      check.due("there", x.get(table, 5), 7);
      x.putIfAbsent(table, 6, 8);
      check.due("not there", x.get(table, 6), 8);

      check.says(SECTION_4, "replace(): if it is there, the PAIR is put.");
      x.replace(table, 4, 1);
      check.due("not there", x.has(table, 4), false);
      x.replace(table, 6, 1);
      check.due("there", x.get(table, 6), 1);

      check.says(
          SECTION_4, "replaceIf(): if it is there with the told old VALUE, the PAIR is put.");
      x.replaceIf(table, 4, 0, 2);
      check.due("not there", x.has(table, 4), false);
      x.replaceIf(table, 6, 2, 3);
      check.due("there with another one", x.get(table, 6), 1);
      x.replaceIf(table, 6, 1, 3);
      check.due("there with it", x.get(table, 6), 3);

      check.says(
          SECTION_4,
          "removePair(): if it is there with just that VALUE, the KEY is told to go.");
      x.removePair(table, 4, 0);
      x.removePair(table, 6, 4);
      check.due("there with another one", x.get(table, 6), 3);
      x.removePair(table, 6, 3);
      check.due("there with it", x.has(table, 6), false);
      check.due("text", x.text(table), "5=7");
      check.due("puts", x.shelfCounts(5), table == 0 ? 3 : 0);
      check.due("tellings to go", x.shelfCounts(6), table == 0 ? 1 : 0);
    }
  }

  private static void dueShelf(Loopdefaults x, int table, int puts, int tellings) {
    check.dueShelfCounts(x, 0, 0, 0, 0, 0, table == 0 ? puts : 0, table == 0 ? tellings : 0);
  }

  private static void computeIfAbsent() {
    check.says(
        SECTION_4,
        "computeIfAbsent(): if the KEY is not there, the RULE is asked (v is 0); a VALUE is put, "
            + "of NOTHING nothing comes.");
    for (int table = 0; table < 3; table++) {
      Loopdefaults x = Check.withTables(5, 7);
      x.computeIfAbsent(table, 5, 0, 1);
      x.computeIfAbsent(table, 5, 3, 1);
      check.due("there", x.text(table), "5=7");
      x.computeIfAbsent(table, 6, 3, 1);
      x.computeIfAbsent(table, 6, 2, 1);
      check.due("to nothing", x.text(table), "5=7");
      dueShelf(x, table, 0, 0);
      x.computeIfAbsent(table, 6, 1, -1);
      check.due("the greater one of 0 and -1", x.text(table), "5=7 6=0");
      x.computeIfAbsent(table, 7, 0, -1);
      check.due("0 and -1", x.text(table), "5=7 6=0 7=-1");
      dueShelf(x, table, 2, 0);
    }
  }

  private static void computeIfPresent() {
    check.says(
        SECTION_4,
        "computeIfPresent(): if it is there, the RULE is asked of its VALUE; a VALUE is put, by "
            + "NOTHING the KEY is told to go.");
    for (int table = 0; table < 3; table++) {
      Loopdefaults x = Check.withTables(5, 7, 6, 2);
      x.computeIfPresent(table, 4, 0, 1);
      x.computeIfPresent(table, 4, 3, 1);
      check.due("not there", x.text(table), "5=7 6=2");
      dueShelf(x, table, 0, 0);
      x.computeIfPresent(table, 5, 0, 1);
      check.due("there", x.text(table), "5=8 6=2");
      dueShelf(x, table, 1, 0);
      x.computeIfPresent(table, 5, 2, 1);
      check.due("to nothing", x.text(table), "6=2");
      dueShelf(x, table, 1, 1);
    }
  }

  private static void compute() {
    check.says(
        SECTION_4,
        "compute(): the RULE is asked of its VALUE (0 of NOTHING); a VALUE is put; by NOTHING, if "
            + "it is there, the KEY is told to go.");
    for (int table = 0; table < 3; table++) {
      Loopdefaults x = Check.withTables(5, 7);
      x.compute(table, 6, 3, 0);
      x.compute(table, 6, 2, 1);
      check.due("to nothing, not there", x.text(table), "5=7");
      dueShelf(x, table, 0, 0);
      x.compute(table, 6, 1, -5);
      check.due("not there", x.text(table), "5=7 6=0");
      x.compute(table, 5, 0, 2);
      check.due("there", x.text(table), "5=9 6=0");
      dueShelf(x, table, 2, 0);
      x.compute(table, 5, 3, 0);
      check.due("to nothing, there", x.text(table), "6=0");
      dueShelf(x, table, 2, 1);
      x.compute(table, 6, 2, 1);
      check.due("to nothing, there as 0", x.text(table), "");
      dueShelf(x, table, 2, 2);
    }
  }

  private static void merge() {
    check.says(
        SECTION_4,
        "merge(): if the KEY is not there, the told VALUE is put; otherwise the RULE is asked of "
            + "its VALUE with the told VALUE as number; a VALUE is put, by NOTHING the KEY is told "
            + "to go.");
    for (int table = 0; table < 3; table++) {
      Loopdefaults x = Check.withTables(5, 7);
      x.merge(table, 6, 3, 3);
      x.merge(table, 7, 3, 4);
      check.due("not there", x.text(table), "5=7 6=3 7=3");
      dueShelf(x, table, 2, 0);
      x.merge(table, 5, -2, 0);
      check.due("there, rule 0", x.text(table), "5=5 6=3 7=3");
      x.merge(table, 5, 9, 5);
      check.due("there, rule 5", x.text(table), "5=14 6=3 7=3");
      dueShelf(x, table, 4, 0);
      x.merge(table, 6, 0, 3);
      x.merge(table, 7, 2, 2);
      check.due("to nothing", x.text(table), "5=14");
      dueShelf(x, table, 4, 2);
    }
  }

  private static void refused() {
    check.says(SECTION_4, "By a RULE that refuses nothing is put, and no KEY is told to go.");
    for (int table = 0; table < 3; table++) {
      Loopdefaults x = Check.withTables(5, 7, 0, 1);
      check.due("computeIfAbsent", x.computeIfAbsent(table, 6, 4, 1), -9);
      check.due("computeIfPresent", x.computeIfPresent(table, 5, 4, 0), -9);
      check.due("compute", x.compute(table, 5, 4, 0), -9);
      check.due("compute, not there", x.compute(table, 6, 4, 1), -9);
      check.due("merge", x.merge(table, 5, 0, 4), -9);
      check.due("text", x.text(table), table == 2 ? "0=1 5=7" : "5=7 0=1");
      dueShelf(x, table, 0, 0);
      check.due("house(3)", x.house(3), 5);
    }
  }

  private static void gate() {
    check.says(
        SECTION_4,
        "At the gate stands one who wants to be led, too: who knocks is counted.");
    Loopdefaults x = new Loopdefaults();
    check.due("house(4) at first", x.house(4), 0);
    check.due("knock", x.knock(), 1);
    check.due("knock", x.knock(), 2);
    check.due("house(4)", x.house(4), 2);
  }
}

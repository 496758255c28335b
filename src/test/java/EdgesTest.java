import java.util.ArrayList;
import java.util.HashMap;
import java.util.List;
import java.util.Map;

/**
 * Each call with every mixture of what stands at the edges of its arguments, on objects that are
 * empty, that have some of all, and that are full and refuse: where arguments are wrong, the
 * exception that is named first is thrown and nothing is changed; otherwise the model's answer and
 * the model's state are due.
 */
public final class EdgesTest {
  private static final String INDEX = IndexOutOfBoundsException.class.getName();
  private static final String ARGUMENT = IllegalArgumentException.class.getName();
  private static final String STATE = IllegalStateException.class.getName();

  /** Each call with the kinds of its arguments; what a kind may be stands in isRight(). */
  private static final String[] CALLS = {
    "type row value", "drop row many", "fix row flag", "hear row hearer", "rest row ahead hearer",
    "removeIf row test value", "replaceAll row rowRule value", "copy row", "put table key value",
    "remove table key", "putIfAbsent table key value", "replace table key value",
    "replaceIf table key value value", "removePair table key value",
    "computeIfAbsent table key rule value", "computeIfPresent table key rule value",
    "compute table key rule value", "merge table key value rule", "hearTable table hearer",
    "replaceTable table tableRule value", "clear table", "hearSpan end end by hearer",
    "hearSteps end end by spanAhead hearer", "takeStep end end", "stop hearer stop",
    "forget hearer", "heard hearer what3", "heardText hearer", "length row", "at row place",
    "rowText row", "isFixed row", "counts row what4", "shelfCounts what6", "forgetCounts",
    "get table key", "getOr table key value", "has table key", "size table", "text table",
    "areLike table table", "given rule key valueOrNothing value", "tested test value value",
    "knock", "house what4", "isSound", "digest",
  };

  private static final Map<String, int[]> EDGES = new HashMap<>();

  static {
    EDGES.put("row", new int[] {-1, 0, 1, 2});
    EDGES.put("hearer", new int[] {-1, 0, 1, 2});
    EDGES.put("table", new int[] {-1, 0, 1, 2, 3});
    EDGES.put("key", new int[] {-1, 0, 4, 5, 19, 20});
    EDGES.put("value", new int[] {-1000, -999, -9, 0, 5, 999, 1000});
    EDGES.put("valueOrNothing", new int[] {-1001, -1000, -999, -9, 0, 5, 999, 1000});
    EDGES.put("many", new int[] {-1, 0, 1, 2, 3, 4, 11, 12, 13});
    EDGES.put("ahead", new int[] {-1, 0, 1, 2, 3, 4, 11, 12, 13});
    EDGES.put("place", new int[] {-1, 0, 1, 2, 3, 4, 11, 12, 13});
    EDGES.put("test", new int[] {-1, 0, 1, 2, 3, 4, 5, 6});
    EDGES.put("rule", new int[] {-1, 0, 1, 2, 3, 4, 5, 6});
    EDGES.put("rowRule", new int[] {-1, 0, 1, 2, 3, 4, 5, 6});
    EDGES.put("tableRule", new int[] {-1, 0, 1, 2, 3, 4, 5, 6});
    EDGES.put("end", new int[] {-1000, -999, -960, -959, 0, 5, 39, 999, 1000});
    EDGES.put("by", new int[] {0, 1, 2, 49, 50, 99, 100});
    EDGES.put("spanAhead", new int[] {-1, 0, 1, 2, 39, 40, 41});
    EDGES.put("stop", new int[] {-1001, -1000, -999, 5, 99999, 100000});
    EDGES.put("what3", new int[] {-1, 0, 1, 2, 3, 4});
    EDGES.put("what4", new int[] {-1, 0, 1, 2, 3, 4, 5});
    EDGES.put("what6", new int[] {-1, 0, 1, 2, 3, 4, 5, 6, 7});
  }

  /** What is called on a new object first, so that there is something to change. */
  private static final Object[][] EMPTY = {};

  private static final Object[][] SOME = {
    {"type", 0, 5}, {"type", 0, -9}, {"type", 0, 0}, {"type", 1, 7}, {"put", 0, 5, 7},
    {"put", 0, 0, -9}, {"put", 1, 5, 7}, {"put", 1, 0, -9}, {"put", 2, 5, 7}, {"put", 2, 0, -9},
    {"hear", 0, 0}, {"hear", 1, 1}, {"hearTable", 0, 1}, {"stop", 1, 0}, {"knock"},
  };

  private static final Object[][] FULL = full();

  private static Object[][] full() {
    List<Object[]> calls = new ArrayList<>();
    for (int i = 0; i < 12; i++) {
      calls.add(new Object[] {"type", 0, 5});
    }
    calls.add(new Object[] {"copy", 1});
    for (int key = 0; key < 20; key++) {
      for (int table = 0; table < 3; table++) {
        calls.add(new Object[] {"put", table, 19 - key, 5});
      }
    }
    calls.add(new Object[] {"hear", 0, 0});
    calls.add(new Object[] {"hearTable", 0, 1});
    calls.add(new Object[] {"fix", 0, true});
    calls.add(new Object[] {"fix", 1, true});
    calls.add(new Object[] {"stop", 0, 5});
    calls.add(new Object[] {"stop", 1, -999});
    return calls.toArray(new Object[0][]);
  }

  private static int looked;
  private static int wrong;

  public static void main(String[] args) throws Exception {
    if (Face.all().size() != CALLS.length) {
      throw new IllegalStateException("a call is left out, or there twice");
    }
    look(EMPTY, 0, 0);
    look(SOME, 3, 1);
    look(FULL, 12, 12);
    System.out.println("EdgesTest: " + looked + " answers, " + wrong + " wrong");
    System.exit(wrong > 0 || looked == 0 ? 1 : 0);
  }

  private static void look(Object[][] ahead, int... lengths) throws Exception {
    Loopdefaults x = (Loopdefaults) made(new Loopdefaults(), ahead);
    String before = Check.state(x);
    due("the state at first", before, state((Model) made(new Model(), ahead)));
    for (String call : CALLS) {
      String[] words = call.split(" ");
      mix(ahead, before, lengths, words, new Object[words.length - 1], 0);
    }
  }

  private static void mix(
      Object[][] ahead, String before, int[] lengths, String[] words, Object[] with, int place)
      throws Exception {
    if (place == with.length) {
      lookAt(ahead, before, dueOf(words, with, lengths), words[0], with);
    } else if (words[place + 1].equals("flag")) {
      for (boolean flag : new boolean[] {false, true}) {
        with[place] = flag;
        mix(ahead, before, lengths, words, with, place + 1);
      }
    } else {
      for (int edge : EDGES.get(words[place + 1])) {
        with[place] = edge;
        mix(ahead, before, lengths, words, with, place + 1);
      }
    }
  }

  private static void lookAt(
      Object[][] ahead, String before, String thrown, String name, Object[] with)
      throws Exception {
    Loopdefaults x = (Loopdefaults) made(new Loopdefaults(), ahead);
    Object got = Face.answer(x, Face.named(name), with);
    String call = name + List.of(with) + " behind " + ahead.length + " calls";
    if (thrown != null) {
      due(call, got, thrown);
      due(call + " leaves", Check.state(x), before);
    } else {
      Model model = (Model) made(new Model(), ahead);
      due(call, got, Face.answer(model, Face.named(name), with));
      due(call + " leaves", Check.state(x), state(model));
    }
  }

  private static void due(String call, Object got, Object want) {
    looked++;
    if (!want.equals(got)) {
      wrong++;
      if (wrong <= 20) {
        System.out.println("EdgesTest: " + call + " answered " + got + ", due is " + want);
      }
    }
  }

  private static Object made(Object on, Object[][] ahead) throws Exception {
    for (Object[] call : ahead) {
      Object[] with = new Object[call.length - 1];
      System.arraycopy(call, 1, with, 0, with.length);
      Face.answer(on, Face.named((String) call[0]), with);
    }
    return on;
  }

  private static String state(Model model) {
    StringBuilder told = new StringBuilder().append(model.digest());
    told.append("; ").append(model.rowText(0)).append("; ").append(model.rowText(1));
    for (int table = 0; table < 3; table++) {
      told.append("; ").append(model.text(table));
    }
    told.append("; ").append(model.heardText(0)).append("; ").append(model.heardText(1));
    return told.toString();
  }

  // ---- which exception is due

  private static String dueOf(String[] words, Object[] with, int[] lengths) {
    boolean isArgumentWrong = false;
    for (int i = 0; i < with.length; i++) {
      String kind = words[i + 1];
      boolean isIndex = List.of("row", "hearer", "table").contains(kind);
      if (isIndex && !isRight(kind, (int) with[i], 0)) {
        return INDEX;
      }
    }
    int length = words.length > 1 && words[1].equals("row") ? lengths[(int) with[0]] : 0;
    if (words[0].startsWith("hearS")) {
      length = spanLength((int) with[0], (int) with[1], (int) with[2]);
      isArgumentWrong = length > 40;
    }
    for (int i = 0; i < with.length; i++) {
      if (!words[i + 1].equals("flag") && !isRight(words[i + 1], (int) with[i], length)) {
        isArgumentWrong = true;
      }
    }
    if (words[0].equals("takeStep") && (int) with[0] > (int) with[1]) {
      isArgumentWrong = true;
    }
    if (isArgumentWrong) {
      return words[0].equals("at") ? INDEX : ARGUMENT;
    }
    return words[0].equals("type") && length == 12 ? STATE : null;
  }

  private static int spanLength(int from, int to, int by) {
    int many = 0;
    for (int number = from; by > 0 && number <= to; number += by) {
      many++;
    }
    return many;
  }

  private static boolean isRight(String kind, int n, int length) {
    switch (kind) {
      case "row":
      case "hearer":
        return n == 0 || n == 1;
      case "table":
        return n >= 0 && n <= 2;
      case "key":
        return n >= 0 && n <= 19;
      case "value":
      case "end":
        return n >= -999 && n <= 999;
      case "valueOrNothing":
        return n >= -1000 && n <= 999;
      case "many":
        return n >= 1 && n <= length;
      case "ahead":
      case "spanAhead":
        return n >= 0 && n <= length;
      case "place":
        return n >= 0 && n < length;
      case "test":
      case "rule":
        return n >= 0 && n <= 5;
      case "rowRule":
        return n == 0 || n == 1 || n == 4;
      case "tableRule":
        return n == 0 || n == 1 || n == 4 || n == 5;
      case "by":
        return n >= 1 && n <= 99;
      case "stop":
        return n >= -1000 && n <= 99999;
      case "what3":
        return n >= 0 && n <= 3;
      case "what4":
        return n >= 0 && n <= 4;
      default:
        return n >= 0 && n <= 6;
    }
  }
}

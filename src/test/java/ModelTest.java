import java.lang.reflect.Method;
import java.util.ArrayList;
import java.util.Arrays;
import java.util.List;

/** Long runs of calls, the same on an object and on the model: each answer has to be the same. */
public final class ModelTest {
  private static final int RUNS = 1500;
  private static final int CALLS = 512;
  private static final int LOOK_EVERY = 16;

  private static long seed;
  private static int looked;
  private static int wrong;

  public static void main(String[] args) throws Exception {
    List<Method> face = Face.all();
    for (int run = 0; run < RUNS && wrong < 20; run++) {
      seed = 7919L * run + 1;
      go(run, face);
    }
    System.out.println("ModelTest: " + looked + " answers, " + wrong + " wrong");
    System.exit(wrong > 0 || looked == 0 ? 1 : 0);
  }

  private static int below(int bound) {
    seed = seed * 6364136223846793005L + 1442695040888963407L;
    return (int) ((seed >>> 33) % bound);
  }

  private static void go(int run, List<Method> face) throws Exception {
    Loopdefaults x = new Loopdefaults();
    Model model = new Model();
    List<String> told = new ArrayList<>();
    // Small numbers in most runs, so that keys, stops and old values meet.
    int most = run % 3 == 0 ? 999 : 4 + run % 5;
    for (int call = 0; call < CALLS; call++) {
      boolean isLook = call % LOOK_EVERY >= LOOK_EVERY - 9;
      Method method = isLook ? looks(call % LOOK_EVERY - (LOOK_EVERY - 9)) : chosen(face);
      Object[] with = isLook ? lookArguments(call % LOOK_EVERY - (LOOK_EVERY - 9)) : drawn(method, most);
      Object want = Face.answer(model, method, with);
      Object got = Face.answer(x, method, with);
      told.add(method.getName() + Arrays.toString(with) + " " + got);
      looked++;
      if (!want.equals(got)) {
        wrong++;
        System.out.println("ModelTest, run " + run + ", due is " + want + " behind:");
        told.subList(Math.max(0, told.size() - 40), told.size()).forEach(System.out::println);
        return;
      }
    }
  }

  private static final String[] LOOKS = {
    "digest", "rowText", "rowText", "text", "text", "text", "heardText", "heardText", "isSound"
  };
  private static final int[] LOOKED_AT = {-1, 0, 1, 0, 1, 2, 0, 1, -1};

  private static Method looks(int look) throws Exception {
    return LOOKED_AT[look] < 0
        ? Loopdefaults.class.getMethod(LOOKS[look])
        : Loopdefaults.class.getMethod(LOOKS[look], int.class);
  }

  private static Object[] lookArguments(int look) {
    return LOOKED_AT[look] < 0 ? new Object[0] : new Object[] {LOOKED_AT[look]};
  }

  private static Method chosen(List<Method> face) {
    Method method = face.get(below(face.size()));
    boolean isRare = List.of("clear", "forgetCounts", "drop", "copy").contains(method.getName());
    return isRare && below(3) > 0 ? Face.named("type") : method;
  }

  private static Object[] drawn(Method method, int most) {
    Class<?>[] types = method.getParameterTypes();
    Object[] with = new Object[types.length];
    String kinds = kinds(method.getName());
    for (int i = 0; i < with.length; i++) {
      with[i] = types[i] == boolean.class ? (Object) (below(3) == 0) : drawn(kinds.charAt(i), most);
    }
    return with;
  }

  /** A letter an argument: what it is. */
  private static String kinds(String name) {
    switch (name) {
      case "type":
        return "rv";
      case "drop":
      case "at":
        return "ra";
      case "hear":
        return "rr";
      case "rest":
        return "rar";
      case "removeIf":
      case "replaceAll":
        return "ruv";
      case "put":
      case "putIfAbsent":
      case "replace":
      case "removePair":
      case "getOr":
        return "tkv";
      case "replaceIf":
        return "tkvv";
      case "computeIfAbsent":
      case "computeIfPresent":
      case "compute":
        return "tkuv";
      case "merge":
        return "tkvu";
      case "hearTable":
        return "tr";
      case "replaceTable":
        return "tuv";
      case "hearSpan":
        return "vvbr";
      case "hearSteps":
        return "vvbar";
      case "takeStep":
        return "vv";
      case "stop":
        return "rs";
      case "heard":
      case "counts":
        return "ru";
      case "remove":
      case "get":
      case "has":
        return "tk";
      case "clear":
      case "size":
      case "text":
        return "t";
      case "areLike":
        return "tt";
      case "given":
        return "uknv";
      case "tested":
        return "uvv";
      case "shelfCounts":
      case "house":
        return "u";
      default:
        return "rr";
    }
  }

  private static int drawn(char kind, int most) {
    if (below(60) == 0) {
      int[] odd = {-1, 2, 3, 6, 7, 12, 13, 20, 100, 1000, -1000, -1001, Integer.MAX_VALUE,
        Integer.MIN_VALUE};
      return odd[below(odd.length)];
    }
    switch (kind) {
      case 'r':
        return below(2);
      case 't':
        return below(3);
      case 'k':
        return most > 20 ? below(20) : below(6);
      case 'u':
        return below(6);
      case 'a':
        return below(5);
      case 'b':
        return 1 + below(most > 20 ? 99 : 3);
      case 's':
        return below(3) == 0 ? -1000 : below(6) * (below(2) * 1000) + below(2 * most + 1) - most;
      case 'n':
        return below(5) == 0 ? -1000 : below(2 * most + 1) - most;
      default:
        return below(2 * most + 1) - most;
    }
  }
}

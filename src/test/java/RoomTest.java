import com.sun.management.ThreadMXBean;
import java.lang.management.ManagementFactory;

/** All calls of one run live in one room: the dearest ones, 512 times, stay far below it. */
public final class RoomTest {
  // The room has 7.3 million fields and elements; a byte a field is less than any of them takes.
  private static final long MOST_BYTES = 7_300_000;
  private static final int CALLS = 512;
  // An object promises nothing behind its 512th call, and some are used up to fill it.
  private static final int TRIED = 400;

  private static final ThreadMXBean threads =
      (ThreadMXBean) ManagementFactory.getThreadMXBean();
  private static int wrong;

  private interface Call {
    void on(Loopdefaults x);
  }

  public static void main(String[] args) {
    look("new Loopdefaults()", x -> new Loopdefaults());
    look("digest()", x -> x.digest());
    look("isSound()", x -> x.isSound());
    look("text(0)", x -> x.text(0));
    look("rowText(0)", x -> x.rowText(0));
    look("heardText(0)", x -> x.heardText(0));
    look("hearSpan(0, 39, 1, 0)", x -> x.hearSpan(0, 39, 1, 0));
    look("hearTable(0, 0)", x -> x.hearTable(0, 0));
    look("removeIf(0, 2, -999)", x -> x.removeIf(0, 2, -999));
    System.exit(wrong > 0 ? 1 : 0);
  }

  private static void look(String name, Call call) {
    Loopdefaults x = full();
    call.on(x);
    long before = threads.getThreadAllocatedBytes(Thread.currentThread().getId());
    for (int i = 0; i < TRIED; i++) {
      call.on(x);
    }
    long all = threads.getThreadAllocatedBytes(Thread.currentThread().getId()) - before;
    long bytes = all / TRIED;
    boolean isRoomy = bytes * CALLS <= MOST_BYTES;
    wrong += isRoomy ? 0 : 1;
    System.out.println(
        (isRoomy ? "RoomTest: " : "RoomTest, too much: ") + name + " makes " + bytes
            + " bytes a call");
  }

  private static Loopdefaults full() {
    Loopdefaults x = new Loopdefaults();
    for (int i = 0; i < 12; i++) {
      x.type(0, -999 + i);
      x.type(1, 999 - i);
    }
    for (int key = 0; key < 20; key++) {
      x.put(0, 19 - key, -999);
      x.put(1, 19 - key, -999);
      x.put(2, 19 - key, -999);
    }
    x.hearTable(0, 0);
    x.hearTable(1, 1);
    return x;
  }
}

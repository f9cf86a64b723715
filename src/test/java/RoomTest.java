import com.sun.management.ThreadMXBean;
import java.lang.management.ManagementFactory;

/** The room that the dearest runs of calls take: nothing of it is ever given back. */
public final class RoomTest {
  /** 7.3 million elements, and no element takes less than a byte; most take four. */
  private static final long MOST_BYTES = 7_300_000L;
  /** What the measuring itself may take. */
  private static final long MEASURING_BYTES = 4096;
  private static final int CALLS = 512;
  private static final ThreadMXBean ROOM = (ThreadMXBean) ManagementFactory.getThreadMXBean();
  private static int wrong = 0;

  public static void main(String[] args) {
    // The first round also loads classes, which is no room of the program's own.
    for (int round = 0; round < 3; round++) {
      long begun = taken();
      newObjects();
      long made = taken();
      long dearest = acts();
      long acted = taken();
      if (round == 2) {
        look("new objects", made - begun);
        look("acts", acted - made);
        look("the dearest act, " + CALLS + " times", dearest * CALLS);
      }
    }
    actsAnew();
    questions();
    if (wrong != 0) {
      System.exit(1);
    }
  }

  private static long taken() {
    return ROOM.getThreadAllocatedBytes(Thread.currentThread().getId());
  }

  private static void look(String what, long bytes) {
    System.out.println(what + ": " + bytes + " bytes");
    if (bytes > MOST_BYTES) {
      wrong++;
      System.out.println(what + ": too much room");
    }
  }

  private static void lookForNone(String what, long bytes) {
    System.out.println(what + ": " + bytes + " bytes");
    if (bytes > MEASURING_BYTES) {
      wrong++;
      System.out.println(what + " make objects");
    }
  }

  private static void newObjects() {
    for (int i = 0; i < CALLS; i++) {
      new WaysKept();
    }
  }

  /** As many acts as there may be and some refused ones: how much the dearest call takes. */
  private static long acts() {
    return dearestOf(new WaysKept());
  }

  /** Behind posts, acts find the room that was made before. */
  private static void actsAnew() {
    WaysKept kept = new WaysKept();
    dearestOf(kept);
    long begun = taken();
    dearestOf(kept);
    lookForNone("acts behind posts", taken() - begun);
  }

  private static long dearestOf(WaysKept kept) {
    kept.posts(10);
    kept.line(0, 9, 1, true);
    long dearest = 0;
    for (int i = 0; i < CALLS; i++) {
      long begun = taken();
      kept.price(0, i % 7);
      dearest = Math.max(dearest, taken() - begun);
    }
    return dearest;
  }

  private static void questions() {
    WaysKept kept = new WaysKept();
    kept.posts(10);
    for (int i = 0; i < 9; i++) {
      kept.line(i, i + 1, 1, true);
    }
    for (int round = 0; round < 2; round++) {
      long begun = taken();
      int all = askAll(kept);
      long asked = taken() - begun;
      System.out.println("answers together " + all);
      if (round == 1) {
        lookForNone("questions", asked);
      }
    }
  }

  private static int askAll(WaysKept kept) {
    int all = 0;
    for (int i = 0; i < 20; i++) {
      all += kept.far(0, 9) + kept.way(0, 9, 3) + kept.without(0, 9, 2) + kept.vital(0, 9, 4) + kept.about(0, 9, 4);
      all += kept.ring() + kept.height(3) + kept.moved(4) + kept.pair(4, 1) + kept.then(3, 0, 3) + kept.since(1, 0, 3, 9);
      all += kept.marks(5) + kept.near(0, 9) + kept.worst() + kept.hits(1 + i % 9) + kept.count(3) + kept.told(1, 5);
    }
    return all;
  }
}

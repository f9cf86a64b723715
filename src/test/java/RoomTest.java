import com.sun.management.ThreadMXBean;
import java.lang.management.ManagementFactory;

/** The room that the dearest runs of calls take: nothing of it is ever given back. */
public final class RoomTest {
  /** 7.3 million elements, and no element takes less than a byte; most take four. */
  private static final long MOST_BYTES = 7_300_000L;
  private static final int CALLS = 512;
  private static int wrong = 0;

  public static void main(String[] args) {
    ThreadMXBean room = (ThreadMXBean) ManagementFactory.getThreadMXBean();
    for (int round = 0; round < 3; round++) {
      long begun = room.getThreadAllocatedBytes(Thread.currentThread().getId());
      newObjects();
      long made = room.getThreadAllocatedBytes(Thread.currentThread().getId());
      acts();
      long acted = room.getThreadAllocatedBytes(Thread.currentThread().getId());
      look("new objects", made - begun);
      look("acts and posts", acted - made);
    }
    asking(room);
    if (wrong != 0) {
      System.exit(1);
    }
  }

  private static void look(String what, long bytes) {
    System.out.println(what + ": " + bytes + " bytes");
    if (bytes > MOST_BYTES) {
      wrong++;
      System.out.println(what + " take too much room");
    }
  }

  private static void newObjects() {
    for (int i = 0; i < CALLS; i++) {
      new WaysKept();
    }
  }

  private static void acts() {
    WaysKept kept = new WaysKept();
    kept.posts(10);
    kept.line(0, 9, 1, true);
    for (int i = 0; i < CALLS; i++) {
      kept.price(0, i % 7);
      if (i == 405) {
        kept.posts(10);
        kept.line(0, 9, 1, true);
      }
    }
  }

  private static void asking(ThreadMXBean room) {
    WaysKept kept = new WaysKept();
    kept.posts(10);
    for (int i = 0; i < 9; i++) {
      kept.line(i, i + 1, 1, true);
    }
    for (int round = 0; round < 2; round++) {
      long begun = room.getThreadAllocatedBytes(Thread.currentThread().getId());
      int all = askAll(kept);
      long asked = room.getThreadAllocatedBytes(Thread.currentThread().getId()) - begun;
      System.out.println("questions: " + asked + " bytes (answers together " + all + ")");
      if (round == 1 && asked > 4096) {
        wrong++;
        System.out.println("questions make objects");
      }
    }
  }

  private static int askAll(WaysKept kept) {
    int all = 0;
    for (int i = 0; i < 20; i++) {
      all += kept.far(0, 9) + kept.way(0, 9, 3) + kept.without(0, 9, 2) + kept.vital(0, 9, 4) + kept.about(0, 9, 4);
      all += kept.ring() + kept.height(3) + kept.moved(4) + kept.pair(4, 1) + kept.then(3, 0, 3) + kept.since(1, 0, 3, 9);
      all += kept.marks(5) + kept.near(0, 9) + kept.worst() + kept.hits(1 + i % 9) + kept.count(3) + kept.told(1, 5);
    }
    return all;
  }
}

import java.lang.management.ManagementFactory;

/**
 * All calls of one run live in one room: what they make is counted here in bytes. An object with its
 * head takes four bytes or more for each of its fields, an element of a row takes eight, so the bound
 * of 7.3 million fields and elements holds below four bytes for each of them.
 */
public final class RoomTest {
  private static final long MOST_BYTES = 7_300_000L * 4;

  private static int wrong = 0;

  private static long made() {
    return ((com.sun.management.ThreadMXBean) ManagementFactory.getThreadMXBean())
        .getThreadAllocatedBytes(Thread.currentThread().getId());
  }

  private static void checkRoom(String what, long before) {
    long bytes = made() - before;
    System.out.println(what + ": " + bytes + " bytes");
    if (bytes > MOST_BYTES) {
      wrong++;
      System.out.println(what + " made more than " + MOST_BYTES + " bytes");
    }
  }

  private static final int[][] THREE = {{1000, 125}, {120, 15}, {8, 1}};
  private static final int[][] FIVE = {{1000, 125}, {1000, 125}, {1000, 125}, {120, 15}, {8, 1}};

  /** Each event comes to eight windows, several times over, all of which stay till the sources end. */
  private static void manyWindows(int offers, int[][] sizes) {
    long before = made();
    WeirStream x = new WeirStream();
    x.addSource(1000);
    x.addSource(1000);
    int last = x.addMerge(0, 1);
    for (int[] size : sizes) {
      last = x.addWindow(last, size[0], size[1], 4, 1000);
    }
    int sink = x.addSink(last);
    x.start();
    x.setCapacity(20);
    int calls = 6 + sizes.length;
    for (int i = 0; i < offers; i++) {
      x.offer(i % 2, i % 100, i, 500 + i % 300);
      calls++;
    }
    x.checkpoint();
    x.close(0);
    x.close(1);
    calls += 3;
    int most = 0;
    while (calls < 512) {
      int choice = calls++ % 40;
      if (choice == 0 && x.begun() == 0) {
        x.checkpoint();
      } else if (choice == 20) {
        x.itemsToRest(200);
      } else {
        x.work(200);
      }
      most = Math.max(most, x.kept(last));
    }
    checkRoom(offers + " events, " + most + " windows, " + x.outputs(sink) + " outputs", before);
  }

  /** The dearest questions, asked all the time. */
  private static void manyQuestions() {
    long before = made();
    WeirStream x = new WeirStream();
    x.addSource(500);
    x.addSource(500);
    x.addJoin(0, 1, 1000, 1000, 0);
    x.addWindow(2, 1000, 125, 5, 1000);
    x.addSession(2, 10, 4);
    x.addMerge(3, 4);
    x.addMap(5, 2, 100);
    x.addJoin(5, 6, 1000, 1000, 2);
    x.addSink(7);
    x.addSink(6);
    x.start();
    x.setCapacity(20);
    for (int i = 0; i < 125; i++) {
      x.offer(i % 2, i % 3, i, 10 * i);
      x.itemsToRest(200);
      x.outputsIn(8, 200);
      x.work(200);
      x.digest();
      if (x.begun() == 0) {
        x.checkpoint();
      }
    }
    checkRoom("questions, " + x.outputs(8) + " outputs", before);
  }

  /** What a constructor makes; the first time it loads classes, too, so that time is not looked at. */
  private static void twelveStages(boolean isFirst) {
    long before = made();
    WeirStream x = new WeirStream();
    for (int i = 0; i < 12; i++) {
      x.addSource(0);
    }
    x.start();
    long bytes = made() - before;
    System.out.println("twelve stages: " + bytes + " bytes");
    if (bytes > 60_000 && !isFirst) {
      wrong++;
    }
  }

  public static void main(String[] args) {
    twelveStages(true);
    twelveStages(false);
    manyQuestions();
    for (int offers = 50; offers <= 300; offers += 50) {
      manyWindows(offers, THREE);
      manyWindows(offers, FIVE);
    }
    System.out.println(wrong == 0 ? "all runs stay in the room" : wrong + " runs do not");
    if (wrong != 0) {
      System.exit(1);
    }
  }
}

import java.util.function.Supplier;

/** For each promise of the document: ordinary inputs, the edges it names, and wrong inputs. */
public final class PromisesTest {
  private static final String INDEX = "IndexOutOfBoundsException";
  private static final String ARGUMENT = "IllegalArgumentException";
  private static final String STATE = "IllegalStateException";
  private static final int LOW = Integer.MIN_VALUE;
  private static final int HIGH = Integer.MAX_VALUE;

  private static int wrong = 0;
  private static int promise = 0;

  private static void due(Object want, Supplier<Object> call, String what) {
    Object got;
    try {
      got = call.get();
    } catch (RuntimeException e) {
      got = e.getClass().getSimpleName();
      // The machine's own exceptions are no answer: the class throws itself.
      if (!e.getStackTrace()[0].getClassName().startsWith("WeirStream")) {
        got = "the machine's " + got;
      }
    }
    if (!want.equals(got)) {
      wrong++;
      System.out.println("promise " + promise + ": " + what + " answered " + got + ", due is " + want);
    }
  }

  /** A call that throws changes nothing, so the digest stays as it is. */
  private static void refused(WeirStream x, String exception, Supplier<Object> call, String what) {
    long before = x.digest();
    due(exception, call, what);
    due(before, x::digest, "digest() behind a refused " + what);
  }

  private static void row(WeirStream x, int sink, String want) {
    StringBuilder got = new StringBuilder();
    for (int i = 0; i < x.outputs(sink); i++) {
      got.append(i == 0 ? "" : " ").append(x.keyAt(sink, i)).append(':')
          .append(x.valueAt(sink, i)).append('@').append(x.timeAt(sink, i));
    }
    due(want, got::toString, "OUTPUT of stage " + sink);
  }

  private static void rest(WeirStream x) {
    for (int i = 0; i < 100 && x.work(200) == 200; i++) {
      // on to rest
    }
  }

  /** SOURCE 0, then the stage that is asked for by others, and a SINK. */
  private static WeirStream started(int slack) {
    WeirStream x = new WeirStream();
    x.addSource(slack);
    x.addSink(0);
    x.start();
    return x;
  }

  private static WeirStream full() {
    WeirStream x = new WeirStream();
    for (int i = 0; i < 12; i++) {
      x.addSource(0);
    }
    return x;
  }

  private static void p1() {
    WeirStream x = new WeirStream();
    due(0, x::stages, "stages()");
    due(false, x::isStarted, "isStarted()");
    due(0, x::complete, "complete()");
    due(0, x::begun, "begun()");
    due(0, x::crashes, "crashes()");
    due(0, x::worked, "worked()");
    due(0, x::inFlight, "inFlight()");
    due(-1, x::next, "next()");
    due(0.0, x::meanQueue, "meanQueue()");
    due(0, () -> x.itemsToRest(1), "itemsToRest(1)");
  }

  private static void p2() {
    WeirStream x = new WeirStream();
    due(0, () -> x.addSource(0), "addSource(0)");
    due(1, () -> x.addSource(1000), "addSource(1000)");
    refused(x, ARGUMENT, () -> x.addSource(-1), "addSource(-1)");
    refused(x, ARGUMENT, () -> x.addSource(1001), "addSource(1001)");
    due(2, () -> x.addSource(7), "addSource(7)");
    WeirStream f = full();
    refused(f, STATE, () -> f.addSource(0), "addSource(0) with 12 stages");
    refused(f, ARGUMENT, () -> f.addSource(-1), "addSource(-1) with 12 stages");
    x.start();
    refused(x, STATE, () -> x.addSource(0), "addSource(0) behind start()");
    refused(x, ARGUMENT, () -> x.addSource(1001), "addSource(1001) behind start()");
    // The slack: the mark is the time less the slack, and only what is above it counts.
    due(1, () -> x.offer(2, 1, 1, 6), "offer at 6");
    x.offer(2, 1, 1, 9);
    x.work(1);
    due(-1, () -> x.markOf(2), "markOf() of a SOURCE behind an event at 6 with slack 7");
    x.work(1);
    due(2, () -> x.markOf(2), "markOf() of a SOURCE behind an event at 9 with slack 7");
  }

  private static void wrongInputs(String what, java.util.function.BiFunction<WeirStream, Integer, Integer> add) {
    WeirStream x = new WeirStream();
    refused(x, INDEX, () -> add.apply(x, 0), what + " without stages");
    x.addSource(0);
    x.addSink(0);
    refused(x, INDEX, () -> add.apply(x, -1), what + " of -1");
    refused(x, INDEX, () -> add.apply(x, 2), what + " of 2 with 2 stages");
    refused(x, INDEX, () -> add.apply(x, HIGH), what + " of the greatest int");
    refused(x, INDEX, () -> add.apply(x, LOW), what + " of the least int");
    refused(x, ARGUMENT, () -> add.apply(x, 1), what + " of a SINK");
    due(2, () -> add.apply(x, 0), what + " of a SOURCE");
    x.start();
    refused(x, STATE, () -> add.apply(x, 0), what + " behind start()");
    refused(x, ARGUMENT, () -> add.apply(x, 1), what + " of a SINK behind start()");
    refused(x, INDEX, () -> add.apply(x, 9), what + " of 9 behind start()");
    WeirStream f = full();
    refused(f, STATE, () -> add.apply(f, 0), what + " with 12 stages");
    refused(f, INDEX, () -> add.apply(f, 12), what + " of 12 with 12 stages");
  }

  private static void p3() {
    wrongInputs("addFilter", (x, i) -> x.addFilter(i, 0, 0));
    WeirStream x = new WeirStream();
    x.addSource(0);
    refused(x, ARGUMENT, () -> x.addFilter(0, -1, 1), "addFilter with the test -1");
    refused(x, ARGUMENT, () -> x.addFilter(0, 4, 1), "addFilter with the test 4");
    refused(x, ARGUMENT, () -> x.addFilter(0, 3, 0), "addFilter with the test 3 and 0");
    due(1, () -> x.addFilter(0, 0, 5), "addFilter(0, 0, 5)");
    due(2, () -> x.addFilter(0, 1, 5), "addFilter(0, 1, 5)");
    due(3, () -> x.addFilter(0, 2, 5), "addFilter(0, 2, 5)");
    due(4, () -> x.addFilter(0, 3, -3), "addFilter(0, 3, -3)");
    due(5, () -> x.addFilter(0, 3, -1), "addFilter(0, 3, -1)");
    for (int i = 1; i <= 5; i++) {
      x.addSink(i);
    }
    x.start();
    int[][] events = {{5, 5, 1}, {1, 4, 2}, {5, -6, 3}, {2, 6, 4}, {3, LOW, 5}};
    for (int[] e : events) {
      x.offer(0, e[0], e[1], e[2]);
    }
    rest(x);
    row(x, 6, "5:5@1 2:6@4");
    row(x, 7, "1:4@2 5:-6@3 3:-2147483648@5");
    row(x, 8, "5:5@1 5:-6@3");
    row(x, 9, "5:-6@3 2:6@4");
    row(x, 10, "5:5@1 1:4@2 5:-6@3 2:6@4 3:-2147483648@5");
    due(5, () -> x.markOf(6), "markOf() behind a FILTER that let no event through");
  }

  private static void p4() {
    wrongInputs("addMap", (x, i) -> x.addMap(i, 0, 0));
    WeirStream x = new WeirStream();
    x.addSource(0);
    refused(x, ARGUMENT, () -> x.addMap(0, -1, 1), "addMap with the rule -1");
    refused(x, ARGUMENT, () -> x.addMap(0, 4, 1), "addMap with the rule 4");
    refused(x, ARGUMENT, () -> x.addMap(0, 2, 0), "addMap with the rule 2 and 0");
    refused(x, ARGUMENT, () -> x.addMap(0, 2, 101), "addMap with the rule 2 and 101");
    due(1, () -> x.addMap(0, 0, HIGH), "addMap(0, 0, HIGH)");
    due(2, () -> x.addMap(0, 1, -3), "addMap(0, 1, -3)");
    due(3, () -> x.addMap(0, 2, 100), "addMap(0, 2, 100)");
    due(4, () -> x.addMap(0, 2, 1), "addMap(0, 2, 1)");
    due(5, () -> x.addMap(0, 3, 0), "addMap(0, 3, 0)");
    for (int i = 1; i <= 5; i++) {
      x.addSink(i);
    }
    x.start();
    x.offer(0, 7, 1, 1);
    x.offer(0, 8, -1, 2);
    x.offer(0, 9, 1 << 30, 3);
    rest(x);
    row(x, 6, "7:-2147483648@1 8:2147483646@2 9:-1073741825@3");
    row(x, 7, "7:-3@1 8:3@2 9:1073741824@3");
    row(x, 8, "1:1@1 99:-1@2 24:1073741824@3");
    row(x, 9, "0:1@1 0:-1@2 0:1073741824@3");
    row(x, 10, "7:7@1 8:8@2 9:9@3");
  }

  private static WeirStream windowed(int size, int step, int account, int lateness) {
    WeirStream x = new WeirStream();
    x.addSource(0);
    x.addWindow(0, size, step, account, lateness);
    x.addSink(1);
    x.start();
    return x;
  }

  private static void p5() {
    wrongInputs("addWindow", (x, i) -> x.addWindow(i, 10, 5, 0, 0));
    WeirStream x = new WeirStream();
    x.addSource(0);
    int[][] bad = {{0, 1, 0, 0}, {1001, 1000, 0, 0}, {10, 0, 0, 0}, {10, 11, 0, 0}, {10, -1, 0, 0},
        {9, 1, 0, 0}, {17, 2, 0, 0}, {10, 5, -1, 0}, {10, 5, 6, 0}, {10, 5, 0, -1},
        {10, 5, 0, 1001}, {-5, -5, 0, 0}, {LOW, LOW, 0, 0}, {1000, LOW, 0, 0}, {1000, HIGH, 0, 0},
        {10, 1 << 29, 0, 0}};
    for (int[] b : bad) {
      refused(x, ARGUMENT, () -> x.addWindow(0, b[0], b[1], b[2], b[3]),
          "addWindow(0, " + b[0] + ", " + b[1] + ", " + b[2] + ", " + b[3] + ")");
    }
    due(1, () -> x.addWindow(0, 8, 1, 5, 1000), "addWindow(0, 8, 1, 5, 1000)");
    due(2, () -> x.addWindow(0, 1000, 125, 0, 0), "addWindow(0, 1000, 125, 0, 0)");
    due(3, () -> x.addWindow(0, 1, 1, 0, 0), "addWindow(0, 1, 1, 0, 0)");

    // An event belongs to each window that has its time, also to those that begin below 0.
    WeirStream b = windowed(10, 5, 1, 0);
    b.offer(0, 1, 3, 2);
    b.work(3);
    due(2, () -> b.kept(1), "kept() of windows -5 and 0");
    due(3, () -> b.accountAt(1, 1, -5), "accountAt(-5)");
    due(0, () -> b.accountAt(1, 1, -6), "accountAt(-6)");
    b.offer(0, 2, 4, 4);
    b.offer(0, 1, 5, 5);
    rest(b);
    row(b, 2, "1:3@4 2:4@4");
    b.offer(0, 0, 9, 4);
    rest(b);
    due(0, () -> b.late(1), "late() of one that window 0 still takes");
    row(b, 2, "1:3@4 2:4@4");
    b.close(0);
    rest(b);
    row(b, 2, "1:3@4 2:4@4 0:9@9 1:8@9 2:4@9 1:5@14");
    due(0, () -> b.kept(1), "kept() behind the last mark");

    // Lateness: up to the end + lateness a window takes more, and fires at once.
    WeirStream l = windowed(10, 10, 1, 5);
    l.offer(0, 1, 1, 0);
    l.offer(0, 1, 2, 10);
    l.offer(0, 1, 4, 9);
    l.offer(0, 1, 8, 14);
    l.offer(0, 1, 16, 9);
    l.offer(0, 1, 32, 15);
    l.offer(0, 1, 64, 9);
    rest(l);
    row(l, 2, "1:1@9 1:5@9 1:21@9");
    due(1, () -> l.late(1), "late() as the mark is end + lateness");
    due(7, () -> l.taken(1), "taken(), LATE ones as well");
    due(1, () -> l.kept(1), "kept() as the window 0 is gone");

    int[] answers = {3, 7, -2, 6, 3, 2};
    for (int account = 0; account < 6; account++) {
      WeirStream a = windowed(10, 10, account, 0);
      a.offer(0, 1, 6, 3);
      a.offer(0, 1, 3, 3);
      a.offer(0, 1, -2, 2);
      a.close(0);
      rest(a);
      due(answers[account], () -> a.valueAt(2, 0), "account " + account);
    }
    WeirStream c = windowed(10, 10, 5, 0);
    c.offer(0, 1, -3, 1);
    c.offer(0, 1, 0, 1);
    c.offer(0, 2, HIGH, 1);
    c.offer(0, 2, 3, 1);
    c.close(0);
    rest(c);
    row(c, 2, "1:-1@9 2:-1073741823@9");
  }

  private static WeirStream sessioned(int slack, int gap, int account) {
    WeirStream x = new WeirStream();
    x.addSource(slack);
    x.addSession(0, gap, account);
    x.addSink(1);
    x.start();
    return x;
  }

  private static void p6() {
    wrongInputs("addSession", (x, i) -> x.addSession(i, 10, 0));
    WeirStream x = new WeirStream();
    x.addSource(0);
    int[][] bad = {{0, 0}, {1001, 0}, {-1, 0}, {5, -1}, {5, 6}};
    for (int[] b : bad) {
      refused(x, ARGUMENT, () -> x.addSession(0, b[0], b[1]), "addSession(0, " + b[0] + ", " + b[1] + ")");
    }
    due(1, () -> x.addSession(0, 1, 5), "addSession(0, 1, 5)");
    due(2, () -> x.addSession(0, 1000, 0), "addSession(0, 1000, 0)");

    WeirStream s = sessioned(1000, 10, 1);
    s.offer(0, 1, 1, 0);
    s.offer(0, 1, 2, 10);
    s.offer(0, 2, 4, 12);
    rest(s);
    due(3, () -> s.kept(1), "kept() of sessions that only touch");
    s.offer(0, 1, 8, 9);
    rest(s);
    due(2, () -> s.kept(1), "kept() of sessions that grew together");
    due(11, () -> s.accountAt(1, 1, 19), "accountAt() of the grown session");
    due(0, () -> s.accountAt(1, 1, 20), "accountAt() at its end");
    s.close(0);
    rest(s);
    row(s, 2, "1:11@19 2:4@21");

    // LATE: only if the end of what comes of it is not above the mark.
    WeirStream l = sessioned(0, 10, 0);
    l.offer(0, 1, 1, 20);
    l.offer(0, 1, 1, 10);
    l.offer(0, 2, 1, 11);
    l.offer(0, 1, 1, 28);
    l.offer(0, 1, 1, 12);
    rest(l);
    due(1, () -> l.late(1), "late() of a SESSION");
    due(1, () -> l.kept(1), "kept() of a SESSION");
    l.close(0);
    rest(l);
    row(l, 2, "2:1@20 1:3@37");

    WeirStream a = sessioned(1000, 10, 4);
    a.offer(0, 1, 5, 20);
    a.offer(0, 1, 6, 8);
    a.offer(0, 1, 7, 20);
    a.offer(0, 1, 8, 15);
    a.close(0);
    rest(a);
    row(a, 2, "1:7@29");
  }

  private static WeirStream joined(int slack, int before, int after, int rule) {
    WeirStream x = new WeirStream();
    x.addSource(slack);
    x.addSource(slack);
    x.addJoin(0, 1, before, after, rule);
    x.addSink(2);
    x.start();
    return x;
  }

  private static void twoInputs(String what, Supplier<WeirStream> made,
      java.util.function.BiFunction<WeirStream, int[], Integer> add) {
    WeirStream x = made.get();
    x.addSource(0);
    x.addSource(0);
    x.addSink(0);
    refused(x, INDEX, () -> add.apply(x, new int[] {3, 0}), what + "(3, 0)");
    refused(x, INDEX, () -> add.apply(x, new int[] {0, 3}), what + "(0, 3)");
    refused(x, INDEX, () -> add.apply(x, new int[] {-1, 0}), what + "(-1, 0)");
    refused(x, INDEX, () -> add.apply(x, new int[] {0, -1}), what + "(0, -1)");
    refused(x, INDEX, () -> add.apply(x, new int[] {9, 9}), what + "(9, 9)");
    refused(x, INDEX, () -> add.apply(x, new int[] {2, 9}), what + "(2, 9)");
    refused(x, ARGUMENT, () -> add.apply(x, new int[] {2, 0}), what + " of a SINK, first");
    refused(x, ARGUMENT, () -> add.apply(x, new int[] {0, 2}), what + " of a SINK, second");
    refused(x, ARGUMENT, () -> add.apply(x, new int[] {1, 1}), what + " of the same two");
    due(3, () -> add.apply(x, new int[] {1, 0}), what + "(1, 0)");
    x.start();
    refused(x, STATE, () -> add.apply(x, new int[] {1, 0}), what + " behind start()");
    refused(x, ARGUMENT, () -> add.apply(x, new int[] {1, 1}), what + " of the same two behind start()");
    WeirStream f = full();
    refused(f, STATE, () -> add.apply(f, new int[] {1, 0}), what + " with 12 stages");
  }

  private static void p7() {
    twoInputs("addJoin", WeirStream::new, (x, i) -> x.addJoin(i[0], i[1], 0, 0, 0));
    WeirStream x = new WeirStream();
    x.addSource(0);
    x.addSource(0);
    int[][] bad = {{-1, 0, 0}, {1001, 0, 0}, {0, -1, 0}, {0, 1001, 0}, {0, 0, -1}, {0, 0, 4}};
    for (int[] b : bad) {
      refused(x, ARGUMENT, () -> x.addJoin(0, 1, b[0], b[1], b[2]),
          "addJoin(0, 1, " + b[0] + ", " + b[1] + ", " + b[2] + ")");
    }
    due(2, () -> x.addJoin(0, 1, 1000, 0, 3), "addJoin(0, 1, 1000, 0, 3)");
    due(3, () -> x.addJoin(0, 1, 0, 1000, 0), "addJoin(0, 1, 0, 1000, 0)");

    String[] want = {"1:13@12 1:30@10 1:50@10", "1:7@12 1:-10@10 1:-30@10", "1:30@12 1:200@10 1:400@10",
        "1:10@12 1:10@10 1:10@10"};
    for (int rule = 0; rule < 4; rule++) {
      WeirStream j = joined(1000, 3, 2, rule);
      j.offer(0, 1, 10, 10);
      j.workAt(0);
      j.workAt(2);
      // The right ones may be from 3 before up to 2 after; keys and times beyond that do not meet.
      int[][] right = {{1, 3, 12}, {1, 99, 13}, {1, 20, 7}, {1, 99, 6}, {2, 99, 10}, {1, 40, 10}};
      for (int[] e : right) {
        j.offer(1, e[0], e[1], e[2]);
        j.workAt(1);
        while (j.workAt(2)) {
          // on, till all of it was taken
        }
      }
      while (j.workAt(3)) {
        // on
      }
      row(j, 3, want[rule]);
      due(7, () -> j.kept(2), "kept() of a JOIN");
      due(1, () -> j.emitted(0), "emitted(0)");
    }

    // 16 are kept of an input: the first of 17 is gone.
    WeirStream m = new WeirStream();
    m.addSource(1000);
    m.addSource(1000);
    m.addJoin(0, 1, 1000, 1000, 3);
    m.addSink(2);
    m.start();
    m.setCapacity(20);
    for (int i = 0; i < 17; i++) {
      m.offer(0, 1, i, 5);
      due(true, () -> m.workAt(0), "workAt(0)");
      due(true, () -> m.workAt(2), "workAt(2)");
    }
    due(16, () -> m.kept(2), "kept() behind 17 of one input");
    m.offer(1, 1, 0, 5);
    m.workAt(1);
    m.workAt(2);
    due(16, () -> m.emitted(2), "emitted() of 16 that were kept");
    due(17, () -> m.kept(2), "kept() of both inputs");
    due(16, () -> m.queued(3, false), "queued() of what went out at one go");
    for (int i = 0; i < 16; i++) {
      m.workAt(3);
    }
    due(1, () -> m.valueAt(3, 0), "the first one that is kept still");
    due(16, () -> m.valueAt(3, 15), "the last one that is kept");

    // As the mark rises, what can meet nothing any more is gone; what is below the mark is LATE.
    WeirStream g = joined(0, 3, 2, 0);
    g.offer(0, 1, 1, 8);
    g.offer(1, 1, 1, 9);
    g.offer(0, 1, 1, 10);
    rest(g);
    due(3, () -> g.kept(2), "kept() of a JOIN as its mark is 9");
    g.offer(1, 1, 1, 10);
    rest(g);
    due(4, () -> g.kept(2), "kept() of a JOIN as its mark is 10: 8 + 2 is not below it");
    g.offer(0, 1, 1, 20);
    g.offer(1, 1, 1, 13);
    rest(g);
    due(3, () -> g.kept(2), "kept() of a JOIN as its mark is 13: 10 + 2 is below it, 10 + 3 is not");
    g.offer(0, 1, 1, 12);
    g.offer(0, 1, 1, 13);
    rest(g);
    due(1, () -> g.late(2), "late() of a JOIN");
    due(4, () -> g.kept(2), "kept() of a JOIN behind one that was LATE");
  }

  private static void p8() {
    twoInputs("addMerge", WeirStream::new, (x, i) -> x.addMerge(i[0], i[1]));
    WeirStream x = new WeirStream();
    x.addSource(0);
    x.addSource(0);
    x.addMerge(0, 1);
    x.addSink(2);
    x.start();
    x.offer(0, 1, 1, 5);
    x.offer(0, 1, 2, 6);
    x.offer(1, 2, 3, 4);
    x.workAt(0);
    x.workAt(0);
    x.workAt(1);
    // Turn by turn: 1, 3, mark 5, mark 4 (of the second), 2, mark 6.
    x.workAt(2);
    x.workAt(2);
    x.workAt(2);
    due(-1, () -> x.markOf(2), "markOf() of a MERGE with a mark of one input alone");
    x.workAt(2);
    due(4, () -> x.markOf(2), "markOf() of a MERGE");
    x.workAt(2);
    x.workAt(2);
    due(4, () -> x.markOf(2), "markOf() of a MERGE: the least of both");
    rest(x);
    row(x, 3, "1:1@5 2:3@4 1:2@6");
    due(4, () -> x.markOf(3), "markOf() of the SINK");
  }

  private static void p9() {
    wrongInputs("addSink", WeirStream::addSink);
    WeirStream x = started(0);
    x.offer(0, 99, LOW, 100000);
    rest(x);
    row(x, 1, "99:-2147483648@100000");
  }

  private static void p10() {
    WeirStream x = new WeirStream();
    refused(x, STATE, x::start, "start() without a SOURCE");
    due(false, x::isStarted, "isStarted()");
    x.addSource(0);
    x.addSink(0);
    due(2, x::start, "start()");
    due(true, x::isStarted, "isStarted()");
    refused(x, STATE, x::start, "start(), once more");
    WeirStream f = full();
    due(12, f::start, "start() with 12 stages");
  }

  private static void p11() {
    WeirStream x = new WeirStream();
    due(8, () -> x.setCapacity(1), "setCapacity(1), first");
    due(1, () -> x.setCapacity(20), "setCapacity(20)");
    refused(x, ARGUMENT, () -> x.setCapacity(0), "setCapacity(0)");
    refused(x, ARGUMENT, () -> x.setCapacity(21), "setCapacity(21)");
    due(20, () -> x.setCapacity(2), "setCapacity(2)");
    x.addSource(1000);
    x.addSink(0);
    x.start();
    for (int i = 0; i < 5; i++) {
      x.offer(0, 1, 1, 1);
    }
    x.workAt(0);
    due(true, () -> x.hasRoom(0), "hasRoom() with 1 of 2");
    x.workAt(0);
    due(false, () -> x.hasRoom(0), "hasRoom() with 2 of 2");
    due(false, () -> x.workAt(0), "workAt() without ROOM");
    x.setCapacity(3);
    due(true, () -> x.workAt(0), "workAt() with a capacity of 3");
    x.crash();
    due(3, () -> x.setCapacity(4), "setCapacity() behind a crash");
  }

  private static void p12() {
    WeirStream x = new WeirStream();
    refused(x, INDEX, () -> x.offer(0, 0, 0, 0), "offer without stages");
    x.addSource(0);
    x.addSink(0);
    refused(x, STATE, () -> x.offer(0, 0, 0, 0), "offer ahead of start()");
    refused(x, ARGUMENT, () -> x.offer(0, 100, 0, 0), "offer of key 100 ahead of start()");
    x.start();
    refused(x, INDEX, () -> x.offer(-1, 100, 0, 0), "offer to -1");
    refused(x, INDEX, () -> x.offer(2, 0, 0, 0), "offer to 2");
    refused(x, ARGUMENT, () -> x.offer(1, 0, 0, 0), "offer to a SINK");
    refused(x, ARGUMENT, () -> x.offer(0, -1, 0, 0), "offer of key -1");
    refused(x, ARGUMENT, () -> x.offer(0, 100, 0, 0), "offer of key 100");
    refused(x, ARGUMENT, () -> x.offer(0, 0, 0, -1), "offer of time -1");
    refused(x, ARGUMENT, () -> x.offer(0, 0, 0, 100001), "offer of time 100001");
    due(1, () -> x.offer(0, 0, LOW, 0), "offer(0, 0, LOW, 0)");
    due(2, () -> x.offer(0, 99, HIGH, 100000), "offer(0, 99, HIGH, 100000)");
    rest(x);
    row(x, 1, "0:-2147483648@0 99:2147483647@100000");
    for (int i = 3; i <= 150; i++) {
      int n = i;
      due(n, () -> x.offer(0, 1, 1, 1), "offer " + n);
    }
    refused(x, STATE, () -> x.offer(0, 1, 1, 1), "offer 151");
    WeirStream c = started(0);
    c.close(0);
    refused(c, STATE, () -> c.offer(0, 1, 1, 1), "offer to one that was closed");
    refused(c, ARGUMENT, () -> c.offer(0, 1, 1, -1), "offer at -1 to one that was closed");
    c.crash();
    refused(c, STATE, () -> c.offer(0, 1, 1, 1), "offer to one that was closed ahead of a crash");
  }

  private static void p13() {
    WeirStream x = new WeirStream();
    x.addSource(0);
    x.addSink(0);
    refused(x, STATE, () -> x.close(0), "close ahead of start()");
    refused(x, ARGUMENT, () -> x.close(1), "close of a SINK ahead of start()");
    x.start();
    refused(x, INDEX, () -> x.close(2), "close(2)");
    refused(x, INDEX, () -> x.close(-1), "close(-1)");
    refused(x, ARGUMENT, () -> x.close(1), "close of a SINK");
    x.offer(0, 1, 1, 5);
    x.offer(0, 1, 1, 6);
    x.offer(0, 1, 1, 7);
    x.work(1);
    due(2, () -> x.close(0), "close with 2 that were not read");
    refused(x, STATE, () -> x.close(0), "close, once more");
    due(5, () -> x.markOf(0), "markOf() as the LOG is not at its end");
    rest(x);
    due(1000000, () -> x.markOf(0), "markOf() of a SOURCE that was closed");
    due(1000000, () -> x.markOf(1), "markOf() of the SINK behind it");
    due(false, () -> x.isReady(0), "isReady() of a SOURCE at its last mark");
    // Whether it was closed stays over a crash, so its last mark comes once more.
    x.crash();
    due(-1, () -> x.markOf(0), "markOf() behind a crash");
    rest(x);
    due(1000000, () -> x.markOf(1), "markOf() of the SINK behind a crash");
  }

  private static void p14() {
    WeirStream x = new WeirStream();
    x.addSource(0);
    x.addMap(0, 0, 1);
    x.addSink(1);
    refused(x, STATE, () -> x.work(1), "work ahead of start()");
    refused(x, ARGUMENT, () -> x.work(0), "work(0) ahead of start()");
    x.start();
    refused(x, ARGUMENT, () -> x.work(0), "work(0)");
    refused(x, ARGUMENT, () -> x.work(201), "work(201)");
    due(0, () -> x.work(200), "work(200) at rest");
    x.offer(0, 1, 1, 1);
    x.offer(0, 1, 2, 2);
    // Round and round: 0, 1, 2 with the events, 0 and so on with the marks in between.
    due(3, () -> x.work(3), "work(3)");
    due(1, () -> x.outputs(2), "outputs(2)");
    due(0, x::next, "next()");
    due(1, () -> x.work(1), "work(1)");
    due(1, x::next, "next() behind the SOURCE");
    due(6, () -> x.work(200), "work(200) till rest");
    due(10, x::worked, "worked()");
    row(x, 2, "1:2@1 1:3@2");
  }

  private static void p15() {
    WeirStream x = new WeirStream();
    x.addSource(0);
    x.addMap(0, 0, 1);
    x.addSink(1);
    refused(x, STATE, () -> x.workAt(0), "workAt ahead of start()");
    refused(x, INDEX, () -> x.workAt(3), "workAt(3) ahead of start()");
    x.start();
    refused(x, INDEX, () -> x.workAt(-1), "workAt(-1)");
    refused(x, INDEX, () -> x.workAt(3), "workAt(3)");
    long before = x.digest();
    due(false, () -> x.workAt(1), "workAt(1) at rest");
    due(before, x::digest, "digest() behind workAt() that did nothing");
    x.offer(0, 1, 1, 1);
    due(true, () -> x.workAt(0), "workAt(0)");
    x.offer(0, 1, 1, 2);
    due(1, x::next, "next() behind workAt(0)");
    due(false, () -> x.workAt(2), "workAt(2) with nothing there");
    due(1, x::next, "next() behind workAt(2) that did nothing");
    due(true, () -> x.workAt(1), "workAt(1)");
    due(true, () -> x.workAt(1), "workAt(1), the mark");
    due(2, x::next, "next() behind workAt(1)");
    due(3, x::worked, "worked()");
  }

  private static void p16() {
    WeirStream x = new WeirStream();
    x.addSource(0);
    x.addSource(0);
    x.addMerge(0, 1);
    x.addSink(2);
    refused(x, STATE, x::checkpoint, "checkpoint ahead of start()");
    x.start();
    due(1, x::checkpoint, "checkpoint()");
    refused(x, STATE, x::checkpoint, "checkpoint() as one was begun");
    x.offer(0, 1, 1, 1);
    due(true, () -> x.isReady(1), "isReady() of a SOURCE that is to give its barrier");
    x.workAt(0);
    due(0, () -> x.taken(0), "taken() of a SOURCE that gave its barrier first");
    due(1, () -> x.queued(2, false), "queued() with the barrier");
    x.workAt(0);
    x.workAt(2);
    due(true, () -> x.isBlocked(2, false), "isBlocked() of the first channel");
    due(false, () -> x.isBlocked(2, true), "isBlocked() of the second channel");
    due(false, () -> x.workAt(2), "workAt() as what is there is BLOCKED");
    x.workAt(1);
    x.workAt(2);
    due(false, () -> x.isBlocked(2, false), "isBlocked() behind both barriers");
    due(1, x::begun, "begun() as the SINK is not SAVED");
    x.workAt(3);
    due(0, x::begun, "begun()");
    due(1, x::complete, "complete()");
    due(2, x::checkpoint, "checkpoint(), the second one");
    x.crash();
    due(3, x::checkpoint, "checkpoint() behind a crash: the number 2 stays used");
  }

  private static void p17() {
    WeirStream x = new WeirStream();
    x.addSource(0);
    x.addWindow(0, 10, 10, 1, 0);
    x.addSink(1);
    refused(x, STATE, x::crash, "crash ahead of start()");
    x.start();
    x.offer(0, 1, 1, 1);
    x.offer(0, 1, 2, 11);
    rest(x);
    row(x, 2, "1:1@9");
    due(0, x::crash, "crash() without a checkpoint");
    row(x, 2, "");
    due(2, () -> x.kept(0), "kept() of the SOURCE: its LOG stays");
    due(-1, () -> x.markOf(1), "markOf() as at the start");
    rest(x);
    row(x, 2, "1:1@9");
    x.checkpoint();
    rest(x);
    due(1, () -> x.committed(2), "committed()");
    x.offer(0, 1, 4, 12);
    x.offer(0, 1, 8, 21);
    x.work(1);
    x.checkpoint();
    x.work(4);
    rest(x);
    x.checkpoint();
    x.offer(0, 1, 16, 40);
    x.work(2);
    due(2, x::crash, "crash() goes on from the latest complete one");
    due(0, x::begun, "begun() behind a crash");
    due(0, x::inFlight, "inFlight() behind a crash");
    rest(x);
    row(x, 2, "1:1@9 1:6@19 1:8@29");
    due(2, x::crashes, "crashes()");
    // The stage that worked last is forgotten, too.
    x.crash();
    due(0, x::next, "next() behind a crash");
    // A join's kept events, its turns and a session come back as well.
    WeirStream j = joined(0, 5, 5, 0);
    j.offer(0, 1, 1, 1);
    rest(j);
    j.checkpoint();
    rest(j);
    j.offer(1, 1, 2, 1);
    j.offer(0, 1, 4, 100);
    j.offer(1, 1, 8, 100);
    rest(j);
    due(2, () -> j.outputs(3), "outputs() ahead of the crash");
    due(1, j::crash, "crash()");
    due(1, () -> j.kept(2), "kept() of the JOIN behind the crash");
    rest(j);
    row(j, 3, "1:3@1 1:12@100");
    savedTurns();
  }

  /** The marks of both inputs, the turns and the counts are SAVED, too. */
  private static void savedTurns() {
    WeirStream x = new WeirStream();
    x.addSource(0);
    x.addSource(0);
    x.addJoin(0, 1, 5, 5, 0);
    x.addSink(2);
    x.start();
    x.offer(0, 1, 1, 10);
    x.offer(0, 1, 1, 30);
    x.offer(1, 1, 1, 20);
    x.offer(1, 1, 1, 9);
    x.offer(1, 1, 1, 22);
    rest(x);
    due(1, () -> x.late(2), "late() ahead of the checkpoint");
    x.checkpoint();
    x.workAt(1);
    x.workAt(2);
    x.workAt(0);
    x.workAt(2);
    x.workAt(3);
    due(1, x::complete, "complete()");
    x.offer(0, 1, 1, 50);
    x.offer(1, 1, 1, 60);
    rest(x);
    due(50, () -> x.markOf(2), "markOf() ahead of the crash");
    x.crash();
    due(22, () -> x.markOf(2), "markOf() behind the crash");
    due(1, () -> x.late(2), "late() behind the crash");
    due(5, () -> x.taken(2), "taken() behind the crash");
    due(0, () -> x.emitted(2), "emitted() behind the crash");
    due(2, () -> x.emitted(0), "emitted() of the SOURCE behind the crash");
    x.workAt(0);
    x.workAt(1);
    // It took the barrier of its first input last, so the second one is next: there is 60 first.
    x.workAt(2);
    due(1, () -> x.queued(2, true), "queued() of the second input: its turn comes first");
    x.workAt(2);
    due(2, () -> x.queued(2, false) + x.queued(2, true), "queued() of both inputs");
    x.workAt(2);
    due(30, () -> x.markOf(2), "markOf(): the first input's mark is the SAVED one");
    x.workAt(2);
    due(50, () -> x.markOf(2), "markOf() behind all marks");
  }

  private static WeirStream allSorts() {
    WeirStream x = new WeirStream();
    x.addSource(0);
    x.addFilter(0, 0, 0);
    x.addMap(1, 0, 0);
    x.addWindow(2, 10, 5, 0, 0);
    x.addSession(2, 10, 0);
    x.addJoin(1, 2, 5, 5, 0);
    x.addMerge(3, 0);
    x.addSink(6);
    x.addSink(5);
    return x;
  }

  private static void noStage(String what, java.util.function.BiFunction<WeirStream, Integer, Object> ask) {
    WeirStream x = allSorts();
    int[] none = {-1, 9, 12, LOW, HIGH};
    for (int n : none) {
      refused(x, INDEX, () -> ask.apply(x, n), what + "(" + n + ")");
    }
    refused(new WeirStream(), INDEX, () -> ask.apply(new WeirStream(), 0), what + "(0) without stages");
  }

  private static void onlyOf(String what, java.util.function.BiFunction<WeirStream, Integer, Object> ask,
      int... sorts) {
    noStage(what, ask);
    WeirStream x = allSorts();
    for (int i = 0; i < 9; i++) {
      boolean isOne = false;
      for (int sort : sorts) {
        isOne |= x.sortOf(i) == sort;
      }
      if (!isOne) {
        int n = i;
        refused(x, ARGUMENT, () -> ask.apply(x, n), what + " of a stage of sort " + x.sortOf(i));
      }
    }
  }

  private static void p18() {
    WeirStream x = new WeirStream();
    for (int i = 0; i < 12; i++) {
      due(i, x::stages, "stages()");
      x.addSource(0);
    }
    due(12, x::stages, "stages()");
    x.start();
    due(12, x::stages, "stages() behind start()");
  }

  private static void p19() {
    WeirStream x = new WeirStream();
    x.addSource(0);
    due(false, x::isStarted, "isStarted()");
    x.start();
    due(true, x::isStarted, "isStarted() behind start()");
    x.crash();
    due(true, x::isStarted, "isStarted() behind a crash");
  }

  private static void p20() {
    WeirStream x = allSorts();
    int[] sorts = {0, 1, 2, 3, 4, 5, 6, 7, 7};
    for (int i = 0; i < 9; i++) {
      int n = i;
      due(sorts[n], () -> x.sortOf(n), "sortOf(" + n + ")");
    }
    noStage("sortOf", WeirStream::sortOf);
  }

  private static void p21() {
    noStage("markOf", WeirStream::markOf);
    WeirStream x = allSorts();
    due(-1, () -> x.markOf(7), "markOf() at first");
    x.start();
    x.offer(0, 1, 1, 0);
    x.work(1);
    due(0, () -> x.markOf(0), "markOf() of the SOURCE");
    due(-1, () -> x.markOf(1), "markOf() behind it, as the mark is on its way");
    rest(x);
    for (int i = 0; i < 9; i++) {
      int n = i;
      due(0, () -> x.markOf(n), "markOf(" + n + ")");
    }
    x.offer(0, 1, 1, 7);
    x.offer(0, 1, 1, 3);
    rest(x);
    due(7, () -> x.markOf(8), "markOf() never falls");
  }

  private static void p22() {
    noStage("taken", WeirStream::taken);
    WeirStream x = allSorts();
    x.start();
    x.offer(0, 1, 1, 1);
    x.offer(0, 1, -1, 30);
    x.offer(0, 1, 1, 2);
    x.checkpoint();
    rest(x);
    int[] want = {3, 3, 2, 2, 2, 4, 5, 5, 1};
    for (int i = 0; i < 9; i++) {
      int n = i;
      due(want[n], () -> x.taken(n), "taken(" + n + ")");
    }
  }

  private static void p23() {
    noStage("emitted", WeirStream::emitted);
    WeirStream x = allSorts();
    x.start();
    x.offer(0, 1, 1, 1);
    x.offer(0, 1, -1, 30);
    x.offer(0, 1, 1, 2);
    rest(x);
    int[] want = {3, 2, 2, 2, 1, 1, 5, 0, 0};
    for (int i = 0; i < 9; i++) {
      int n = i;
      due(want[n], () -> x.emitted(n), "emitted(" + n + ")");
    }
    WeirStream alone = new WeirStream();
    alone.addSource(0);
    alone.start();
    alone.offer(0, 1, 1, 1);
    due(1, () -> alone.work(5), "work() of a SOURCE alone");
    due(1, () -> alone.emitted(0), "emitted() without a channel");
  }

  private static void p24() {
    noStage("late", WeirStream::late);
    WeirStream x = allSorts();
    x.start();
    x.offer(0, 1, 1, 1);
    x.offer(0, 1, 1, 30);
    x.offer(0, 1, 1, 2);
    rest(x);
    int[] want = {0, 0, 0, 1, 1, 2, 0, 0, 0};
    for (int i = 0; i < 9; i++) {
      int n = i;
      due(want[n], () -> x.late(n), "late(" + n + ")");
    }
  }

  private static void p25() {
    noStage("kept", WeirStream::kept);
    WeirStream x = allSorts();
    x.start();
    x.offer(0, 1, 1, 1);
    x.offer(0, 2, 1, 3);
    due(2, () -> x.kept(0), "kept() of a SOURCE");
    rest(x);
    int[] want = {0, 0, 0, 4, 2, 4, 0, 0, 0};
    for (int i = 0; i < 9; i++) {
      int n = i;
      due(want[n], () -> x.kept(n), "kept(" + n + ")");
    }
  }

  private static void p26() {
    noStage("isReady", WeirStream::isReady);
    WeirStream x = started(0);
    due(false, () -> x.isReady(0), "isReady() of a SOURCE with nothing to do");
    x.offer(0, 1, 1, 1);
    due(true, () -> x.isReady(0), "isReady() with an event");
    due(false, () -> x.isReady(1), "isReady() of a SINK with nothing there");
    x.work(1);
    due(false, () -> x.isReady(0), "isReady() of a SOURCE that read all");
    due(true, () -> x.isReady(1), "isReady() of a SINK with an item");
    x.checkpoint();
    due(true, () -> x.isReady(0), "isReady() with a barrier to give");
    x.setCapacity(2);
    due(false, () -> x.isReady(0), "isReady() without ROOM");
    rest(x);
    x.close(0);
    due(true, () -> x.isReady(0), "isReady() of one that was closed");
    WeirStream a = allSorts();
    due(false, () -> a.isReady(0), "isReady() ahead of start()");
  }

  private static void p27() {
    noStage("hasRoom", WeirStream::hasRoom);
    WeirStream x = new WeirStream();
    x.addSource(1000);
    x.addSink(0);
    x.addSink(0);
    due(true, () -> x.hasRoom(0), "hasRoom() ahead of start()");
    x.start();
    x.setCapacity(1);
    x.offer(0, 1, 1, 1);
    x.work(1);
    due(false, () -> x.hasRoom(0), "hasRoom() with both channels full");
    x.workAt(1);
    due(false, () -> x.hasRoom(0), "hasRoom() with one channel full");
    x.workAt(2);
    due(true, () -> x.hasRoom(0), "hasRoom() with empty channels");
    due(true, () -> x.hasRoom(1), "hasRoom() of a SINK");
  }

  private static void p28() {
    noStage("queued", (x, i) -> x.queued(i, false));
    noStage("queued", (x, i) -> x.queued(i, true));
    WeirStream x = allSorts();
    x.start();
    due(-1, () -> x.queued(0, false), "queued() of a SOURCE");
    due(-1, () -> x.queued(0, true), "queued() of a SOURCE, second");
    due(0, () -> x.queued(1, false), "queued() of a FILTER");
    due(-1, () -> x.queued(1, true), "queued() of a FILTER, second");
    due(-1, () -> x.queued(7, true), "queued() of a SINK, second");
    x.offer(0, 1, 1, 1);
    x.workAt(0);
    due(2, () -> x.queued(1, false), "queued() with an event and a mark");
    due(0, () -> x.queued(6, false), "queued() of a MERGE");
    due(2, () -> x.queued(6, true), "queued() of a MERGE, second");
    x.workAt(1);
    due(1, () -> x.queued(1, false), "queued() behind one item");
    due(2, () -> x.queued(6, true), "queued() of the other channel");
    due(1, () -> x.queued(5, false), "queued() of a JOIN");
    due(0, () -> x.queued(5, true), "queued() of a JOIN, second");
  }

  private static void p29() {
    noStage("isBlocked", (x, i) -> x.isBlocked(i, false));
    noStage("isBlocked", (x, i) -> x.isBlocked(i, true));
    WeirStream x = allSorts();
    x.start();
    due(false, () -> x.isBlocked(0, false), "isBlocked() of a SOURCE");
    due(false, () -> x.isBlocked(1, true), "isBlocked() of a FILTER, second");
    x.checkpoint();
    x.workAt(0);
    x.workAt(6);
    due(true, () -> x.isBlocked(6, true), "isBlocked() of a MERGE, second");
    due(false, () -> x.isBlocked(6, false), "isBlocked() of a MERGE, first");
    x.workAt(1);
    due(false, () -> x.isBlocked(1, false), "isBlocked() of a FILTER");
    x.workAt(5);
    due(true, () -> x.isBlocked(5, false), "isBlocked() of a JOIN, first");
    x.crash();
    due(false, () -> x.isBlocked(6, true), "isBlocked() behind a crash");
    x.checkpoint();
    rest(x);
    due(2, x::complete, "complete()");
    due(false, () -> x.isBlocked(6, true), "isBlocked() behind a checkpoint");
  }

  private static void p30() {
    noStage("leads", (x, i) -> x.leads(i, 0));
    noStage("leads", (x, i) -> x.leads(0, i));
    WeirStream x = allSorts();
    String[] rows = {"011111111", "001111111", "000111111", "000000110", "000000000", "000000001",
        "000000010", "000000000", "000000000"};
    for (int i = 0; i < 9; i++) {
      for (int k = 0; k < 9; k++) {
        int from = i;
        int to = k;
        due(rows[i].charAt(k) == '1', () -> x.leads(from, to), "leads(" + i + ", " + k + ")");
      }
    }
    WeirStream two = new WeirStream();
    two.addSource(0);
    two.addSource(0);
    two.addSink(0);
    due(false, () -> two.leads(1, 2), "leads() of another SOURCE");
  }

  private static void p31() {
    noStage("depthOf", WeirStream::depthOf);
    WeirStream x = allSorts();
    int[] want = {0, 1, 2, 3, 3, 3, 4, 5, 4};
    for (int i = 0; i < 9; i++) {
      int n = i;
      due(want[n], () -> x.depthOf(n), "depthOf(" + n + ")");
    }
    WeirStream y = new WeirStream();
    y.addSource(0);
    for (int i = 1; i < 12; i++) {
      y.addMap(i - 1, 0, 0);
    }
    due(11, () -> y.depthOf(11), "depthOf() of the last of a chain");
  }

  private static void p32() {
    onlyOf("accountAt", (x, i) -> x.accountAt(i, 0, 0), 3, 4);
    WeirStream x = new WeirStream();
    x.addSource(1000);
    x.addWindow(0, 10, 5, 1, 0);
    x.addSession(0, 10, 1);
    x.start();
    due(0, () -> x.accountAt(1, 1, 0), "accountAt() without windows");
    x.offer(0, 1, 7, 12);
    x.offer(0, 1, 5, 17);
    rest(x);
    // Windows: 5 to 15 with 7, 10 to 20 with 12, 15 to 25 with 5. A session from 12 to 27.
    int[][] windows = {{4, 0}, {5, 7}, {14, 7}, {15, 12}, {19, 12}, {20, 5}, {24, 5}, {25, 0},
        {LOW, 0}, {HIGH, 0}};
    for (int[] w : windows) {
      due(w[1], () -> x.accountAt(1, 1, w[0]), "accountAt(1, 1, " + w[0] + ")");
    }
    int[][] sessions = {{11, 0}, {12, 12}, {26, 12}, {27, 0}, {LOW, 0}, {HIGH, 0}};
    for (int[] s : sessions) {
      due(s[1], () -> x.accountAt(2, 1, s[0]), "accountAt(2, 1, " + s[0] + ")");
    }
    int[] keys = {0, 2, -1, 100, 129, 257, LOW, HIGH};
    for (int key : keys) {
      due(0, () -> x.accountAt(1, key, 15), "accountAt(1, " + key + ", 15)");
      due(0, () -> x.accountAt(2, key, 15), "accountAt(2, " + key + ", 15)");
    }
    WeirStream mean = windowed(10, 10, 5, 0);
    mean.offer(0, 3, -3, 1);
    mean.offer(0, 3, -4, 1);
    rest(mean);
    due(-3, () -> mean.accountAt(1, 3, 1), "accountAt() of account 5, cut towards 0");
  }

  private static void p33() {
    onlyOf("nextEnd", WeirStream::nextEnd, 3, 4);
    WeirStream x = windowed(10, 5, 1, 100);
    due(-1, () -> x.nextEnd(1), "nextEnd() without windows");
    x.offer(0, 1, 1, 2);
    rest(x);
    due(5, () -> x.nextEnd(1), "nextEnd()");
    x.offer(0, 1, 1, 5);
    rest(x);
    due(3, () -> x.kept(1), "kept() with lateness");
    due(10, () -> x.nextEnd(1), "nextEnd() above the mark alone");
    x.close(0);
    rest(x);
    due(-1, () -> x.nextEnd(1), "nextEnd() behind the last mark");
    WeirStream s = sessioned(1000, 10, 0);
    s.offer(0, 2, 1, 30);
    s.offer(0, 1, 1, 20);
    rest(s);
    due(30, () -> s.nextEnd(1), "nextEnd() of sessions");
  }

  private static void p34() {
    onlyOf("outputs", WeirStream::outputs, 7);
    WeirStream x = started(0);
    due(0, () -> x.outputs(1), "outputs() at first");
    x.offer(0, 1, 1, 1);
    x.offer(0, 1, 1, 2);
    x.work(2);
    due(1, () -> x.outputs(1), "outputs() behind one event");
    rest(x);
    due(2, () -> x.outputs(1), "outputs()");
    x.crash();
    due(0, () -> x.outputs(1), "outputs() behind a crash");
  }

  private static void p35() {
    onlyOf("committed", WeirStream::committed, 7);
    WeirStream x = started(0);
    x.offer(0, 1, 1, 1);
    rest(x);
    due(0, () -> x.committed(1), "committed() without a checkpoint");
    x.checkpoint();
    x.offer(0, 1, 1, 2);
    due(true, () -> x.workAt(0), "workAt(0)");
    due(0, () -> x.committed(1), "committed() as the checkpoint is not complete");
    rest(x);
    due(2, () -> x.outputs(1), "outputs()");
    due(1, () -> x.committed(1), "committed(): as much as was SAVED");
    x.crash();
    due(1, () -> x.committed(1), "committed() behind a crash");
    due(1, () -> x.outputs(1), "outputs() behind a crash");
    x.checkpoint();
    x.work(1);
    x.crash();
    due(1, () -> x.committed(1), "committed() behind a checkpoint that is gone");
    // Two SINKs: as the last one is SAVED, both count.
    WeirStream two = new WeirStream();
    two.addSource(0);
    two.addSink(0);
    two.addSink(0);
    two.start();
    two.offer(0, 1, 1, 1);
    rest(two);
    two.checkpoint();
    two.workAt(0);
    two.workAt(1);
    due(0, () -> two.committed(1), "committed() as the other SINK is not SAVED");
    two.workAt(2);
    due(1, () -> two.committed(1), "committed() of the first SINK");
    due(1, () -> two.committed(2), "committed() of the second SINK");
  }

  private static void places(String what, java.util.function.BiFunction<Integer, Integer, Object> ask,
      WeirStream x) {
    int[] bad = {-1, 2, LOW, HIGH};
    for (int b : bad) {
      refused(x, ARGUMENT, () -> ask.apply(1, b), what + "(1, " + b + ")");
    }
    refused(x, ARGUMENT, () -> ask.apply(0, 0), what + " of a SOURCE");
    refused(x, INDEX, () -> ask.apply(2, -1), what + "(2, -1)");
  }

  private static WeirStream twoOut() {
    WeirStream x = started(0);
    x.offer(0, 98, -7, 3);
    x.offer(0, 1, 70000, 99999);
    rest(x);
    return x;
  }

  private static void p36() {
    onlyOf("keyAt", (x, i) -> x.keyAt(i, 0), 7);
    WeirStream x = twoOut();
    places("keyAt", x::keyAt, x);
    due(98, () -> x.keyAt(1, 0), "keyAt(1, 0)");
    due(1, () -> x.keyAt(1, 1), "keyAt(1, 1)");
    x.crash();
    refused(x, ARGUMENT, () -> x.keyAt(1, 0), "keyAt(1, 0) behind a crash");
  }

  private static void p37() {
    onlyOf("valueAt", (x, i) -> x.valueAt(i, 0), 7);
    WeirStream x = twoOut();
    places("valueAt", x::valueAt, x);
    due(-7, () -> x.valueAt(1, 0), "valueAt(1, 0)");
    due(70000, () -> x.valueAt(1, 1), "valueAt(1, 1)");
    x.crash();
    refused(x, ARGUMENT, () -> x.valueAt(1, 0), "valueAt(1, 0) behind a crash");
  }

  private static void p38() {
    onlyOf("timeAt", (x, i) -> x.timeAt(i, 0), 7);
    WeirStream x = twoOut();
    places("timeAt", x::timeAt, x);
    due(3, () -> x.timeAt(1, 0), "timeAt(1, 0)");
    due(99999, () -> x.timeAt(1, 1), "timeAt(1, 1)");
    x.crash();
    refused(x, ARGUMENT, () -> x.timeAt(1, 0), "timeAt(1, 0) behind a crash");
    WeirStream far = new WeirStream();
    far.addSource(0);
    for (int i = 1; i <= 10; i++) {
      far.addWindow(i - 1, 1000, 1000, 0, 0);
    }
    far.addSink(10);
    far.start();
    far.offer(0, 1, 1, 100000);
    far.close(0);
    rest(far);
    row(far, 11, "1:1@100999");
  }

  private static void p39() {
    WeirStream x = started(0);
    due(0, x::complete, "complete() at first");
    for (int i = 1; i <= 3; i++) {
      int n = i;
      x.checkpoint();
      due(n - 1, x::complete, "complete() as " + n + " was begun");
      rest(x);
      due(n, x::complete, "complete() behind " + n);
    }
    x.checkpoint();
    x.crash();
    due(3, x::complete, "complete() behind a crash");
    x.checkpoint();
    rest(x);
    due(5, x::complete, "complete() without 4");
  }

  private static void p40() {
    WeirStream x = started(0);
    due(0, x::begun, "begun() at first");
    x.checkpoint();
    due(1, x::begun, "begun()");
    x.workAt(0);
    due(1, x::begun, "begun() with the SOURCE SAVED");
    x.workAt(1);
    due(0, x::begun, "begun() as it is complete");
    x.checkpoint();
    x.crash();
    due(0, x::begun, "begun() behind a crash");
    due(false, () -> x.isReady(0), "isReady() of a SOURCE whose checkpoint is gone");
    WeirStream alone = new WeirStream();
    alone.addSource(0);
    alone.start();
    alone.checkpoint();
    alone.work(1);
    due(1, alone::complete, "complete() of a SOURCE alone");
    due(0, alone::begun, "begun() of a SOURCE alone");
  }

  private static void p41() {
    WeirStream x = started(0);
    for (int i = 0; i < 5; i++) {
      int n = i;
      due(n, x::crashes, "crashes()");
      x.crash();
    }
    due(5, x::crashes, "crashes()");
    WeirStream y = new WeirStream();
    refused(y, STATE, y::crash, "crash ahead of start()");
    due(0, y::crashes, "crashes() behind a refused crash");
  }

  private static void p42() {
    WeirStream x = started(0);
    x.offer(0, 1, 1, 1);
    x.work(1);
    x.workAt(1);
    x.workAt(0);
    due(2, x::worked, "worked()");
    x.crash();
    due(2, x::worked, "worked() behind a crash");
    rest(x);
    due(5, x::worked, "worked(), those ahead of the crash as well");
    x.itemsToRest(5);
    x.offer(0, 1, 1, 2);
    x.outputsIn(1, 5);
    due(5, x::worked, "worked() behind what would be");
  }

  private static void p43() {
    WeirStream x = new WeirStream();
    x.addSource(0);
    x.addSink(0);
    x.addSink(0);
    x.start();
    due(0, x::inFlight, "inFlight() at first");
    x.offer(0, 1, 1, 1);
    due(0, x::inFlight, "inFlight() with an event in the LOG");
    x.work(1);
    due(4, x::inFlight, "inFlight() with an event and a mark in two channels");
    x.work(1);
    due(3, x::inFlight, "inFlight()");
    x.checkpoint();
    x.workAt(0);
    due(5, x::inFlight, "inFlight() with barriers");
    x.crash();
    due(0, x::inFlight, "inFlight() behind a crash");
  }

  private static void p44() {
    WeirStream x = new WeirStream();
    x.addSource(1000);
    x.addSource(1000);
    x.addSink(0);
    x.addSink(1);
    due(-1, x::next, "next() ahead of start()");
    x.start();
    due(-1, x::next, "next() at rest");
    x.offer(1, 1, 1, 1);
    due(1, x::next, "next()");
    x.offer(0, 1, 1, 1);
    due(0, x::next, "next(), the smallest number at first");
    x.work(1);
    due(1, x::next, "next() above 0");
    x.workAt(2);
    x.offer(0, 1, 1, 1);
    due(0, x::next, "next() above 2: none, so from the first one on");
    x.workAt(1);
    due(3, x::next, "next() above 1");
    x.offer(1, 1, 1, 1);
    x.workAt(3);
    x.workAt(0);
    x.workAt(2);
    x.workAt(1);
    x.workAt(3);
    due(-1, x::next, "next() at rest");
    x.offer(1, 1, 1, 1);
    due(1, x::next, "next()");
    x.workAt(1);
    x.offer(1, 1, 1, 1);
    due(3, x::next, "next() above the one that worked last");
    x.workAt(3);
    due(1, x::next, "next(), itself or others");
  }

  private static void p45() {
    WeirStream x = new WeirStream();
    x.addSource(0);
    due(0.0, x::meanQueue, "meanQueue() without channels");
    x.addSink(0);
    x.addMap(0, 0, 0);
    x.addMerge(0, 2);
    due(0.0, x::meanQueue, "meanQueue() with empty channels");
    x.start();
    x.offer(0, 1, 1, 1);
    x.work(1);
    due(1.5, x::meanQueue, "meanQueue() with 6 items in 4 channels");
    x.work(1);
    due(1.25, x::meanQueue, "meanQueue() with 5 items in 4 channels");
    WeirStream y = new WeirStream();
    y.addSource(1000);
    y.addSink(0);
    y.addMap(0, 0, 0);
    y.addSink(2);
    y.start();
    y.offer(0, 1, 1, 1);
    y.work(2);
    due(1.0 / 3.0, y::meanQueue, "meanQueue() with 1 item in 3 channels");
  }

  private static void p46() {
    WeirStream x = allSorts();
    refused(x, ARGUMENT, () -> x.itemsToRest(0), "itemsToRest(0)");
    refused(x, ARGUMENT, () -> x.itemsToRest(201), "itemsToRest(201)");
    due(0, () -> x.itemsToRest(200), "itemsToRest() ahead of start()");
    x.start();
    due(0, () -> x.itemsToRest(1), "itemsToRest() at rest");
    WeirStream y = started(0);
    y.offer(0, 1, 1, 1);
    long before = y.digest();
    due(3, () -> y.itemsToRest(200), "itemsToRest(200)");
    due(3, () -> y.itemsToRest(3), "itemsToRest(3)");
    due(-1, () -> y.itemsToRest(2), "itemsToRest(2)");
    due(before, y::digest, "digest() behind itemsToRest()");
    due(3, () -> y.work(200), "work(200)");
    y.checkpoint();
    due(2, () -> y.itemsToRest(200), "itemsToRest() with barriers");
    due(1, y::begun, "begun() behind itemsToRest()");
    y.close(0);
    due(4, () -> y.itemsToRest(200), "itemsToRest() of one that was closed");
    due(4, () -> y.work(200), "work(200)");
    // Windows, joins and channels are taken along, also BLOCKED ones.
    WeirStream a = allSorts();
    a.start();
    a.offer(0, 1, 1, 1);
    a.offer(0, 1, 1, 9);
    a.work(7);
    a.checkpoint();
    a.workAt(0);
    a.workAt(6);
    a.workAt(6);
    a.workAt(6);
    int told = a.itemsToRest(200);
    due(told, () -> a.work(200), "work() as itemsToRest() told");
  }

  private static void p47() {
    onlyOf("outputsIn", (x, i) -> x.outputsIn(i, 1), 7);
    WeirStream x = allSorts();
    refused(x, ARGUMENT, () -> x.outputsIn(7, 0), "outputsIn(7, 0)");
    refused(x, ARGUMENT, () -> x.outputsIn(7, 201), "outputsIn(7, 201)");
    refused(x, INDEX, () -> x.outputsIn(9, 0), "outputsIn(9, 0)");
    due(0, () -> x.outputsIn(7, 200), "outputsIn() ahead of start()");
    WeirStream y = started(0);
    y.offer(0, 1, 1, 1);
    y.offer(0, 1, 2, 2);
    long before = y.digest();
    int[][] want = {{1, 0}, {2, 1}, {3, 1}, {4, 1}, {5, 2}, {200, 2}};
    for (int[] w : want) {
      due(w[1], () -> y.outputsIn(1, w[0]), "outputsIn(1, " + w[0] + ")");
    }
    due(before, y::digest, "digest() behind outputsIn()");
    due(1, () -> y.kept(0) - 1, "kept() behind outputsIn()");
    rest(y);
    row(y, 1, "1:1@1 1:2@2");
    due(2, () -> y.outputsIn(1, 1), "outputsIn() at rest");
  }

  private static void p48() {
    onlyOf("wouldLose", WeirStream::wouldLose, 7);
    WeirStream x = started(0);
    x.offer(0, 1, 1, 1);
    x.offer(0, 1, 1, 2);
    rest(x);
    due(2, () -> x.wouldLose(1), "wouldLose() without a checkpoint");
    x.checkpoint();
    due(2, () -> x.wouldLose(1), "wouldLose() with one that was begun");
    rest(x);
    due(0, () -> x.wouldLose(1), "wouldLose() behind a checkpoint");
    x.offer(0, 1, 1, 3);
    rest(x);
    due(1, () -> x.wouldLose(1), "wouldLose() of one more");
    due(3, () -> x.outputs(1), "outputs() behind wouldLose()");
    x.crash();
    due(0, () -> x.wouldLose(1), "wouldLose() behind a crash");
  }

  private static void p49() {
    onlyOf("wouldReplay", WeirStream::wouldReplay, 0);
    WeirStream x = started(0);
    x.offer(0, 1, 1, 1);
    x.offer(0, 1, 1, 2);
    due(0, () -> x.wouldReplay(0), "wouldReplay() with nothing read");
    x.work(1);
    due(1, () -> x.wouldReplay(0), "wouldReplay() without a checkpoint");
    x.checkpoint();
    x.workAt(0);
    x.workAt(0);
    due(2, () -> x.wouldReplay(0), "wouldReplay() with one that was begun");
    rest(x);
    due(1, () -> x.wouldReplay(0), "wouldReplay() behind a checkpoint");
    x.crash();
    due(0, () -> x.wouldReplay(0), "wouldReplay() behind a crash");
    due(1, () -> x.kept(0), "kept() behind a crash");
  }

  private static long fold(long... row) {
    long d = 58014;
    for (long x : row) {
      d = d * 31 + x;
    }
    return d;
  }

  private static void p50() {
    WeirStream x = new WeirStream();
    due(fold(0, 0, 0, 0, 0, 0, 0, -1), x::digest, "digest() of a new object");
    x.addSource(0);
    due(fold(1, 0, 0, 0, 0, 0, 0, -1, 0, -1, 0, 0, 0, 0, 0, 1, -1, 0, -1, 0, 0), x::digest,
        "digest() with a SOURCE");
    x.addWindow(0, 10, 10, 1, 0);
    x.addSink(1);
    x.addMerge(0, 1);
    x.start();
    x.offer(0, 3, -4, 5);
    x.offer(0, 3, -5, 17);
    rest(x);
    x.checkpoint();
    x.workAt(0);
    x.workAt(3);
    // Stage: sort, mark, taken, emitted, late, kept, ready, room, both channels, depth, what is its own.
    due(fold(4, 1, 0, 1, 0, x.worked(), 1, 1,
        0, 17, 2, 2, 0, 0, 0, 1, -1, 0, -1, 0, 0,
        3, 17, 2, 1, 0, 1, 1, 1, 1, 0, -1, 0, 1, 20,
        7, 17, 1, 0, 0, 0, 0, 1, 0, 0, -1, 0, 2, 1, 0, 3, -4, 9,
        6, 17, 3, 3, 0, 0, 0, 1, 0, 1, 0, 0, 2), x::digest, "digest() in the middle of a checkpoint");
  }

  public static void main(String[] args) throws ReflectiveOperationException {
    for (int i = 1; i <= 50; i++) {
      promise = i;
      PromisesTest.class.getDeclaredMethod("p" + i).invoke(null);
    }
    System.out.println(wrong == 0 ? "all promises hold" : wrong + " answers are not as due");
    if (wrong != 0) {
      System.exit(1);
    }
  }
}

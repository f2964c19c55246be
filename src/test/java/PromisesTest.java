import java.util.function.BiFunction;
import java.util.function.Function;

/**
 * Each sentence of the promises with a test of its own: ordinary inputs, the boundary cases that the
 * document names, and wrong inputs. What the terms say of work is tested in TermsTest.
 */
public final class PromisesTest extends Sentences {
  private static void whatItIs() {
    says("An object is used for at most 512 calls after it has been made;");
    WeirStream x = started(0);
    for (int i = 0; i < 150; i++) {
      x.offer(0, i % 100, i, i);
      x.work(200);
    }
    for (int i = 0; i < 100; i++) {
      x.checkpoint();
      x.work(200);
    }
    x.crash();
    // These are the calls 505 to 512.
    due(100, x::complete, "complete()");
    due(1, x::crashes, "crashes()");
    due(150, () -> x.outputs(1), "outputs(1)");
    due(150, () -> x.committed(1), "committed(1)");
    due(0, () -> x.kept(0), "kept(0)");
    due(49, () -> x.keyAt(1, 149), "keyAt(1, 149)");
    due(149, () -> x.valueAt(1, 149), "valueAt(1, 149)");
    due(149, () -> x.timeAt(1, 149), "timeAt(1, 149)");
  }

  // ---- wiring

  private static void p1() {
    says("Creates a processor without stages, which is not started.");
    WeirStream x = new WeirStream();
    due(0, x::stages, "stages()");
    due(false, x::isStarted, "isStarted()");
    due(0, x::complete, "complete()");
    due(0, x::begun, "begun()");
    due(0, x::crashes, "crashes()");
    due(0, x::worked, "worked()");
    due(0, x::inFlight, "inFlight()");
    due(-1, x::next, "next()");
    due(0.0, x::meanQueue, "meanQueue()");
    due(0, () -> x.itemsToRest(1), "itemsToRest(1)");
    due(0, new WeirStream()::stages, "stages() of another one");
  }

  private static void p2() {
    says("Adds a SOURCE.");
    WeirStream x = new WeirStream();
    due(0, () -> x.addSource(0), "addSource(0)");
    due(0, () -> x.sortOf(0), "sortOf(0)");
    due(1, x::stages, "stages()");
    says("Returns its number.");
    due(1, () -> x.addSource(1000), "addSource(1000)");
    due(2, () -> x.addSource(7), "addSource(7)");
    says("slack is not 0 to 1000");
    int[] slacks = {-1, 1001, LOW, HIGH};
    for (int slack : slacks) {
      refused(x, ARGUMENT, () -> x.addSource(slack), "addSource(" + slack + ")");
    }
    noMoreStages(y -> y.addSource(0));
    // The slack: the mark is the time less the slack.
    x.start();
    offers(x, 0, ev(1, 1, 2000));
    offers(x, 1, ev(1, 1, 2000));
    offers(x, 2, ev(1, 1, 2000));
    rest(x);
    due(2000, () -> x.markOf(0), "markOf() with slack 0");
    due(1000, () -> x.markOf(1), "markOf() with slack 1000");
    due(1993, () -> x.markOf(2), "markOf() with slack 7");
  }

  /** For a call that adds a stage to the ones that are there. */
  private static void noMoreStages(Function<WeirStream, Object> add) {
    says("it was started");
    WeirStream x = allSorts();
    x.start();
    refused(x, STATE, () -> add.apply(x), "the call behind start()");
    x.offer(0, 1, 1, 1);
    x.work(5);
    refused(x, STATE, () -> add.apply(x), "the call behind work()");
    x.crash();
    refused(x, STATE, () -> add.apply(x), "the call behind crash()");
    says("there are 12 stages");
    WeirStream f = new WeirStream();
    for (int i = 0; i < 11; i++) {
      f.addSource(0);
    }
    due(11, () -> add.apply(f), "the call with 11 stages");
    refused(f, STATE, () -> add.apply(f), "the call with 12 stages");
    f.start();
    refused(f, STATE, () -> add.apply(f), "the call with 12 stages, behind start()");
  }

  private static void oneInput(String what, BiFunction<WeirStream, Integer, Object> add, int sort) {
    WeirStream n = allSorts();
    due(9, () -> add.apply(n, 6), what + " behind 6");
    due(10, () -> add.apply(n, 0), what + " behind 0");
    due(sort, () -> n.sortOf(9), "sortOf(9)");
    due(0, () -> n.queued(9, false), "queued(9, false)");
    due(-1, () -> n.queued(9, true), "queued(9, true)");
    due(true, () -> n.leads(6, 9), "leads(6, 9)");
    due(false, () -> n.leads(6, 10), "leads(6, 10)");
    says("there is no such stage");
    noStage(what, add);
    says("input is a SINK");
    refused(n, ARGUMENT, () -> add.apply(n, 7), what + " behind a SINK");
    refused(n, ARGUMENT, () -> add.apply(n, 8), what + " behind another SINK");
    noMoreStages(x -> add.apply(x, 0));
  }

  private static void p3() {
    says("Adds a FILTER.");
    through(filtered(0, 2), "1:2@1", ev(1, 1, 0), ev(1, 2, 1));
    says("Returns its number as a stage.");
    oneInput("addFilter", (x, i) -> x.addFilter(i, 0, 0), 1);
    says("test is not 0 to 3");
    WeirStream x = allSorts();
    int[] tests = {-1, 4, LOW, HIGH};
    for (int test : tests) {
      refused(x, ARGUMENT, () -> x.addFilter(0, test, 1), "addFilter with the test " + test);
    }
    due(9, () -> x.addFilter(0, 0, LOW), "addFilter with the test 0");
    due(10, () -> x.addFilter(0, 3, HIGH), "addFilter with the test 3");
    says("n is 0 with the test 3");
    WeirStream y = allSorts();
    refused(y, ARGUMENT, () -> y.addFilter(0, 3, 0), "addFilter(0, 3, 0)");
    due(9, () -> y.addFilter(0, 2, 0), "addFilter(0, 2, 0)");
    due(10, () -> y.addFilter(0, 3, -1), "addFilter(0, 3, -1)");
    due(11, () -> y.addFilter(0, 3, LOW), "addFilter(0, 3, LOW)");
  }

  private static void p4() {
    says("Adds a MAP.");
    through(mapped(0, 2), "1:3@0", ev(1, 1, 0));
    says("Returns its number as a stage.");
    oneInput("addMap", (x, i) -> x.addMap(i, 0, 0), 2);
    says("rule is not 0 to 3");
    WeirStream x = allSorts();
    int[] rules = {-1, 4, LOW, HIGH};
    for (int rule : rules) {
      refused(x, ARGUMENT, () -> x.addMap(0, rule, 1), "addMap with the rule " + rule);
    }
    due(9, () -> x.addMap(0, 0, LOW), "addMap with the rule 0");
    due(10, () -> x.addMap(0, 3, HIGH), "addMap with the rule 3");
    says("n is not 1 to 100 with the rule 2");
    WeirStream y = allSorts();
    int[] bad = {0, 101, -1, LOW, HIGH};
    for (int n : bad) {
      refused(y, ARGUMENT, () -> y.addMap(0, 2, n), "addMap(0, 2, " + n + ")");
    }
    due(9, () -> y.addMap(0, 2, 1), "addMap(0, 2, 1)");
    due(10, () -> y.addMap(0, 2, 100), "addMap(0, 2, 100)");
    due(11, () -> y.addMap(0, 1, 0), "addMap(0, 1, 0)");
  }

  private static void p5() {
    says("Adds a WINDOW.");
    through(windowed(10, 5, 1, 0), "1:3@4 1:7@9 1:4@14", ev(1, 3, 2), ev(1, 4, 6));
    says("Returns its number.");
    oneInput("addWindow", (x, i) -> x.addWindow(i, 10, 5, 0, 0), 3);
    WeirStream x = allSorts();
    says("size is not 1 to 1000");
    noWindow(x, new int[][] {{0, 1, 0, 0}, {-1, -1, 0, 0}, {1001, 1000, 0, 0}, {1001, 1001, 0, 0},
        {LOW, LOW, 0, 0}, {HIGH, HIGH, 0, 0}});
    due(9, () -> x.addWindow(0, 1, 1, 0, 0), "addWindow of size 1");
    due(10, () -> x.addWindow(0, 1000, 1000, 0, 0), "addWindow of size 1000");
    says("step is not 1 to size");
    WeirStream y = allSorts();
    noWindow(y, new int[][] {{10, 0, 0, 0}, {10, 11, 0, 0}, {10, -1, 0, 0}, {1, 2, 0, 0},
        {1000, 1001, 0, 0}, {10, LOW, 0, 0}, {10, HIGH, 0, 0}});
    due(9, () -> y.addWindow(0, 10, 10, 0, 0), "addWindow of step 10");
    due(10, () -> y.addWindow(0, 2, 1, 0, 0), "addWindow of step 1");
    says("size is above 8 * step");
    WeirStream z = allSorts();
    // The products of the last ones wrap around.
    noWindow(z, new int[][] {{9, 1, 0, 0}, {17, 2, 0, 0}, {1000, 124, 0, 0}, {1000, 1, 0, 0},
        {10, 1 << 29, 0, 0}, {1000, 268435460, 0, 0}});
    due(9, () -> z.addWindow(0, 8, 1, 0, 0), "addWindow of 8 and 1");
    due(10, () -> z.addWindow(0, 16, 2, 0, 0), "addWindow of 16 and 2");
    due(11, () -> z.addWindow(0, 1000, 125, 0, 0), "addWindow of 1000 and 125");
    windowNumbers();
  }

  private static void windowNumbers() {
    says("account is not 0 to 5");
    WeirStream x = allSorts();
    noWindow(x, new int[][] {{10, 5, -1, 0}, {10, 5, 6, 0}, {10, 5, LOW, 0}, {10, 5, HIGH, 0}});
    due(9, () -> x.addWindow(0, 10, 5, 0, 0), "addWindow of account 0");
    due(10, () -> x.addWindow(0, 10, 5, 5, 0), "addWindow of account 5");
    says("lateness is not 0 to 1000");
    WeirStream y = allSorts();
    noWindow(y, new int[][] {{10, 5, 0, -1}, {10, 5, 0, 1001}, {10, 5, 0, LOW}, {10, 5, 0, HIGH}});
    due(9, () -> y.addWindow(0, 10, 5, 0, 0), "addWindow of lateness 0");
    due(10, () -> y.addWindow(0, 10, 5, 0, 1000), "addWindow of lateness 1000");
  }

  private static void noWindow(WeirStream x, int[][] rows) {
    for (int[] r : rows) {
      refused(x, ARGUMENT, () -> x.addWindow(0, r[0], r[1], r[2], r[3]),
          "addWindow(0, " + r[0] + ", " + r[1] + ", " + r[2] + ", " + r[3] + ")");
    }
  }

  private static void p6() {
    says("Adds a SESSION.");
    through(sessioned(1000, 10, 1), "1:3@14 1:4@24", ev(1, 1, 0), ev(1, 2, 5), ev(1, 4, 15));
    says("Returns its number.");
    oneInput("addSession", (x, i) -> x.addSession(i, 10, 0), 4);
    says("gap is not 1 to 1000");
    WeirStream x = allSorts();
    int[] gaps = {0, 1001, -1, LOW, HIGH};
    for (int gap : gaps) {
      refused(x, ARGUMENT, () -> x.addSession(0, gap, 0), "addSession of gap " + gap);
    }
    due(9, () -> x.addSession(0, 1, 0), "addSession of gap 1");
    due(10, () -> x.addSession(0, 1000, 0), "addSession of gap 1000");
    says("account is not 0 to 5");
    WeirStream y = allSorts();
    int[] accounts = {-1, 6, LOW, HIGH};
    for (int account : accounts) {
      refused(y, ARGUMENT, () -> y.addSession(0, 10, account), "addSession of account " + account);
    }
    due(9, () -> y.addSession(0, 10, 0), "addSession of account 0");
    due(10, () -> y.addSession(0, 10, 5), "addSession of account 5");
  }

  /** For a call with two inputs, the others of its numbers are good. */
  private static void twoInputs(String what, BiFunction<WeirStream, int[], Object> add, int sort) {
    WeirStream n = allSorts();
    due(9, () -> add.apply(n, new int[] {6, 2}), what + " behind 6 and 2");
    due(10, () -> add.apply(n, new int[] {0, 9}), what + " behind 0 and 9");
    due(sort, () -> n.sortOf(9), "sortOf(9)");
    due(0, () -> n.queued(9, false), "queued(9, false)");
    due(0, () -> n.queued(9, true), "queued(9, true)");
    due(true, () -> n.leads(6, 9), "leads(6, 9)");
    due(true, () -> n.leads(9, 10), "leads(9, 10)");
    says("there is no such stage");
    noStage(what + " with a first input", (x, i) -> add.apply(x, new int[] {i, 0}));
    noStage(what + " with a second input", (x, i) -> add.apply(x, new int[] {0, i}));
    noStage(what + " with both inputs", (x, i) -> add.apply(x, new int[] {i, i}));
    says("an input is a SINK");
    refused(n, ARGUMENT, () -> add.apply(n, new int[] {7, 0}), what + " behind a SINK and 0");
    refused(n, ARGUMENT, () -> add.apply(n, new int[] {0, 7}), what + " behind 0 and a SINK");
    refused(n, ARGUMENT, () -> add.apply(n, new int[] {7, 8}), what + " behind two SINKs");
    says("both are the same");
    refused(n, ARGUMENT, () -> add.apply(n, new int[] {0, 0}), what + " behind 0 and 0");
    refused(n, ARGUMENT, () -> add.apply(n, new int[] {10, 10}), what + " behind 10 and 10");
    noMoreStages(x -> add.apply(x, new int[] {1, 0}));
  }

  private static void p7() {
    says("Adds a JOIN.");
    WeirStream j = joined(1000, 3, 2, 1);
    j.offer(0, 1, 9, 20);
    offers(j, 1, ev(1, 1, 16), ev(1, 2, 17), ev(1, 3, 22), ev(1, 4, 23), ev(2, 5, 20));
    rest(j);
    row(j, 3, "1:7@20 1:6@22");
    says("Returns its number.");
    twoInputs("addJoin", (x, i) -> x.addJoin(i[0], i[1], 0, 0, 0), 5);
    says("before or after is not 0 to 1000");
    WeirStream x = allSorts();
    int[] bad = {-1, 1001, LOW, HIGH};
    for (int b : bad) {
      refused(x, ARGUMENT, () -> x.addJoin(0, 1, b, 0, 0), "addJoin with before " + b);
      refused(x, ARGUMENT, () -> x.addJoin(0, 1, 0, b, 0), "addJoin with after " + b);
    }
    due(9, () -> x.addJoin(0, 1, 0, 1000, 0), "addJoin with 0 and 1000");
    due(10, () -> x.addJoin(0, 1, 1000, 0, 0), "addJoin with 1000 and 0");
    says("rule is not 0 to 3");
    WeirStream y = allSorts();
    int[] rules = {-1, 4, LOW, HIGH};
    for (int rule : rules) {
      refused(y, ARGUMENT, () -> y.addJoin(0, 1, 0, 0, rule), "addJoin with the rule " + rule);
    }
    due(9, () -> y.addJoin(0, 1, 0, 0, 0), "addJoin with the rule 0");
    due(10, () -> y.addJoin(0, 1, 0, 0, 3), "addJoin with the rule 3");
    says("its left input, the first one");
    WeirStream t = new WeirStream();
    t.addSource(1000);
    t.addSource(1000);
    t.addSink(t.addJoin(1, 0, 0, 0, 3));
    t.start();
    t.offer(0, 1, 5, 1);
    t.offer(1, 1, 6, 1);
    t.work(2);
    due(1, () -> t.queued(2, false), "queued() of the left input");
    rest(t);
    row(t, 3, "1:6@1");
  }

  private static void p8() {
    says("Adds a MERGE.");
    WeirStream x = merged(0);
    x.offer(0, 1, 1, 5);
    x.offer(0, 1, 2, 6);
    x.offer(1, 2, 3, 4);
    workAll(x, 0, 0, 1);
    // Turn by turn: 1, 3, MARK 5, MARK 4 (of the second), 2, MARK 6.
    workAll(x, 2, 2, 2);
    due(-1, () -> x.markOf(2), "markOf() of a MERGE with a mark of one input alone");
    workAll(x, 2);
    due(4, () -> x.markOf(2), "markOf() of a MERGE");
    workAll(x, 2, 2);
    due(4, () -> x.markOf(2), "markOf() of a MERGE: the least of both");
    rest(x);
    row(x, 3, "1:1@5 2:3@4 1:2@6");
    due(4, () -> x.markOf(3), "markOf() of the SINK");
    says("Returns its number.");
    twoInputs("addMerge", (y, i) -> y.addMerge(i[0], i[1]), 6);
  }

  private static void p9() {
    says("Adds a SINK.");
    through(started(0), "99:-2147483648@100000", ev(99, LOW, 100000));
    says("Returns its number.");
    oneInput("addSink", WeirStream::addSink, 7);
  }

  private static void p10() {
    says("Starts.");
    WeirStream x = new WeirStream();
    x.addSource(0);
    due(1, x::start, "start()");
    due(true, x::isStarted, "isStarted()");
    says("Returns how many stages there are.");
    due(9, () -> allSorts().start(), "start() with 9 stages");
    due(12, () -> full().start(), "start() with 12 stages");
    says("it was started");
    refused(x, STATE, x::start, "start(), once more");
    x.crash();
    refused(x, STATE, x::start, "start() behind a crash");
    says("there is no SOURCE");
    WeirStream y = new WeirStream();
    refused(y, STATE, y::start, "start() without a SOURCE");
    due(false, y::isStarted, "isStarted() behind a refused start()");
    due(0, () -> y.addSource(0), "addSource() behind a refused start()");
    due(1, y::start, "start() with a SOURCE");
  }

  private static void p11() {
    says("the capacity from now on");
    WeirStream x = started(1000);
    for (int i = 0; i < 5; i++) {
      x.offer(0, 1, 1, 1);
    }
    x.setCapacity(2);
    workAll(x, 0, 0);
    due(false, () -> x.workAt(0), "workAt() with a capacity of 2");
    x.setCapacity(3);
    workAll(x, 0);
    due(false, () -> x.workAt(0), "workAt() with a capacity of 3");
    says("Returns the one before.");
    due(3, () -> x.setCapacity(4), "setCapacity(4)");
    x.crash();
    due(4, () -> x.setCapacity(5), "setCapacity(5) behind a crash");
    WeirStream y = new WeirStream();
    due(8, () -> y.setCapacity(1), "setCapacity(1), first");
    due(1, () -> y.setCapacity(20), "setCapacity(20)");
    due(20, () -> y.setCapacity(20), "setCapacity(20), the same");
    says("capacity is not 1 to 20");
    int[] bad = {0, 21, -1, LOW, HIGH};
    for (int b : bad) {
      refused(x, ARGUMENT, () -> x.setCapacity(b), "setCapacity(" + b + ")");
      refused(y, ARGUMENT, () -> y.setCapacity(b), "setCapacity(" + b + ") ahead of start()");
    }
  }

  // ---- flow

  private static void p12() {
    says("Offers an event to a SOURCE: it comes to the end of its LOG.");
    through(started(0), "0:1@5 99:2@3 1:-1@5", ev(0, 1, 5), ev(99, 2, 3), ev(1, -1, 5));
    says("Returns how many events the LOG has then.");
    WeirStream x = started(0);
    due(1, () -> x.offer(0, 0, LOW, 0), "offer(0, 0, LOW, 0)");
    due(2, () -> x.offer(0, 99, HIGH, 100000), "offer(0, 99, HIGH, 100000)");
    rest(x);
    due(3, () -> x.offer(0, 1, 1, 1), "offer(), as two were read");
    says("there is no such stage");
    noStage("offer", (y, i) -> y.offer(i, 0, 0, 0));
    says("the stage is no SOURCE");
    onlyOf("offer", (y, i) -> y.offer(i, 0, 0, 0), 0);
    refused(x, ARGUMENT, () -> x.offer(1, 0, 0, 0), "offer to a SINK");
    says("key is not 0 to 99");
    int[] keys = {-1, 100, LOW, HIGH};
    for (int key : keys) {
      refused(x, ARGUMENT, () -> x.offer(0, key, 0, 0), "offer of key " + key);
    }
    says("time is not 0 to 100000");
    int[] times = {-1, 100001, LOW, HIGH};
    for (int time : times) {
      refused(x, ARGUMENT, () -> x.offer(0, 0, 0, time), "offer at " + time);
    }
    says("it was not started");
    WeirStream n = allSorts();
    refused(n, STATE, () -> n.offer(0, 0, 0, 0), "offer ahead of start()");
    says("the source was closed");
    WeirStream c = merged(0);
    c.close(0);
    refused(c, STATE, () -> c.offer(0, 1, 1, 1), "offer to one that was closed");
    due(1, () -> c.offer(1, 1, 1, 1), "offer to the other one");
    rest(c);
    refused(c, STATE, () -> c.offer(0, 1, 1, 1), "offer to one at its last mark");
    c.crash();
    refused(c, STATE, () -> c.offer(0, 1, 1, 1), "offer to one that was closed ahead of a crash");
    says("its LOG has 150 events");
    for (int i = 4; i <= 150; i++) {
      int k = i;
      due(k, () -> x.offer(0, 1, 1, 1), "offer " + k);
    }
    refused(x, STATE, () -> x.offer(0, 1, 1, 1), "offer 151");
    rest(x);
    refused(x, STATE, () -> x.offer(0, 1, 1, 1), "offer 151, as all were read");
    due(150, () -> x.outputs(1), "outputs(1)");
  }

  private static void p13() {
    says("Closes a SOURCE: nothing more will be offered to it.");
    WeirStream x = started(0);
    offers(x, 0, ev(1, 1, 5), ev(1, 1, 6), ev(1, 1, 7));
    x.work(1);
    says("Returns how many events of its LOG it has not read yet.");
    due(2, () -> x.close(0), "close with 2 that were not read");
    due(5, () -> x.markOf(0), "markOf() as the LOG is not at its end");
    rest(x);
    due(1000000, () -> x.markOf(0), "markOf() of a SOURCE that was closed");
    due(1000000, () -> x.markOf(1), "markOf() of the SINK behind it");
    due(0, () -> started(0).close(0), "close with an empty LOG");
    WeirStream all = started(0);
    all.offer(0, 1, 1, 1);
    rest(all);
    due(0, () -> all.close(0), "close as all was read");
    WeirStream back = started(0);
    back.offer(0, 1, 1, 1);
    rest(back);
    back.crash();
    due(1, () -> back.close(0), "close as a crash took back what was read");
    says("there is no such stage");
    noStage("close", WeirStream::close);
    says("the stage is no SOURCE");
    onlyOf("close", WeirStream::close, 0);
    refused(x, ARGUMENT, () -> x.close(1), "close of a SINK");
    says("it was not started");
    WeirStream n = allSorts();
    refused(n, STATE, () -> n.close(0), "close ahead of start()");
    says("the source was closed");
    refused(x, STATE, () -> x.close(0), "close, once more");
    x.crash();
    refused(x, STATE, () -> x.close(0), "close, once more, behind a crash");
  }

  private static void p14() {
    says("Does work, item by item, till so many were dealt with, or no stage is READY.");
    WeirStream x = mapped(0, 1);
    offers(x, 0, ev(1, 1, 1), ev(1, 2, 2));
    says("how many; what a SOURCE does as it works is one, too");
    // Round and round: 0, 1, 2 with the events, 0 and so on with the marks in between.
    due(3, () -> x.work(3), "work(3)");
    due(1, () -> x.outputs(2), "outputs(2)");
    due(0, x::next, "next()");
    due(1, () -> x.work(1), "work(1): the SOURCE gave an event and a MARK");
    due(1, x::next, "next() behind the SOURCE");
    says("Returns how many were dealt with.");
    due(6, () -> x.work(200), "work(200) till rest");
    due(0, () -> x.work(200), "work(200) at rest");
    due(0, () -> x.work(1), "work(1) at rest");
    row(x, 2, "1:2@1 1:3@2");
    WeirStream much = started(1000);
    for (int i = 0; i < 150; i++) {
      much.offer(0, 1, 1, 1);
    }
    due(200, () -> much.work(200), "work(200) of 300 items");
    due(99, () -> much.work(99), "work(99)");
    due(1, () -> much.work(2), "work(2) with one item left");
    says("items is not 1 to 200");
    int[] bad = {0, 201, -1, LOW, HIGH};
    for (int b : bad) {
      refused(x, ARGUMENT, () -> x.work(b), "work(" + b + ")");
    }
    says("it was not started");
    WeirStream n = allSorts();
    refused(n, STATE, () -> n.work(1), "work(1) ahead of start()");
    refused(n, STATE, () -> n.work(200), "work(200) ahead of start()");
  }

  private static void p15() {
    says("Lets one stage work, if it is READY (it is the last one that worked then);");
    WeirStream x = mapped(0, 1);
    offers(x, 0, ev(1, 1, 1), ev(1, 1, 2));
    due(true, () -> x.workAt(0), "workAt(0)");
    due(1, () -> x.taken(0), "taken(0)");
    due(1, x::next, "next() behind workAt(0)");
    workAll(x, 0, 1);
    due(2, x::next, "next() behind workAt(1)");
    due(3, x::worked, "worked()");
    says("otherwise nothing is other than before.");
    workAll(x, 2);
    due(1, x::next, "next() behind workAt(2)");
    String before = look(x);
    due(false, () -> x.workAt(2), "workAt(2) with nothing there");
    due(false, () -> x.workAt(0), "workAt(0) with nothing to read");
    due(before, () -> look(x), "all that can be asked behind workAt() that did nothing");
    says("Returns whether it did: whether it was READY.");
    for (int i = 0; i < 3; i++) {
      int n = i;
      boolean is = x.isReady(n);
      due(is, () -> x.workAt(n), "workAt(" + n + "), as isReady() told");
    }
    says("there is no such stage");
    noStage("workAt", WeirStream::workAt);
    says("it was not started");
    WeirStream n = allSorts();
    for (int i = 0; i < 9; i++) {
      int stage = i;
      refused(n, STATE, () -> n.workAt(stage), "workAt(" + stage + ") ahead of start()");
    }
  }

  private static void p16() {
    says("Begins a checkpoint.");
    WeirStream x = merged(0);
    due(false, () -> x.isReady(0), "isReady() of a SOURCE");
    due(1, x::checkpoint, "checkpoint()");
    due(1, x::begun, "begun()");
    due(true, () -> x.isReady(0), "isReady() of a SOURCE that is to give its barrier");
    due(true, () -> x.isReady(1), "isReady() of the other SOURCE");
    due(0, x::inFlight, "inFlight(): no barrier is there yet");
    says("Returns its number.");
    rest(x);
    due(2, x::checkpoint, "checkpoint(), the second one");
    x.crash();
    due(3, x::checkpoint, "checkpoint() behind a crash: the number 2 stays used");
    says("it was not started");
    WeirStream n = allSorts();
    refused(n, STATE, n::checkpoint, "checkpoint ahead of start()");
    says("one was begun and is not complete");
    refused(x, STATE, x::checkpoint, "checkpoint as one was begun");
    workAll(x, 0, 1, 2, 2);
    refused(x, STATE, x::checkpoint, "checkpoint as the SINK is not SAVED");
    workAll(x, 3);
    due(4, x::checkpoint, "checkpoint as the one before is complete");
  }

  private static void p17() {
    says("Crashes, and goes on from the latest complete checkpoint.");
    WeirStream x = windowed(10, 10, 1, 0);
    offers(x, 0, ev(1, 1, 1), ev(1, 2, 11));
    rest(x);
    row(x, 2, "1:1@9");
    says("0 without one.");
    due(0, x::crash, "crash() without a checkpoint");
    row(x, 2, "");
    due(2, () -> x.kept(0), "kept() of the SOURCE: its LOG stays");
    rest(x);
    row(x, 2, "1:1@9");
    says("Returns the number of that one;");
    x.checkpoint();
    rest(x);
    offers(x, 0, ev(1, 4, 12), ev(1, 8, 21));
    rest(x);
    row(x, 2, "1:1@9 1:6@19");
    due(1, x::crash, "crash() behind the first one");
    row(x, 2, "1:1@9");
    due(2, () -> x.accountAt(1, 1, 11), "accountAt() behind the crash");
    rest(x);
    x.checkpoint();
    rest(x);
    x.checkpoint();
    x.offer(0, 1, 16, 40);
    x.work(2);
    due(2, x::crash, "crash() with one that was begun");
    due(2, x::crash, "crash(), once more");
    rest(x);
    row(x, 2, "1:1@9 1:6@19 1:8@29");
    due(4, x::crashes, "crashes()");
    says("it was not started");
    WeirStream n = allSorts();
    refused(n, STATE, n::crash, "crash ahead of start()");
    due(0, n::crashes, "crashes() behind a refused crash");
  }

  // ---- stages, asked

  private static void p18() {
    says("Returns how many stages there are.");
    WeirStream x = new WeirStream();
    for (int i = 0; i < 12; i++) {
      int n = i;
      due(n, x::stages, "stages()");
      x.addSource(0);
    }
    due(12, x::stages, "stages()");
    x.start();
    due(12, x::stages, "stages() behind start()");
    x.crash();
    due(12, x::stages, "stages() behind a crash");
  }

  private static void p19() {
    says("Returns whether it was started.");
    WeirStream x = new WeirStream();
    due(false, x::isStarted, "isStarted() of a new one");
    x.addSource(0);
    due(false, x::isStarted, "isStarted()");
    x.start();
    due(true, x::isStarted, "isStarted() behind start()");
    x.crash();
    due(true, x::isStarted, "isStarted() behind a crash");
  }

  private static void p20() {
    says("Returns 0 SOURCE, 1 FILTER, 2 MAP, 3 WINDOW, 4 SESSION, 5 JOIN, 6 MERGE, 7 SINK.");
    WeirStream x = allSorts();
    int[] sorts = {0, 1, 2, 3, 4, 5, 6, 7, 7};
    for (int i = 0; i < 9; i++) {
      int n = i;
      due(sorts[n], () -> x.sortOf(n), "sortOf(" + n + ")");
    }
    says("there is no such stage");
    noStage("sortOf", WeirStream::sortOf);
  }

  private static void p21() {
    says("Returns its mark.");
    WeirStream x = allSorts();
    due(-1, () -> x.markOf(7), "markOf() at first");
    x.start();
    x.offer(0, 1, 1, 0);
    x.work(1);
    due(0, () -> x.markOf(0), "markOf() of the SOURCE");
    due(-1, () -> x.markOf(1), "markOf() behind it, as the MARK is on its way");
    rest(x);
    for (int i = 0; i < 9; i++) {
      int n = i;
      due(0, () -> x.markOf(n), "markOf(" + n + ")");
    }
    offers(x, 0, ev(1, 1, 7), ev(1, 1, 3));
    rest(x);
    due(7, () -> x.markOf(8), "markOf() never falls");
    x.close(0);
    rest(x);
    due(1000000, () -> x.markOf(8), "markOf() at its greatest");
    says("there is no such stage");
    noStage("markOf", WeirStream::markOf);
  }

  /** Three events, one of which the FILTER keeps back; the last one is LATE for some. */
  private static WeirStream threeEvents() {
    WeirStream x = allSorts();
    x.start();
    offers(x, 0, ev(1, 1, 1), ev(1, -1, 30), ev(1, 1, 2));
    x.checkpoint();
    rest(x);
    return x;
  }

  private static void p22() {
    says("Returns how many events it took, those that were LATE as well, but not MARKs and BARRIERs "
        + "(of a SOURCE: its POSITION).");
    WeirStream x = threeEvents();
    int[] want = {3, 3, 2, 2, 2, 4, 5, 5, 1};
    for (int i = 0; i < 9; i++) {
      int n = i;
      due(want[n], () -> x.taken(n), "taken(" + n + ")");
    }
    due(0, () -> allSorts().taken(7), "taken() at first");
    says("there is no such stage");
    noStage("taken", WeirStream::taken);
  }

  private static void p23() {
    says("Returns how many events it emitted, each once, however many channels lead from it.");
    WeirStream x = threeEvents();
    int[] want = {3, 2, 2, 2, 1, 1, 5, 0, 0};
    for (int i = 0; i < 9; i++) {
      int n = i;
      due(want[n], () -> x.emitted(n), "emitted(" + n + ")");
    }
    WeirStream alone = new WeirStream();
    alone.addSource(0);
    alone.start();
    alone.offer(0, 1, 1, 1);
    due(1, () -> alone.work(5), "work() of a SOURCE alone");
    due(1, () -> alone.emitted(0), "emitted() without a channel");
    says("there is no such stage");
    noStage("emitted", WeirStream::emitted);
  }

  private static void p24() {
    says("Returns how many events were LATE there.");
    WeirStream x = allSorts();
    x.start();
    offers(x, 0, ev(1, 1, 1), ev(1, 1, 30), ev(1, 1, 2));
    rest(x);
    int[] want = {0, 0, 0, 1, 1, 2, 0, 0, 0};
    for (int i = 0; i < 9; i++) {
      int n = i;
      due(want[n], () -> x.late(n), "late(" + n + ")");
    }
    says("there is no such stage");
    noStage("late", WeirStream::late);
  }

  private static void p25() {
    says("Returns how much it keeps: windows, sessions, or events of a JOIN;");
    WeirStream x = allSorts();
    x.start();
    offers(x, 0, ev(1, 1, 1), ev(2, 1, 3));
    says("of a SOURCE, how many events of its LOG it has not read yet;");
    due(2, () -> x.kept(0), "kept() of a SOURCE");
    x.work(1);
    due(1, () -> x.kept(0), "kept() of a SOURCE that read one");
    rest(x);
    says("of others 0.");
    int[] want = {0, 0, 0, 4, 2, 4, 0, 0, 0};
    for (int i = 0; i < 9; i++) {
      int n = i;
      due(want[n], () -> x.kept(n), "kept(" + n + ")");
      due(0, () -> allSorts().kept(n), "kept(" + n + ") at first");
    }
    WeirStream log = started(0);
    for (int i = 0; i < 150; i++) {
      log.offer(0, 1, 1, 1);
    }
    due(150, () -> log.kept(0), "kept() of a full LOG");
    says("there is no such stage");
    noStage("kept", WeirStream::kept);
  }

  private static void p26() {
    says("Returns whether it is READY.");
    WeirStream x = started(0);
    due(false, () -> x.isReady(0), "isReady() of a SOURCE with nothing to do");
    x.offer(0, 1, 1, 1);
    due(true, () -> x.isReady(0), "isReady() with an event");
    due(false, () -> x.isReady(1), "isReady() of a SINK with nothing there");
    x.work(1);
    due(false, () -> x.isReady(0), "isReady() of a SOURCE that read all");
    due(true, () -> x.isReady(1), "isReady() of a SINK with an item");
    x.checkpoint();
    due(true, () -> x.isReady(0), "isReady() with a barrier to give");
    x.setCapacity(2);
    due(false, () -> x.isReady(0), "isReady() without ROOM");
    rest(x);
    x.close(0);
    due(true, () -> x.isReady(0), "isReady() of one that was closed");
    WeirStream a = allSorts();
    for (int i = 0; i < 9; i++) {
      int n = i;
      due(false, () -> a.isReady(n), "isReady() ahead of start()");
    }
    says("there is no such stage");
    noStage("isReady", WeirStream::isReady);
  }

  private static void p27() {
    says("Returns whether it has ROOM.");
    WeirStream x = new WeirStream();
    x.addSource(1000);
    due(true, () -> x.hasRoom(0), "hasRoom() without channels");
    x.addSink(0);
    x.addSink(0);
    due(true, () -> x.hasRoom(0), "hasRoom() ahead of start()");
    x.start();
    x.setCapacity(1);
    x.offer(0, 1, 1, 1);
    x.work(1);
    due(false, () -> x.hasRoom(0), "hasRoom() with both channels full");
    workAll(x, 1);
    due(false, () -> x.hasRoom(0), "hasRoom() with the second channel full");
    workAll(x, 2);
    due(true, () -> x.hasRoom(0), "hasRoom() with empty channels");
    x.offer(0, 1, 1, 1);
    workAll(x, 0, 2);
    due(false, () -> x.hasRoom(0), "hasRoom() with the first channel full");
    due(true, () -> x.hasRoom(1), "hasRoom() of a SINK");
    says("there is no such stage");
    noStage("hasRoom", WeirStream::hasRoom);
  }

  private static void p28() {
    says("Returns how many items are in that channel;");
    WeirStream x = allSorts();
    x.start();
    x.offer(0, 1, 1, 1);
    due(0, () -> x.queued(1, false), "queued() of a FILTER at first");
    workAll(x, 0);
    due(2, () -> x.queued(1, false), "queued() with an event and a MARK");
    says("whether the channel of its second input is meant");
    due(0, () -> x.queued(6, false), "queued() of a MERGE, first");
    due(2, () -> x.queued(6, true), "queued() of a MERGE, second");
    workAll(x, 1);
    due(1, () -> x.queued(1, false), "queued() behind one item");
    due(2, () -> x.queued(6, true), "queued() of the other channel");
    due(1, () -> x.queued(5, false), "queued() of a JOIN, first");
    due(0, () -> x.queued(5, true), "queued() of a JOIN, second");
    says("-1 without one.");
    due(-1, () -> x.queued(0, false), "queued() of a SOURCE");
    int[] one = {0, 1, 2, 3, 4, 7, 8};
    for (int n : one) {
      due(-1, () -> x.queued(n, true), "queued(" + n + ", true)");
    }
    says("there is no such stage");
    noStage("queued, first", (y, i) -> y.queued(i, false));
    noStage("queued, second", (y, i) -> y.queued(i, true));
  }

  private static void p29() {
    says("Returns whether that channel is BLOCKED;");
    WeirStream x = allSorts();
    x.start();
    x.checkpoint();
    workAll(x, 0, 6);
    due(true, () -> x.isBlocked(6, true), "isBlocked() of a MERGE, second");
    due(false, () -> x.isBlocked(6, false), "isBlocked() of a MERGE, first");
    workAll(x, 1);
    due(false, () -> x.isBlocked(1, false), "isBlocked() of a FILTER");
    workAll(x, 5);
    due(true, () -> x.isBlocked(5, false), "isBlocked() of a JOIN, first");
    due(false, () -> x.isBlocked(5, true), "isBlocked() of a JOIN, second");
    workAll(x, 2, 5);
    due(false, () -> x.isBlocked(5, false), "isBlocked() of a JOIN behind both barriers");
    x.crash();
    due(false, () -> x.isBlocked(6, true), "isBlocked() behind a crash");
    x.checkpoint();
    rest(x);
    due(2, x::complete, "complete()");
    due(false, () -> x.isBlocked(6, true), "isBlocked() behind a checkpoint");
    says("false without one.");
    x.checkpoint();
    workAll(x, 0, 6);
    due(false, () -> x.isBlocked(0, false), "isBlocked() of a SOURCE");
    due(false, () -> x.isBlocked(0, true), "isBlocked() of a SOURCE, second");
    due(false, () -> x.isBlocked(1, true), "isBlocked() of a FILTER, second");
    says("there is no such stage");
    noStage("isBlocked, first", (y, i) -> y.isBlocked(i, false));
    noStage("isBlocked, second", (y, i) -> y.isBlocked(i, true));
  }

  private static void p30() {
    says("another one, or the same");
    says("Returns whether the other one can be reached from the one by channels, one or more "
        + "(so never itself).");
    WeirStream x = allSorts();
    String[] rows = {"011111111", "001111111", "000111111", "000000110", "000000000", "000000001",
        "000000010", "000000000", "000000000"};
    for (int i = 0; i < 9; i++) {
      for (int k = 0; k < 9; k++) {
        int from = i;
        int to = k;
        due(rows[i].charAt(k) == '1', () -> x.leads(from, to), "leads(" + i + ", " + k + ")");
      }
    }
    WeirStream y = chain();
    due(true, () -> y.leads(0, 11), "leads() from the first to the last of 12");
    due(true, () -> y.leads(10, 11), "leads(10, 11)");
    due(false, () -> y.leads(11, 0), "leads() from the last to the first of 12");
    due(false, () -> y.leads(11, 11), "leads(11, 11)");
    due(false, () -> full().leads(0, 11), "leads() of two SOURCEs");
    says("there is no such stage");
    noStage("leads from", (z, i) -> z.leads(i, 0));
    noStage("leads to", (z, i) -> z.leads(0, i));
    noStage("leads from and to", (z, i) -> z.leads(i, i));
  }

  /** A SOURCE, ten MAPs and a SINK, one behind the other. */
  private static WeirStream chain() {
    WeirStream x = new WeirStream();
    x.addSource(0);
    for (int i = 1; i < 11; i++) {
      x.addMap(i - 1, 0, 1);
    }
    x.addSink(10);
    return x;
  }

  private static void p31() {
    says("Returns over how many channels events come to it at most, from a SOURCE on, by the "
        + "longest way;");
    WeirStream x = allSorts();
    int[] want = {0, 1, 2, 3, 3, 3, 4, 5, 4};
    for (int i = 0; i < 9; i++) {
      int n = i;
      due(want[n], () -> x.depthOf(n), "depthOf(" + n + ")");
    }
    due(9, () -> x.addMerge(0, 7 - 1), "addMerge(0, 6)");
    due(10, () -> x.addMerge(6, 0), "addMerge(6, 0)");
    due(5, () -> x.depthOf(9), "depthOf(9), its second way is the longest");
    due(5, () -> x.depthOf(10), "depthOf(10), its first way is the longest");
    due(11, () -> chain().depthOf(11), "depthOf() of the last of 12");
    says("0 for a SOURCE.");
    due(0, () -> full().depthOf(11), "depthOf() of the last of 12 SOURCEs");
    says("there is no such stage");
    noStage("depthOf", WeirStream::depthOf);
  }

  private static void p32() {
    says("Returns the account, as it is now, of the window of this key (of a WINDOW) with the "
        + "smallest begin of those that have this time,");
    WeirStream x = new WeirStream();
    x.addSource(1000);
    x.addWindow(0, 10, 5, 1, 0);
    x.addSession(0, 10, 1);
    x.start();
    due(0, () -> x.accountAt(1, 1, 0), "accountAt() without windows");
    offers(x, 0, ev(1, 7, 12), ev(1, 5, 17));
    rest(x);
    // Windows: 5 to 15 with 7, 10 to 20 with 12, 15 to 25 with 5. A session from 12 to 27.
    int[][] windows = {{4, 0}, {5, 7}, {14, 7}, {15, 12}, {19, 12}, {20, 5}, {24, 5}, {25, 0},
        {LOW, 0}, {HIGH, 0}};
    for (int[] w : windows) {
      due(w[1], () -> x.accountAt(1, 1, w[0]), "accountAt(1, 1, " + w[0] + ")");
    }
    WeirStream below = windowed(10, 5, 1, 0);
    below.offer(0, 1, 3, 2);
    below.work(2);
    due(3, () -> below.accountAt(1, 1, -5), "accountAt() of a window that begins below 0");
    due(0, () -> below.accountAt(1, 1, -6), "accountAt() below that window");
    // As it is now: windows that fired take more, till they are gone.
    WeirStream now = windowed(10, 10, 1, 5);
    offers(now, 0, ev(1, 1, 3), ev(2, 1, 10));
    rest(now);
    due(1, () -> now.accountAt(1, 1, 3), "accountAt() of a window that fired");
    now.offer(0, 1, 2, 4);
    rest(now);
    due(3, () -> now.accountAt(1, 1, 3), "accountAt() of a window that fired twice");
    now.offer(0, 2, 1, 15);
    rest(now);
    due(0, () -> now.accountAt(1, 1, 3), "accountAt() of a window that is gone");

    says("or of the session that has it (from its begin up to its end, itself not counted);");
    int[][] sessions = {{11, 0}, {12, 12}, {26, 12}, {27, 0}, {LOW, 0}, {HIGH, 0}};
    for (int[] s : sessions) {
      due(s[1], () -> x.accountAt(2, 1, s[0]), "accountAt(2, 1, " + s[0] + ")");
    }
    says("0 without one.");
    int[] keys = {0, 2, -1, 100, 129, 257, LOW, HIGH};
    for (int key : keys) {
      due(0, () -> x.accountAt(1, key, 15), "accountAt(1, " + key + ", 15)");
      due(0, () -> x.accountAt(2, key, 15), "accountAt(2, " + key + ", 15)");
    }
    WeirStream mean = windowed(10, 10, 5, 0);
    offers(mean, 0, ev(3, -3, 1), ev(3, -4, 1));
    rest(mean);
    due(-3, () -> mean.accountAt(1, 3, 1), "accountAt() of account 5, cut towards 0");
    says("there is no such stage");
    noStage("accountAt", (y, i) -> y.accountAt(i, 0, 0));
    says("the stage is no WINDOW and no SESSION");
    onlyOf("accountAt", (y, i) -> y.accountAt(i, 0, 0), 3, 4);
  }

  private static void p33() {
    says("Returns the least end of its windows or sessions that is above its mark;");
    WeirStream x = windowed(10, 5, 1, 100);
    x.offer(0, 1, 1, 2);
    rest(x);
    due(5, () -> x.nextEnd(1), "nextEnd() at a mark of 2");
    x.offer(0, 1, 1, 4);
    rest(x);
    due(5, () -> x.nextEnd(1), "nextEnd() at a mark of 4");
    x.offer(0, 1, 1, 5);
    rest(x);
    due(3, () -> x.kept(1), "kept() with lateness");
    due(10, () -> x.nextEnd(1), "nextEnd() at a mark of 5");
    WeirStream s = sessioned(1000, 10, 0);
    offers(s, 0, ev(2, 1, 30), ev(1, 1, 20));
    rest(s);
    due(30, () -> s.nextEnd(1), "nextEnd() of sessions");
    says("-1 without one.");
    due(-1, () -> windowed(10, 5, 1, 100).nextEnd(1), "nextEnd() without windows");
    due(-1, () -> sessioned(0, 10, 1).nextEnd(1), "nextEnd() without sessions");
    WeirStream fired = windowed(10, 10, 1, 100);
    offers(fired, 0, ev(1, 1, 3), ev(1, 1, 9));
    rest(fired);
    due(10, () -> fired.nextEnd(1), "nextEnd() at a mark of 9");
    WeirStream none = new WeirStream();
    none.addSource(0);
    none.addFilter(0, 1, 5);
    none.addWindow(1, 10, 10, 1, 100);
    none.start();
    offers(none, 0, ev(1, 1, 3), ev(1, 9, 10));
    rest(none);
    due(1, () -> none.kept(2), "kept() of a window that fired");
    due(-1, () -> none.nextEnd(2), "nextEnd() with a window whose end is the mark");
    says("there is no such stage");
    noStage("nextEnd", WeirStream::nextEnd);
    says("the stage is no WINDOW and no SESSION");
    onlyOf("nextEnd", WeirStream::nextEnd, 3, 4);
  }

  // ---- what came out

  private static void askSink(String what, BiFunction<WeirStream, Integer, Object> ask) {
    says("there is no such stage");
    noStage(what, ask);
    says("the stage is no SINK");
    onlyOf(what, ask, 7);
  }

  private static void p34() {
    says("Returns how long its OUTPUT is.");
    WeirStream x = started(0);
    due(0, () -> x.outputs(1), "outputs() at first");
    due(0, () -> allSorts().outputs(7), "outputs() ahead of start()");
    offers(x, 0, ev(1, 1, 1), ev(1, 1, 2));
    x.work(2);
    due(1, () -> x.outputs(1), "outputs() behind one event");
    rest(x);
    due(2, () -> x.outputs(1), "outputs(), without MARKs");
    x.crash();
    due(0, () -> x.outputs(1), "outputs() behind a crash");
    askSink("outputs", WeirStream::outputs);
  }

  private static void p35() {
    says("Returns how much of its OUTPUT is COMMITTED.");
    WeirStream x = started(0);
    x.offer(0, 1, 1, 1);
    rest(x);
    due(0, () -> x.committed(1), "committed() without a checkpoint");
    x.checkpoint();
    x.offer(0, 1, 1, 2);
    workAll(x, 0);
    due(0, () -> x.committed(1), "committed() as the checkpoint is not complete");
    rest(x);
    due(2, () -> x.outputs(1), "outputs()");
    due(1, () -> x.committed(1), "committed(): as much as was SAVED");
    x.crash();
    due(1, () -> x.committed(1), "committed() behind a crash");
    due(1, () -> x.outputs(1), "outputs() behind a crash");
    x.checkpoint();
    x.work(1);
    x.crash();
    due(1, () -> x.committed(1), "committed() behind a checkpoint that is gone");
    askSink("committed", WeirStream::committed);
  }

  /** Of a SINK 1 with two places. */
  private static void place(String what, BiFunction<WeirStream, int[], Object> ask, int first, int second) {
    WeirStream x = started(0);
    offers(x, 0, ev(98, -7, 3), ev(1, 70000, 99999));
    rest(x);
    due(first, () -> ask.apply(x, new int[] {1, 0}), what + "(1, 0)");
    due(second, () -> ask.apply(x, new int[] {1, 1}), what + "(1, 1)");
    askSink(what, (y, i) -> ask.apply(y, new int[] {i, 0}));
    says("there is no such place");
    int[] bad = {-1, 2, LOW, HIGH};
    for (int b : bad) {
      refused(x, ARGUMENT, () -> ask.apply(x, new int[] {1, b}), what + "(1, " + b + ")");
    }
    x.crash();
    refused(x, ARGUMENT, () -> ask.apply(x, new int[] {1, 0}), what + "(1, 0) behind a crash");
    rest(x);
    due(first, () -> ask.apply(x, new int[] {1, 0}), what + "(1, 0), once more");
    WeirStream none = allSorts();
    refused(none, ARGUMENT, () -> ask.apply(none, new int[] {7, 0}), what + "(7, 0) of an empty OUTPUT");
    refused(none, ARGUMENT, () -> ask.apply(none, new int[] {7, -1}), what + "(7, -1) of an empty OUTPUT");
  }

  private static void p36() {
    says("a place in its OUTPUT, from 0");
    says("Returns the key of the event there.");
    place("keyAt", (x, a) -> x.keyAt(a[0], a[1]), 98, 1);
  }

  private static void p37() {
    says("Returns the value of the event there.");
    place("valueAt", (x, a) -> x.valueAt(a[0], a[1]), -7, 70000);
  }

  private static void p38() {
    says("Returns the time of the event there.");
    place("timeAt", (x, a) -> x.timeAt(a[0], a[1]), 3, 99999);
    WeirStream far = new WeirStream();
    far.addSource(0);
    for (int i = 1; i <= 10; i++) {
      far.addSession(i - 1, 1000, 0);
    }
    far.addSink(10);
    far.start();
    through(far, "1:1@109990", ev(1, 1, 100000));
  }

  private static void p39() {
    says("Returns the number of the latest checkpoint that is complete;");
    WeirStream x = started(0);
    for (int i = 1; i <= 3; i++) {
      int n = i;
      x.checkpoint();
      due(n - 1, x::complete, "complete() as " + n + " was begun");
      rest(x);
      due(n, x::complete, "complete() behind " + n);
    }
    x.checkpoint();
    x.crash();
    due(3, x::complete, "complete() behind a crash");
    x.checkpoint();
    rest(x);
    due(5, x::complete, "complete() without 4");
    says("0 without one.");
    WeirStream y = started(0);
    due(0, y::complete, "complete() at first");
    y.checkpoint();
    workAll(y, 0);
    due(0, y::complete, "complete() with one that was begun");
    y.crash();
    due(0, y::complete, "complete() behind a crash");
  }

  private static void p40() {
    says("Returns the number of the checkpoint that was begun and is not complete;");
    WeirStream x = started(0);
    x.checkpoint();
    due(1, x::begun, "begun()");
    workAll(x, 0);
    due(1, x::begun, "begun() with the SOURCE SAVED");
    says("0 without one.");
    due(0, () -> started(0).begun(), "begun() at first");
    workAll(x, 1);
    due(0, x::begun, "begun() as it is complete");
    x.checkpoint();
    due(2, x::begun, "begun(), the second one");
    x.crash();
    due(0, x::begun, "begun() behind a crash");
    due(false, () -> x.isReady(0), "isReady() of a SOURCE whose checkpoint is gone");
  }

  private static void p41() {
    says("Returns how many crashes there were.");
    WeirStream x = started(0);
    for (int i = 0; i < 5; i++) {
      int n = i;
      due(n, x::crashes, "crashes()");
      x.crash();
    }
    due(5, x::crashes, "crashes()");
    WeirStream y = allSorts();
    refused(y, STATE, y::crash, "crash ahead of start()");
    due(0, y::crashes, "crashes() behind a refused crash");
  }

  private static void p42() {
    says("Returns how many items were dealt with in all, by work() and by workAt(), also those "
        + "ahead of crashes.");
    WeirStream x = started(0);
    due(0, x::worked, "worked() at first");
    x.offer(0, 1, 1, 1);
    x.work(1);
    x.workAt(1);
    x.workAt(0);
    due(2, x::worked, "worked(): one workAt() did nothing");
    x.crash();
    due(2, x::worked, "worked() behind a crash");
    rest(x);
    due(5, x::worked, "worked(), those ahead of the crash as well");
    x.itemsToRest(5);
    x.offer(0, 1, 1, 2);
    x.outputsIn(1, 5);
    due(5, x::worked, "worked() behind what would be");
    x.work(200);
    due(8, x::worked, "worked() behind work(200) that dealt with 3");
  }

  private static void p43() {
    says("Returns how many items are in all channels.");
    WeirStream x = new WeirStream();
    x.addSource(0);
    x.addSink(0);
    x.addSink(0);
    x.start();
    due(0, x::inFlight, "inFlight() at first");
    x.offer(0, 1, 1, 1);
    due(0, x::inFlight, "inFlight() with an event in the LOG");
    workAll(x, 0);
    due(4, x::inFlight, "inFlight() with an event and a MARK in two channels");
    workAll(x, 1);
    due(3, x::inFlight, "inFlight() behind one item");
    x.checkpoint();
    workAll(x, 0);
    due(5, x::inFlight, "inFlight() with BARRIERs");
    x.crash();
    due(0, x::inFlight, "inFlight() behind a crash");
    WeirStream m = merged(1000);
    offers(m, 1, ev(1, 1, 1), ev(1, 1, 1), ev(1, 1, 1));
    m.offer(0, 1, 1, 1);
    workAll(m, 0, 1, 1, 1);
    due(4, m::inFlight, "inFlight() with one item of the first input, three of the second");
    due(4.0 / 3.0, m::meanQueue, "meanQueue() of the same");
    workAll(m, 2, 2);
    due(4, m::inFlight, "inFlight() with two items of a MERGE");
    due(0, () -> new WeirStream().inFlight(), "inFlight() without stages");
  }

  private static void p44() {
    says("Returns the stage that works next;");
    WeirStream x = new WeirStream();
    x.addSource(1000);
    x.addSource(1000);
    x.addSink(0);
    x.addSink(1);
    x.start();
    x.offer(1, 1, 1, 1);
    due(1, x::next, "next(), the only one");
    x.offer(0, 1, 1, 1);
    due(0, x::next, "next(), the smallest number at first");
    x.work(1);
    due(1, x::next, "next() above 0");
    workAll(x, 2);
    x.offer(0, 1, 1, 1);
    due(0, x::next, "next() above 2: none, so from the first one on");
    workAll(x, 1);
    due(3, x::next, "next() above 1");
    x.offer(1, 1, 1, 1);
    workAll(x, 3, 0, 2, 1, 3);
    x.offer(1, 1, 1, 1);
    workAll(x, 1);
    x.offer(1, 1, 1, 1);
    due(3, x::next, "next() above the one that worked last");
    workAll(x, 3);
    due(1, x::next, "next(), as there is no other");
    says("-1 if none is READY.");
    workAll(x, 1, 3);
    due(-1, x::next, "next() at rest");
    due(-1, () -> allSorts().next(), "next() ahead of start()");
    due(-1, () -> new WeirStream().next(), "next() without stages");
  }

  private static void p45() {
    says("Returns the mean of how many items the channels have, not cut;");
    WeirStream x = new WeirStream();
    x.addSource(0);
    x.addSink(0);
    x.addMap(0, 0, 0);
    x.addMerge(0, 2);
    due(0.0, x::meanQueue, "meanQueue() with empty channels");
    x.start();
    x.offer(0, 1, 1, 1);
    x.work(1);
    due(1.5, x::meanQueue, "meanQueue() with 6 items in 4 channels");
    x.work(1);
    due(1.25, x::meanQueue, "meanQueue() with 5 items in 4 channels");
    WeirStream y = new WeirStream();
    y.addSource(1000);
    y.addSink(0);
    y.addMap(0, 0, 0);
    y.addSink(2);
    y.start();
    y.offer(0, 1, 1, 1);
    y.work(2);
    due(1.0 / 3.0, y::meanQueue, "meanQueue() with 1 item in 3 channels");
    says("0 without channels.");
    due(0.0, () -> new WeirStream().meanQueue(), "meanQueue() without stages");
    due(0.0, () -> full().meanQueue(), "meanQueue() of SOURCEs alone");
  }

  // ---- what would be

  private static void p46() {
    says("Returns how many work() would deal with till no stage is READY;");
    WeirStream y = started(0);
    y.offer(0, 1, 1, 1);
    String before = look(y);
    due(3, () -> y.itemsToRest(200), "itemsToRest(200)");
    due(3, () -> y.itemsToRest(3), "itemsToRest(3)");
    due(before, () -> look(y), "all that can be asked behind itemsToRest()");
    says("-1 if one still is behind most items;");
    due(-1, () -> y.itemsToRest(2), "itemsToRest(2)");
    due(-1, () -> y.itemsToRest(1), "itemsToRest(1)");
    due(3, () -> y.work(200), "work(200)");
    due(0, () -> y.itemsToRest(1), "itemsToRest(1) at rest");
    y.checkpoint();
    due(2, () -> y.itemsToRest(200), "itemsToRest() with BARRIERs");
    due(1, y::begun, "begun() behind itemsToRest()");
    y.close(0);
    due(4, () -> y.itemsToRest(200), "itemsToRest() of one that was closed");
    due(4, () -> y.work(200), "work(200)");
    WeirStream much = started(1000);
    for (int i = 0; i < 101; i++) {
      much.offer(0, 1, 1, 1);
    }
    due(-1, () -> much.itemsToRest(200), "itemsToRest(200) of 202 items");
    much.work(2);
    due(200, () -> much.itemsToRest(200), "itemsToRest(200) of 200 items");
    due(-1, () -> much.itemsToRest(199), "itemsToRest(199) of 200 items");
    says("0 if it was not started.");
    due(0, () -> allSorts().itemsToRest(1), "itemsToRest(1) ahead of start()");
    due(0, () -> allSorts().itemsToRest(200), "itemsToRest(200) ahead of start()");
    due(0, () -> new WeirStream().itemsToRest(1), "itemsToRest(1) without stages");
    says("most is not 1 to 200");
    int[] bad = {0, 201, -1, LOW, HIGH};
    for (int b : bad) {
      refused(much, ARGUMENT, () -> much.itemsToRest(b), "itemsToRest(" + b + ")");
      WeirStream n = allSorts();
      refused(n, ARGUMENT, () -> n.itemsToRest(b), "itemsToRest(" + b + ") ahead of start()");
    }
    lookAhead();
  }

  /** Windows, sessions, joins, turns and channels are taken along, also BLOCKED ones. */
  private static void lookAhead() {
    lookAheadOfMuch();
    for (int steps = 0; steps < 40; steps++) {
      WeirStream a = allSorts();
      a.start();
      a.setCapacity(2);
      offers(a, 0, ev(1, 1, 1), ev(1, 1, 9), ev(2, 3, 30));
      if (steps > 0) {
        a.work(steps);
      }
      a.checkpoint();
      a.work(5);
      int told = a.itemsToRest(200);
      int first = a.outputsIn(7, 9);
      int last = a.outputsIn(7, 200);
      int done = a.work(9);
      due(first, () -> a.outputs(7), "outputs() behind work(9), as outputsIn() told");
      due(told, () -> done + a.work(200), "work() as itemsToRest() told");
      due(last, () -> a.outputs(7), "outputs() at rest, as outputsIn() told");
    }
  }

  /** Eleven windows and eight kept events, which all come out behind the look. */
  private static void lookAheadOfMuch() {
    WeirStream x = new WeirStream();
    x.addSource(1000);
    x.addSource(1000);
    x.addJoin(0, 1, 0, 0, 0);
    x.addWindow(0, 1, 1, 0, 0);
    x.addMerge(2, 3);
    x.addSink(4);
    x.start();
    for (int i = 0; i < 10; i++) {
      x.offer(0, 1, i, 5);
      x.offer(0, i + 2, 1, 7);
      rest(x);
    }
    due(16, () -> x.kept(2), "kept() of the JOIN, eight of them of key 1");
    due(11, () -> x.kept(3), "kept() of the WINDOW");
    x.offer(1, 1, 1, 5);
    x.close(0);
    x.close(1);
    due(0, () -> x.outputsIn(5, 1), "outputsIn(5, 1)");
    int told = x.itemsToRest(200);
    due(19, () -> x.outputsIn(5, 200), "outputsIn(5, 200)");
    due(told, () -> x.work(200), "work(200), as itemsToRest() told");
    due(19, () -> x.outputs(5), "outputs(5), as outputsIn() told");
  }

  private static void p47() {
    says("Returns how long its OUTPUT would be behind work() of as many;");
    WeirStream y = started(0);
    offers(y, 0, ev(1, 1, 1), ev(1, 2, 2));
    String before = look(y);
    int[][] want = {{1, 0}, {2, 1}, {3, 1}, {4, 1}, {5, 2}, {200, 2}};
    for (int[] w : want) {
      due(w[1], () -> y.outputsIn(1, w[0]), "outputsIn(1, " + w[0] + ")");
    }
    due(before, () -> look(y), "all that can be asked behind outputsIn()");
    rest(y);
    row(y, 1, "1:1@1 1:2@2");
    due(2, () -> y.outputsIn(1, 1), "outputsIn() at rest");
    says("as long as it is, if it was not started.");
    due(0, () -> allSorts().outputsIn(7, 1), "outputsIn(7, 1) ahead of start()");
    due(0, () -> allSorts().outputsIn(8, 200), "outputsIn(8, 200) ahead of start()");
    askSink("outputsIn", (x, i) -> x.outputsIn(i, 1));
    says("items is not 1 to 200");
    int[] bad = {0, 201, -1, LOW, HIGH};
    for (int b : bad) {
      refused(y, ARGUMENT, () -> y.outputsIn(1, b), "outputsIn(1, " + b + ")");
      WeirStream n = allSorts();
      refused(n, ARGUMENT, () -> n.outputsIn(7, b), "outputsIn(7, " + b + ") ahead of start()");
    }
  }

  private static void p48() {
    says("Returns how much of its OUTPUT a crash now would lose.");
    WeirStream x = started(0);
    due(0, () -> x.wouldLose(1), "wouldLose() of an empty OUTPUT");
    due(0, () -> allSorts().wouldLose(7), "wouldLose() ahead of start()");
    offers(x, 0, ev(1, 1, 1), ev(1, 1, 2));
    rest(x);
    due(2, () -> x.wouldLose(1), "wouldLose() without a checkpoint");
    x.checkpoint();
    due(2, () -> x.wouldLose(1), "wouldLose() with one that was begun");
    rest(x);
    due(0, () -> x.wouldLose(1), "wouldLose() behind a checkpoint");
    x.offer(0, 1, 1, 3);
    rest(x);
    due(1, () -> x.wouldLose(1), "wouldLose() of one more");
    due(3, () -> x.outputs(1), "outputs() behind wouldLose()");
    x.crash();
    due(2, () -> x.outputs(1), "outputs() behind a crash");
    due(0, () -> x.wouldLose(1), "wouldLose() behind a crash");
    askSink("wouldLose", WeirStream::wouldLose);
  }

  private static void p49() {
    says("Returns how many events of its LOG would be read once more behind a crash now: its "
        + "POSITION less the one that the latest complete checkpoint SAVED");
    WeirStream x = started(0);
    offers(x, 0, ev(1, 1, 1), ev(1, 1, 2));
    due(0, () -> x.wouldReplay(0), "wouldReplay() with nothing read");
    says("(less 0, if there is none).");
    workAll(x, 0);
    due(1, () -> x.wouldReplay(0), "wouldReplay() without a checkpoint");
    x.checkpoint();
    workAll(x, 0, 0);
    due(2, () -> x.wouldReplay(0), "wouldReplay() with one that was begun");
    due(0, () -> allSorts().wouldReplay(0), "wouldReplay() ahead of start()");
    rest(x);
    due(1, () -> x.wouldReplay(0), "wouldReplay() behind a checkpoint");
    x.crash();
    due(0, () -> x.wouldReplay(0), "wouldReplay() behind a crash");
    due(1, () -> x.kept(0), "kept() behind a crash");
    says("there is no such stage");
    noStage("wouldReplay", WeirStream::wouldReplay);
    says("the stage is no SOURCE");
    onlyOf("wouldReplay", WeirStream::wouldReplay, 0);
  }

  private static long fold(long... row) {
    long d = 58014;
    for (long x : row) {
      d = d * 31 + x;
    }
    return d;
  }

  private static void p50() {
    says("Computes a checksum. A number d starts with 58014; for each of the following numbers x, "
        + "d becomes d * 31 + x, which wraps around as a 64-bit integer (whether something is so "
        + "counts 1 or 0):");
    says("Returns d.");
    says("stages(), isStarted(), complete(), begun(), crashes(), worked(), inFlight(), next();");
    WeirStream x = new WeirStream();
    due(fold(0, 0, 0, 0, 0, 0, 0, -1), x::digest, "digest() of a new object");
    says("then for each stage sortOf(), markOf(), taken(), emitted(), late(), kept(), isReady(), "
        + "hasRoom(), queued() and isBlocked() of the first channel, then both of the second one, "
        + "depthOf(),");
    x.addSource(0);
    due(fold(1, 0, 0, 0, 0, 0, 0, -1, 0, -1, 0, 0, 0, 0, 0, 1, -1, 0, -1, 0, 0), x::digest,
        "digest() with a SOURCE");
    says("and of a WINDOW or SESSION nextEnd(),");
    says("of a SINK outputs(), committed(), and of each place of its OUTPUT keyAt(), valueAt(), timeAt().");
    x.addWindow(0, 10, 10, 1, 0);
    x.addSink(1);
    x.addMerge(0, 1);
    x.start();
    offers(x, 0, ev(3, -4, 5), ev(3, -5, 17));
    rest(x);
    x.checkpoint();
    workAll(x, 0, 3);
    // Stage: sort, mark, taken, emitted, late, kept, ready, room, both channels, depth, what is its own.
    due(fold(4, 1, 0, 1, 0, x.worked(), 1, 1,
        0, 17, 2, 2, 0, 0, 0, 1, -1, 0, -1, 0, 0,
        3, 17, 2, 1, 0, 1, 1, 1, 1, 0, -1, 0, 1, 20,
        7, 17, 1, 0, 0, 0, 0, 1, 0, 0, -1, 0, 2, 1, 0, 3, -4, 9,
        6, 17, 3, 3, 0, 0, 0, 1, 0, 1, 0, 0, 2), x::digest, "digest() in the middle of a checkpoint");
    rest(x);
    x.crash();
    due(fold(4, 1, 1, 0, 1, x.worked(), 0, -1,
        0, 17, 2, 2, 0, 0, 0, 1, -1, 0, -1, 0, 0,
        3, 17, 2, 1, 0, 1, 0, 1, 0, 0, -1, 0, 1, 20,
        7, 17, 1, 0, 0, 0, 0, 1, 0, 0, -1, 0, 2, 1, 1, 3, -4, 9,
        6, 17, 3, 3, 0, 0, 0, 1, 0, 0, 0, 0, 2), x::digest, "digest() behind a crash");
    // LATE events, and the second channel BLOCKED.
    WeirStream l = joined(0, 0, 0, 0);
    offers(l, 0, ev(1, 1, 9), ev(1, 1, 8));
    offers(l, 1, ev(1, 1, 9), ev(1, 1, 7), ev(1, 1, 6));
    rest(l);
    l.checkpoint();
    workAll(l, 1, 2);
    l.offer(1, 1, 1, 5);
    workAll(l, 1);
    due(fold(4, 1, 0, 1, 0, l.worked(), 1, 0,
        0, 9, 2, 2, 0, 0, 1, 1, -1, 0, -1, 0, 0,
        0, 9, 4, 4, 0, 0, 0, 1, -1, 0, -1, 0, 0,
        5, 9, 5, 1, 3, 2, 0, 1, 0, 0, 1, 1, 1,
        7, 9, 1, 0, 0, 0, 0, 1, 0, 0, -1, 0, 2, 1, 0, 1, 2, 9), l::digest, "digest() of a JOIN");
    WeirStream s = sessioned(0, 10, 0);
    due(fold(3, 1, 0, 0, 0, 0, 0, -1,
        0, -1, 0, 0, 0, 0, 0, 1, -1, 0, -1, 0, 0,
        4, -1, 0, 0, 0, 0, 0, 1, 0, 0, -1, 0, 1, -1,
        7, -1, 0, 0, 0, 0, 0, 1, 0, 0, -1, 0, 2, 0, 0), s::digest, "digest() with a SESSION");
  }

  public static void main(String[] args) throws Exception {
    readDocument();
    section("What it is");
    whatItIs();
    for (int i = 1; i <= 50; i++) {
      section("Promise " + i);
      PromisesTest.class.getDeclaredMethod("p" + i).invoke(null);
    }
    tellUnsaid("Promise");
    finish("all promises hold");
  }
}

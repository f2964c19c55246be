import java.util.List;
import java.util.function.Supplier;

/** Each sentence of the document's "Terms" with a test of its own, its boundary cases above all. */
public final class TermsTest extends Sentences {
  // ---- numbers

  private static void numbers() {
    says("All numbers are whole; values have 32 bits and wrap around.");
    through(mapped(0, 1), "1:-2147483648@0 1:0@1", ev(1, HIGH, 0), ev(1, -1, 1));
    through(mapped(0, LOW), "1:-2147483648@0 1:2147483647@1", ev(1, 0, 0), ev(1, -1, 1));
    through(mapped(1, -1), "1:-2147483648@0 1:-2147483647@1", ev(1, LOW, 0), ev(1, HIGH, 1));
    through(mapped(1, 65536), "1:0@0 1:-65536@1", ev(1, 65536, 0), ev(1, -1, 1));
    joinGives(0, HIGH, 1, LOW);
    joinGives(1, LOW, 1, HIGH);
    joinGives(1, 0, LOW, LOW);
    joinGives(2, LOW, -1, LOW);
    joinGives(2, 65536, 65537, 65536);
    through(windowed(10, 10, 1, 0), "1:-2147483648@9", ev(1, HIGH, 0), ev(1, 1, 0));
    through(sessioned(0, 10, 1), "1:2147483647@9", ev(1, LOW, 0), ev(1, -1, 0));
    through(filtered(3, -1), "1:-2147483648@0", ev(1, LOW, 0));

    says("a // b is cut downwards (towards less).");
    through(mapped(2, 10), "1:11@0 0:10@1 9:-1@2 0:-10@3 9:-11@4",
        ev(5, 11, 0), ev(5, 10, 1), ev(5, -1, 2), ev(5, -10, 3), ev(5, -11, 4));
    through(mapped(2, 100), "52:-2147483648@0 47:2147483647@1", ev(5, LOW, 0), ev(5, HIGH, 1));
  }

  private static void joinGives(int rule, int left, int right, int want) {
    WeirStream x = joined(0, 0, 0, rule);
    x.offer(0, 1, left, 5);
    x.offer(1, 1, right, 5);
    rest(x);
    row(x, 3, "1:" + want + "@5");
  }

  // ---- 1

  private static void stages() {
    says("STAGES. At most 12, numbered from 0 as they are added.");
    WeirStream x = new WeirStream();
    due(0, () -> x.addSource(0), "the stage 0");
    due(1, () -> x.addSink(0), "the stage 1");
    due(2, () -> x.addMap(0, 0, 0), "the stage 2");
    for (int i = 3; i < 12; i++) {
      int n = i;
      due(n, () -> x.addSource(0), "the stage " + n);
    }
    List<Supplier<Object>> adds = List.of(() -> x.addSource(0), () -> x.addFilter(0, 0, 0),
        () -> x.addMap(0, 0, 0), () -> x.addWindow(0, 1, 1, 0, 0), () -> x.addSession(0, 1, 0),
        () -> x.addJoin(0, 3, 0, 0, 0), () -> x.addMerge(0, 3), () -> x.addSink(0));
    for (int i = 0; i < adds.size(); i++) {
      refused(x, STATE, adds.get(i), "a 13th stage of sort " + i);
    }
    due(12, x::start, "start() with 12 stages");

    says("An EVENT has a key (0 to 99), a value and a time (0 to 100000, as it is offered).");
    WeirStream e = started(0);
    refused(e, ARGUMENT, () -> e.offer(0, -1, 0, 0), "key -1");
    refused(e, ARGUMENT, () -> e.offer(0, 100, 0, 0), "key 100");
    refused(e, ARGUMENT, () -> e.offer(0, 0, 0, -1), "time -1");
    refused(e, ARGUMENT, () -> e.offer(0, 0, 0, 100001), "time 100001");
    through(e, "0:-2147483648@0 99:2147483647@100000", ev(0, LOW, 0), ev(99, HIGH, 100000));
    // Only as it is offered: what a WINDOW or SESSION emits may be later.
    through(windowed(1000, 1000, 0, 0), "99:1@100999", ev(99, 1, 100000));
    through(sessioned(0, 1000, 0), "99:1@100999", ev(99, 1, 100000));

    says("A stage, but a SOURCE, has one or two INPUTS, which are stages with smaller numbers, "
        + "but no SINKs; from each input to it leads a CHANNEL.");
    WeirStream i = new WeirStream();
    refused(i, INDEX, () -> i.addSink(0), "a SINK behind itself");
    i.addSource(0);
    refused(i, INDEX, () -> i.addMap(1, 0, 0), "a MAP behind itself");
    refused(i, INDEX, () -> i.addMerge(0, 1), "a MERGE behind itself");
    i.addSink(0);
    refused(i, ARGUMENT, () -> i.addMap(1, 0, 0), "a MAP behind a SINK");
    i.addMap(0, 0, 0);
    i.addMerge(0, 2);
    int[][] channels = {{-1, -1}, {0, -1}, {0, -1}, {0, 0}};
    for (int k = 0; k < 4; k++) {
      int n = k;
      due(channels[n][0], () -> i.queued(n, false), "queued(" + n + ", false)");
      due(channels[n][1], () -> i.queued(n, true), "queued(" + n + ", true)");
    }
  }

  private static void emitting() {
    says("What a stage EMITS goes to the end of all channels that lead from it, one copy each, "
        + "also beyond the capacity (see 2), if it emits several items at one go.");
    WeirStream x = new WeirStream();
    x.addSource(0);
    x.addSink(0);
    x.addSink(0);
    x.start();
    x.setCapacity(1);
    x.offer(0, 1, 1, 5);
    workAll(x, 0);
    due(2, () -> x.queued(1, false), "an event and a MARK with a capacity of 1");
    due(2, () -> x.queued(2, false), "the copies in the other channel");
    workAll(x, 1);
    due(2, () -> x.queued(2, false), "the other channel, as one copy was taken");
    // 16 joined at one go, and three windows with the MARK that fires them.
    WeirStream j = joined(1000, 0, 0, 3);
    j.setCapacity(1);
    for (int i = 0; i < 16; i++) {
      j.offer(0, 1, i, 5);
      workAll(j, 0, 2);
    }
    j.offer(1, 1, 0, 5);
    workAll(j, 1, 2);
    due(16, () -> j.queued(3, false), "16 events at one go with a capacity of 1");
    WeirStream w = windowed(1000, 10, 10, 0, 0);
    w.setCapacity(1);
    for (int key = 1; key <= 3; key++) {
      w.offer(0, key, 1, 5);
      workAll(w, 0, 1);
    }
    w.close(0);
    workAll(w, 0, 1);
    due(4, () -> w.queued(2, false), "three windows and a MARK with a capacity of 1");
    // Without a channel nothing is in the way, and nothing is kept.
    WeirStream alone = new WeirStream();
    alone.addSource(0);
    alone.start();
    alone.setCapacity(1);
    offers(alone, 0, ev(1, 1, 1), ev(1, 1, 2), ev(1, 1, 3));
    due(3, () -> alone.work(200), "work() of a SOURCE alone");
    due(0, alone::inFlight, "inFlight() of a SOURCE alone");

    says("A channel has items: events; MARKS, each with a time (-1 to 1000000); BARRIERS.");
    WeirStream c = started(0);
    c.offer(0, 1, 1, 5);
    workAll(c, 0);
    due(2, () -> c.queued(1, false), "an event and a MARK");
    c.checkpoint();
    workAll(c, 0);
    due(3, () -> c.queued(1, false), "a BARRIER as well");
    c.close(0);
    workAll(c, 0);
    due(4, () -> c.queued(1, false), "the last MARK as well");
    rest(c);
    due(1000000, () -> c.markOf(1), "markOf() of the SINK");

    says("Each stage has a MARK of its own, -1 at first.");
    WeirStream a = allSorts();
    for (int i = 0; i < a.stages(); i++) {
      int n = i;
      due(-1, () -> a.markOf(n), "markOf(" + n + ")");
    }
    WeirStream z = started(0);
    z.offer(0, 1, 1, 0);
    due(3, () -> z.work(200), "work() with an event at 0: a MARK of 0 is above -1");
    due(0, () -> z.markOf(0), "markOf(0)");
  }

  private static void sources() {
    says("SOURCE: it has a LOG, a row of at most 150 events, which are offered from outside; "
        + "a POSITION, how many of them it has read (0 at first); and a slack, 0 to 1000.");
    WeirStream x = merged(1000);
    due(0, () -> x.taken(0), "the POSITION at first");
    for (int i = 1; i <= 150; i++) {
      int n = i;
      due(n, () -> x.offer(0, 1, n, 5), "offer " + n);
    }
    refused(x, STATE, () -> x.offer(0, 1, 1, 5), "offer 151");
    due(1, () -> x.offer(1, 1, 1, 5), "offer 1 to the other SOURCE");
    rest(x);
    due(150, () -> x.taken(0), "the POSITION at the end");
    refused(x, STATE, () -> x.offer(0, 1, 1, 5), "offer 151, as all were read");
    x.crash();
    due(0, () -> x.taken(0), "the POSITION behind a crash");
    refused(x, STATE, () -> x.offer(0, 1, 1, 5), "offer 151 behind a crash");
    WeirStream s = new WeirStream();
    refused(s, ARGUMENT, () -> s.addSource(-1), "slack -1");
    refused(s, ARGUMENT, () -> s.addSource(1001), "slack 1001");
    due(0, () -> s.addSource(0), "slack 0");
    due(1, () -> s.addSource(1000), "slack 1000");
    s.start();
    offers(s, 0, ev(1, 1, 1000));
    offers(s, 1, ev(1, 1, 1000));
    rest(s);
    due(1000, () -> s.markOf(0), "the mark with slack 0");
    due(0, () -> s.markOf(1), "the mark with slack 1000");
  }

  private static void filtersAndMaps() {
    says("FILTER, with a test and a number n: an event is emitted, if:");
    through(filtered(0, 0), "", ev(1, -1, 0));
    says("test 0, its value is n or more;");
    through(filtered(0, 5), "1:5@1 1:6@2", ev(1, 4, 0), ev(1, 5, 1), ev(1, 6, 2));
    through(filtered(0, LOW), "1:-2147483648@0", ev(1, LOW, 0));
    through(filtered(0, HIGH), "1:2147483647@1", ev(1, HIGH - 1, 0), ev(1, HIGH, 1));
    says("1, its value is less than n;");
    through(filtered(1, 5), "1:4@0", ev(1, 4, 0), ev(1, 5, 1), ev(1, 6, 2));
    through(filtered(1, LOW), "", ev(1, LOW, 0));
    through(filtered(1, HIGH), "1:-2147483648@0", ev(1, LOW, 0), ev(1, HIGH, 1));
    says("2, its key is n;");
    through(filtered(2, 5), "5:1@1", ev(4, 5, 0), ev(5, 1, 1), ev(6, 5, 2));
    through(filtered(2, 0), "0:7@0", ev(0, 7, 0), ev(99, 0, 1));
    through(filtered(2, 99), "99:7@1", ev(0, 99, 0), ev(99, 7, 1));
    through(filtered(2, 256), "", ev(0, 256, 0));
    through(filtered(2, -1), "", ev(99, -1, 0));
    says("3, its value - (value // n) * n is 0 (n is not 0).");
    through(filtered(3, 3), "1:0@0 1:3@3 1:-3@5",
        ev(1, 0, 0), ev(1, 1, 1), ev(1, 2, 2), ev(1, 3, 3), ev(1, -2, 4), ev(1, -3, 5));
    through(filtered(3, -3), "1:0@0 1:3@3 1:-3@5",
        ev(1, 0, 0), ev(1, 1, 1), ev(1, 2, 2), ev(1, 3, 3), ev(1, -2, 4), ev(1, -3, 5));
    through(filtered(3, 1), "1:-2147483648@0 1:2147483647@1", ev(1, LOW, 0), ev(1, HIGH, 1));
    through(filtered(3, -1), "1:-2147483648@0 1:2147483647@1", ev(1, LOW, 0), ev(1, HIGH, 1));
    through(filtered(3, LOW), "1:-2147483648@0 1:0@2", ev(1, LOW, 0), ev(1, HIGH, 1), ev(1, 0, 2));
    WeirStream f = allSorts();
    refused(f, ARGUMENT, () -> f.addFilter(0, 3, 0), "the test 3 with n 0");
    due(9, () -> f.addFilter(0, 2, 0), "the test 2 with n 0");

    says("MAP, with a rule and a number n: an event is emitted with: rule 0, n added to its value;");
    through(mapped(0, 0), "7:3@0", ev(7, 3, 0));
    through(mapped(0, -5), "7:-2@0 7:2147483643@1", ev(7, 3, 0), ev(7, LOW, 1));
    says("1, its value times n;");
    through(mapped(1, 0), "7:0@0", ev(7, 3, 0));
    through(mapped(1, 3), "7:9@0 7:2147483645@1", ev(7, 3, 0), ev(7, HIGH, 1));
    says("2, the key value - (value // n) * n (n is 1 to 100);");
    through(mapped(2, 1), "0:3@0 0:-1@1", ev(7, 3, 0), ev(7, -1, 1));
    through(mapped(2, 100), "99:99@0 0:100@1 99:-1@2", ev(7, 99, 0), ev(7, 100, 1), ev(7, -1, 2));
    WeirStream m = allSorts();
    refused(m, ARGUMENT, () -> m.addMap(0, 2, 0), "the rule 2 with n 0");
    refused(m, ARGUMENT, () -> m.addMap(0, 2, 101), "the rule 2 with n 101");
    due(9, () -> m.addMap(0, 1, 101), "the rule 1 with n 101");
    says("3, its key as its value.");
    through(mapped(3, 5), "0:0@0 99:99@1", ev(0, HIGH, 0), ev(99, -1, 1));
  }

  private static void otherSorts() {
    says("WINDOW, with a size, a step, an account and a lateness: see 3.");
    through(windowed(1, 1, 5, 0), "4:7@100000", ev(4, 7, 100000));
    through(windowed(1000, 1000, 5, 1000), "4:7@100999", ev(4, 7, 100000));
    says("SESSION, with a gap and an account: see 3.");
    through(sessioned(0, 1, 5), "4:7@100000", ev(4, 7, 100000));
    says("JOIN, of two different inputs, the left and the right one, with two numbers, "
        + "before and after, and a rule: see 4.");
    WeirStream j = allSorts();
    refused(j, ARGUMENT, () -> j.addJoin(0, 0, 0, 0, 0), "a JOIN of the same two");
    WeirStream turned = new WeirStream();
    turned.addSource(0);
    turned.addSource(0);
    turned.addSink(turned.addJoin(1, 0, 0, 0, 1));
    turned.start();
    turned.offer(0, 1, 1, 5);
    turned.offer(1, 1, 10, 5);
    rest(turned);
    row(turned, 3, "1:9@5");
    says("MERGE, of two different inputs: each event is emitted as it is.");
    refused(j, ARGUMENT, () -> j.addMerge(0, 0), "a MERGE of the same two");
    through(merged(0), "0:-2147483648@0 99:2147483647@100000", ev(0, LOW, 0), ev(99, HIGH, 100000));
    says("SINK: its OUTPUT is a row of events, to the end of which each event comes; see 5.");
    WeirStream s = started(0);
    row(s, 1, "");
    s.checkpoint();
    rest(s);
    row(s, 1, "");
    through(s, "1:2@9 1:1@3 1:2@9", ev(1, 2, 9), ev(1, 1, 3), ev(1, 2, 9));
  }

  // ---- 2

  private static void room() {
    says("WORK. There is a capacity, 1 to 20 (8, at first).");
    WeirStream x = new WeirStream();
    refused(x, ARGUMENT, () -> x.setCapacity(0), "setCapacity(0)");
    refused(x, ARGUMENT, () -> x.setCapacity(21), "setCapacity(21)");
    due(8, () -> x.setCapacity(1), "setCapacity(1)");
    due(1, () -> x.setCapacity(20), "setCapacity(20)");

    says("A stage has ROOM, if each channel that leads from it has fewer items than the capacity.");
    for (int capacity : new int[] {1, 7, 8, 9, 20}) {
      WeirStream c = new WeirStream();
      c.addSource(1000);
      c.addSink(0);
      c.addSink(0);
      c.start();
      if (capacity != 8) {
        c.setCapacity(capacity);
      }
      for (int i = 1; i < capacity; i++) {
        c.offer(0, 1, 1, 1);
        workAll(c, 0);
      }
      due(true, () -> c.hasRoom(0), "hasRoom() one below the capacity " + capacity);
      c.offer(0, 1, 1, 1);
      workAll(c, 0);
      due(false, () -> c.hasRoom(0), "hasRoom() at the capacity " + capacity);
      workAll(c, 1);
      due(false, () -> c.hasRoom(0), "hasRoom() with one channel at the capacity " + capacity);
      workAll(c, 2);
      due(true, () -> c.hasRoom(0), "hasRoom() with both channels below the capacity " + capacity);
    }
    WeirStream less = started(1000);
    offers(less, 0, ev(1, 1, 1), ev(1, 1, 1), ev(1, 1, 1), ev(1, 1, 1));
    workAll(less, 0, 0, 0);
    less.setCapacity(2);
    due(false, () -> less.workAt(0), "workAt() with more than the capacity there");
    workAll(less, 1);
    due(false, () -> less.hasRoom(0), "hasRoom() with the capacity there");
    workAll(less, 1);
    due(true, () -> less.hasRoom(0), "hasRoom() with one less");
    due(true, () -> less.hasRoom(1), "hasRoom() of a SINK");
  }

  private static void readySources() {
    says("A SOURCE is READY, if it has ROOM, and has something to do, which is the first of these "
        + "that is so:");
    WeirStream x = started(1000);
    x.setCapacity(1);
    due(false, () -> x.isReady(0), "isReady() with nothing to do");
    x.checkpoint();
    x.close(0);
    due(true, () -> x.isReady(0), "isReady() with ROOM");
    workAll(x, 0);
    due(false, () -> x.isReady(0), "isReady() without ROOM, to end");
    workAll(x, 1);
    due(true, () -> x.isReady(0), "isReady() with ROOM, to end");
    WeirStream y = started(1000);
    y.setCapacity(1);
    offers(y, 0, ev(1, 1, 1), ev(1, 1, 1));
    workAll(y, 0);
    due(false, () -> y.isReady(0), "isReady() without ROOM, with an event");
    y.checkpoint();
    due(false, () -> y.isReady(0), "isReady() without ROOM, with a barrier to give");

    says("(a) it is to give the barrier of a checkpoint (see 5): it does;");
    WeirStream a = started(0);
    a.offer(0, 1, 1, 5);
    a.close(0);
    a.checkpoint();
    workAll(a, 0);
    due(0, () -> a.taken(0), "taken() behind the barrier");
    due(1, () -> a.queued(1, false), "queued() behind the barrier");
    workAll(a, 0);
    due(1, () -> a.taken(0), "taken() behind the event");
    due(3, () -> a.queued(1, false), "queued() behind the event");

    says("(b) there is an event in its LOG at POSITION: POSITION is 1 more, the event is emitted; "
        + "then, if its time less slack is above the source's mark, this becomes the mark, "
        + "and a MARK of it is emitted;");
    WeirStream b = started(10);
    offers(b, 0, ev(1, 1, 9), ev(1, 1, 10), ev(1, 1, 10), ev(1, 1, 11), ev(1, 1, 10));
    int[][] steps = {{-1, 1}, {0, 3}, {0, 4}, {1, 6}, {1, 7}};
    for (int i = 0; i < 5; i++) {
      int n = i;
      workAll(b, 0);
      due(n + 1, () -> b.taken(0), "the POSITION behind event " + n);
      due(steps[n][0], () -> b.markOf(0), "the mark behind event " + n);
      due(steps[n][1], () -> b.queued(1, false), "the items behind event " + n);
    }
    due(false, () -> b.isReady(0), "isReady() at the end of the LOG");

    says("(c) it was closed, and its mark is not 1000000: its mark becomes that, "
        + "and a MARK of it is emitted.");
    WeirStream c = started(0);
    c.offer(0, 1, 1, 5);
    c.close(0);
    workAll(c, 0);
    due(5, () -> c.markOf(0), "the mark as there was an event still");
    workAll(c, 0);
    due(1000000, () -> c.markOf(0), "the last mark");
    due(3, () -> c.queued(1, false), "the items with the last MARK");
    due(false, () -> c.workAt(0), "workAt() behind the last mark");
    rest(c);
    c.checkpoint();
    rest(c);
    c.crash();
    due(false, () -> c.isReady(0), "isReady() as the last mark was SAVED");
  }

  private static void readyStages() {
    says("Another stage is READY, if it has ROOM, and one of its channels has an item and is not "
        + "BLOCKED (see 5).");
    WeirStream x = merged(1000);
    x.setCapacity(1);
    due(false, () -> x.isReady(2), "isReady() with empty channels");
    offers(x, 1, ev(1, 1, 1), ev(1, 1, 1));
    workAll(x, 1);
    due(true, () -> x.isReady(2), "isReady() with an item in the second channel");
    workAll(x, 2, 1);
    due(false, () -> x.isReady(2), "isReady() without ROOM");
    workAll(x, 3);
    due(true, () -> x.isReady(2), "isReady() with ROOM");
    workAll(x, 2, 3);
    x.checkpoint();
    workAll(x, 0, 2);
    due(false, () -> x.isReady(2), "isReady() with the first channel BLOCKED, nothing in the second");
    x.offer(0, 1, 1, 1);
    workAll(x, 0);
    due(false, () -> x.isReady(2), "isReady() with an item in the BLOCKED channel alone");
    workAll(x, 1);
    due(true, () -> x.isReady(2), "isReady() with the barrier in the other one");

    says("It takes the first item of such a channel; with two inputs, of that from which it did "
        + "not take last, if that one has one and is not BLOCKED, otherwise of the other one "
        + "(ahead of its first: the first input, likewise); a MARK and a BARRIER count as well.");
    WeirStream t = merged(1000);
    offers(t, 0, ev(1, 1, 1), ev(1, 2, 1), ev(1, 3, 1));
    offers(t, 1, ev(2, 4, 1), ev(2, 5, 1));
    workAll(t, 0, 0, 0, 1, 1);
    int[][] turns = {{2, 2}, {2, 1}, {1, 1}, {1, 0}, {0, 0}};
    for (int i = 0; i < 5; i++) {
      workAll(t, 2);
      left(t, turns[i][0], turns[i][1]);
    }
    rest(t);
    row(t, 3, "1:1@1 2:4@1 1:2@1 2:5@1 1:3@1");
    // Ahead of its first the first input, but where that has none, the second one.
    WeirStream second = merged(1000);
    second.offer(1, 1, 1, 1);
    workAll(second, 1, 2);
    offers(second, 0, ev(1, 1, 1));
    offers(second, 1, ev(1, 1, 1));
    workAll(second, 0, 1, 2);
    left(second, 0, 1);
    marksAndBarriersCount();
  }

  private static void left(WeirStream x, int first, int second) {
    due(first, () -> x.queued(2, false), "queued() of the first input");
    due(second, () -> x.queued(2, true), "queued() of the second input");
  }

  private static void marksAndBarriersCount() {
    WeirStream m = merged(0);
    offers(m, 0, ev(1, 1, 1), ev(1, 1, 2));
    offers(m, 1, ev(1, 1, 1), ev(1, 1, 2));
    workAll(m, 0, 0, 1, 1, 2, 2, 2, 2);
    left(m, 2, 2);
    workAll(m, 2);
    left(m, 1, 2);
    // The barrier of the second input is taken last, so the first one is next.
    WeirStream b = merged(1000);
    b.offer(0, 1, 1, 1);
    workAll(b, 0);
    b.checkpoint();
    workAll(b, 0, 2, 2, 1, 2);
    b.offer(0, 1, 2, 1);
    b.offer(1, 1, 3, 1);
    workAll(b, 0, 1, 2);
    left(b, 0, 1);
    // With the first input BLOCKED all comes from the second one, up to its barrier.
    WeirStream k = merged(1000);
    offers(k, 1, ev(1, 1, 1), ev(1, 2, 1));
    workAll(k, 1, 1);
    k.checkpoint();
    k.offer(0, 1, 3, 1);
    workAll(k, 0, 0, 1, 2, 2, 2);
    left(k, 1, 1);
    workAll(k, 2);
    left(k, 1, 0);
    workAll(k, 2);
    left(k, 0, 0);
  }

  private static void marks() {
    says("An event is dealt with as its sort says.");
    WeirStream e = merged(0);
    e.offer(1, 1, 1, 7);
    workAll(e, 1, 2);
    due(1, () -> e.taken(2), "taken() behind an event");
    due(-1, () -> e.markOf(2), "markOf() behind an event: only a MARK raises it");

    says("A MARK: for each input the stage keeps the time of the latest MARK of it (-1 at first); "
        + "the least of these is its mark, if that is greater than it was: then what its sort says "
        + "is done, and then a MARK of it is emitted; otherwise nothing.");
    WeirStream x = merged(0);
    x.setCapacity(20);
    int[][] steps = {{0, 4, -1}, {1, 0, 0}, {1, 3, 3}, {1, 4, 4}, {1, 9, 4}, {0, 8, 8}, {0, 9, 9}};
    int marks = 0;
    int before = -1;
    for (int[] s : steps) {
      x.offer(s[0], 1, 1, s[1]);
      workAll(x, s[0], 2, 2);
      due(s[2], () -> x.markOf(2), "markOf() behind a MARK of " + s[1] + " of input " + s[0]);
      marks += s[2] > before ? 1 : 0;
      before = s[2];
      int items = marks;
      due(items, () -> x.queued(3, false) - x.emitted(2), "the MARKs that were emitted");
    }
    // -1 at first: one input alone raises no mark, whichever it is, also not to 0.
    for (int input = 0; input < 2; input++) {
      WeirStream one = merged(0);
      one.offer(input, 1, 1, 0);
      one.offer(input, 1, 1, 9);
      rest(one);
      due(-1, () -> one.markOf(2), "markOf() with MARKs of input " + input + " alone");
      one.offer(1 - input, 1, 1, 0);
      rest(one);
      due(0, () -> one.markOf(2), "markOf() with a MARK of 0 of the other input");
    }
    // What the sort says comes first, the MARK behind it.
    WeirStream w = windowed(5, 5, 0, 0);
    offers(w, 0, ev(1, 1, 1), ev(1, 1, 5));
    workAll(w, 0, 0, 1, 1, 1, 1);
    due(3, () -> w.queued(2, false), "a MARK, a window and a MARK");
    workAll(w, 2, 2);
    due(1, () -> w.outputs(2), "outputs() ahead of the second MARK");
    due(1, () -> w.markOf(2), "markOf() ahead of the second MARK");
    workAll(w, 2);
    due(5, () -> w.markOf(2), "markOf() behind the second MARK");

    says("A BARRIER: see 5.");
    WeirStream b = merged(0);
    b.checkpoint();
    workAll(b, 0, 1, 2, 2);
    due(-1, () -> b.markOf(2), "markOf() behind barriers");
    due(0, () -> b.taken(2), "taken() behind barriers");
    due(1, () -> b.queued(3, false), "one barrier for both");
  }

  private static void turns() {
    says("Work is done by the stage that is READY and has the smallest number above that of the "
        + "one that worked last; without one, by the one with the smallest number of all that are "
        + "READY.");
    WeirStream x = new WeirStream();
    for (int i = 0; i < 12; i++) {
      x.addSource(1000);
    }
    x.start();
    offers(x, 3, ev(1, 1, 1), ev(1, 1, 1), ev(1, 1, 1));
    offers(x, 11, ev(1, 1, 1), ev(1, 1, 1));
    int[] order = {3, 11, 3, 11, 3};
    for (int n : order) {
      int before = x.taken(n);
      due(n, x::next, "next()");
      due(1, () -> x.work(1), "work(1)");
      due(before + 1, () -> x.taken(n), "taken() of the one that was next");
    }
    due(-1, x::next, "next() as none is READY");
    due(0, () -> x.work(1), "work(1) as none is READY");
    x.offer(3, 1, 1, 1);
    due(3, x::next, "next(): the one that worked last, as there is no other");
    x.offer(0, 1, 1, 1);
    due(0, x::next, "next(): none above 3, so the smallest of all");
    x.offer(4, 1, 1, 1);
    due(4, x::next, "next(): above 3");

    says("(Ahead of all work it is as if the last stage of all had worked last.)");
    WeirStream first = full();
    first.start();
    first.offer(11, 1, 1, 1);
    due(11, first::next, "next() with the last stage alone");
    first.offer(1, 1, 1, 1);
    due(1, first::next, "next() with a smaller one");
    first.offer(0, 1, 1, 1);
    due(0, first::next, "next() with the smallest one");
  }

  // ---- 3

  private static void accounts() {
    int[][] some = {ev(1, 6, 3), ev(1, 3, 5), ev(1, -2, 5), ev(1, 4, 1)};
    says("WINDOWS. An account of events is: 0, how many;");
    accountIs(0, "4", some);
    accountIs(0, "1", ev(1, LOW, 0));
    says("1, the sum of their values;");
    accountIs(1, "11", some);
    accountIs(1, "-2147483648", ev(1, HIGH, 0), ev(1, 1, 0));
    says("2, the least value;");
    accountIs(2, "-2", some);
    accountIs(2, "-2147483648", ev(1, HIGH, 0), ev(1, LOW, 0), ev(1, 0, 0));
    accountIs(2, "2147483647", ev(1, HIGH, 0));
    says("3, the greatest one;");
    accountIs(3, "6", some);
    accountIs(3, "2147483647", ev(1, LOW, 0), ev(1, HIGH, 0), ev(1, 0, 0));
    accountIs(3, "-2147483648", ev(1, LOW, 0));
    says("4, the value of the one with the greatest time, of several the one that came to the "
        + "stage last;");
    accountIs(4, "-2", some);
    accountIs(4, "7", ev(1, 7, 9), ev(1, 8, 8), ev(1, 9, 0));
    accountIs(4, "-5", ev(1, 7, 0), ev(1, 8, 0), ev(1, -5, 0));
    says("5, the sum of their values / how many, cut towards 0 (the sum, wrapped, as it is).");
    accountIs(5, "2", some);
    accountIs(5, "-1", ev(1, -3, 0), ev(1, 0, 0));
    accountIs(5, "0", ev(1, -1, 0), ev(1, 0, 0));
    accountIs(5, "-1073741824", ev(1, HIGH, 0), ev(1, 1, 0));
    accountIs(5, "715827882", ev(1, LOW, 0), ev(1, -1, 0), ev(1, 0, 0));
    accountIs(5, "-2147483648", ev(1, LOW, 0));
  }

  /** A window and a session that take these events, all of one key and with times from 0 to 9. */
  private static void accountIs(int account, String want, int[]... events) {
    through(windowed(1000, 10, 10, account, 0), "1:" + want + "@9", events);
    WeirStream x = sessioned(1000, 1000, account);
    offers(x, 0, events);
    rest(x);
    due(want, () -> "" + x.accountAt(1, 1, 9), "accountAt() of the session");
  }

  private static void windowNumbers() {
    says("WINDOW: size (1 to 1000), step (1 to size, and size not above 8 * step), lateness (0 to 1000).");
    WeirStream x = allSorts();
    int[][] bad = {{0, 1, 0}, {1001, 1000, 0}, {10, 0, 0}, {10, 11, 0}, {9, 1, 0}, {801, 100, 0},
        {10, 10, -1}, {10, 10, 1001}, {1, HIGH, 0}, {8, 1 << 29, 0}};
    for (int[] b : bad) {
      refused(x, ARGUMENT, () -> x.addWindow(0, b[0], b[1], 0, b[2]),
          "size " + b[0] + ", step " + b[1] + ", lateness " + b[2]);
    }
    int[][] good = {{1, 1, 0}, {8, 1, 0}, {1000, 1000, 1000}};
    for (int i = 0; i < 3; i++) {
      int n = i;
      due(9 + n, () -> x.addWindow(0, good[n][0], good[n][1], 0, good[n][2]), "size " + good[n][0]);
    }

    says("For each multiple s of step (also below 0) with s <= time < s + size an event belongs "
        + "to the window of its key from s on, whose end is s + size.");
    through(windowed(10, 5, 1, 0), "1:3@4 1:3@9", ev(1, 3, 0));
    through(windowed(10, 5, 1, 0), "1:3@4 1:3@9", ev(1, 3, 4));
    through(windowed(10, 5, 1, 0), "1:3@9 1:3@14", ev(1, 3, 5));
    through(windowed(10, 10, 1, 0), "1:3@9", ev(1, 3, 9));
    through(windowed(10, 10, 1, 0), "1:3@19", ev(1, 3, 10));
    through(windowed(1, 1, 1, 0), "1:3@0", ev(1, 3, 0));
    through(windowed(9, 2, 1, 0), "1:3@0 1:3@2 1:3@4 1:3@6 1:3@8", ev(1, 3, 0));
    through(windowed(9, 2, 1, 0), "1:3@2 1:3@4 1:3@6 1:3@8", ev(1, 3, 1));
    through(windowed(8, 1, 1, 0), "1:3@0 1:3@1 1:3@2 1:3@3 1:3@4 1:3@5 1:3@6 1:3@7", ev(1, 3, 0));
    through(windowed(1000, 125, 1, 0),
        "1:3@124 1:3@249 1:3@374 1:3@499 1:3@624 1:3@749 1:3@874 1:3@999", ev(1, 3, 124));
    through(windowed(1000, 999, 1, 0), "1:3@0 1:3@999", ev(1, 3, 0));
    through(windowed(1000, 999, 1, 0), "1:3@999", ev(1, 3, 1));
    through(windowed(10, 10, 1, 0), "1:3@9 2:4@9", ev(2, 4, 0), ev(1, 3, 9));
    WeirStream far = windowed(1000, 8, 1, 0, 0);
    far.offer(0, 1, 1, 100000);
    rest(far);
    due(8, () -> far.kept(1), "kept() of an event at 100000");
    due(99000, () -> far.markOf(1), "markOf()");
    due(100001, () -> far.nextEnd(1), "nextEnd()");
  }

  /** Offers one event at a time of key 9 to bring the WINDOW's or SESSION's mark to it. */
  private static void markAt(WeirStream x, int time) {
    x.offer(0, 9, 1, time);
    rest(x);
    due(time, () -> x.markOf(1), "the mark that the test wants");
  }

  private static void lateness() {
    says("By rising s: if the stage's mark is end + lateness or more, the window does not take it;");
    for (int lateness : new int[] {0, 3, 1000}) {
      WeirStream x = windowed(10, 10, 1, lateness);
      markAt(x, 9 + lateness);
      x.offer(0, 1, 5, 4);
      rest(x);
      due(5, () -> x.accountAt(1, 1, 4), "accountAt() one below end + lateness " + lateness);
      due(0, () -> x.late(1), "late() one below end + lateness " + lateness);
      WeirStream y = windowed(10, 10, 1, lateness);
      markAt(y, 10 + lateness);
      y.offer(0, 1, 5, 4);
      rest(y);
      due(0, () -> y.accountAt(1, 1, 4), "accountAt() at end + lateness " + lateness);
      due(1, () -> y.late(1), "late() at end + lateness " + lateness);
    }

    says("otherwise it does, and if the mark is end or more, the window FIRES at once.");
    WeirStream n = windowed(10, 10, 1, 5);
    markAt(n, 9);
    n.offer(0, 1, 5, 4);
    rest(n);
    row(n, 2, "");
    WeirStream f = windowed(10, 10, 1, 5);
    markAt(f, 10);
    f.offer(0, 1, 5, 4);
    rest(f);
    row(f, 2, "1:5@9");
    f.offer(0, 1, 6, 3);
    rest(f);
    row(f, 2, "1:5@9 1:11@9");
    // Two windows at once, by rising begins.
    WeirStream two = windowed(10, 5, 0, 1000);
    markAt(two, 30);
    two.offer(0, 1, 1, 12);
    rest(two);
    row(two, 2, "1:1@14 1:1@19");

    says("If none took it, it is LATE.");
    WeirStream l = windowed(10, 5, 0, 0);
    markAt(l, 9);
    // Of -5 to 5 and 0 to 10 the second one takes it.
    l.offer(0, 1, 1, 4);
    rest(l);
    due(0, () -> l.late(1), "late() as one window took it");
    due(1, () -> l.accountAt(1, 1, 4), "accountAt() of that window");
    markAt(l, 10);
    l.offer(0, 1, 1, 4);
    rest(l);
    due(1, () -> l.late(1), "late() as none took it");
    due(4, () -> l.taken(1), "taken(), the LATE one as well");
  }

  private static void firing() {
    says("As the mark rises, all windows whose end is not above the mark now, but was above it "
        + "ahead of that, FIRE, by rising ends, then by rising keys;");
    WeirStream x = windowed(1000, 10, 5, 0, 20);
    offers(x, 0, ev(3, 1, 7), ev(1, 1, 12), ev(2, 1, 7), ev(2, 1, 2), ev(99, 1, 7), ev(0, 1, 12));
    rest(x);
    row(x, 2, "");
    due(11, () -> x.kept(1), "kept() ahead of the mark");
    // Ends: 5 (key 2), 10 (keys 2, 3, 99; and 2 from time 2), 15 (0, 1, 2, 3, 99), 20 (0, 1).
    x.offer(0, 50, 1, 1009);
    rest(x);
    row(x, 2, "2:1@4");
    x.offer(0, 50, 1, 1010);
    rest(x);
    row(x, 2, "2:1@4 2:2@9 3:1@9 99:1@9");
    x.offer(0, 50, 1, 1020);
    rest(x);
    row(x, 2, "2:1@4 2:2@9 3:1@9 99:1@9 0:1@14 1:1@14 2:1@14 3:1@14 99:1@14 0:1@19 1:1@19");

    says("then those whose end + lateness is not above the mark are gone.");
    WeirStream g = windowed(1000, 10, 10, 0, 5);
    g.offer(0, 1, 1, 3);
    int[][] marks = {{9, 1}, {10, 1}, {14, 1}, {15, 0}, {16, 0}};
    for (int[] m : marks) {
      g.offer(0, 1, 1, 1000 + m[0]);
      rest(g);
      due(m[1], () -> g.accountAt(1, 1, 3), "accountAt() as the mark is " + m[0]);
    }
    due(1, () -> g.outputs(2), "outputs(): it fired once");
    WeirStream at = windowed(0, 10, 10, 0, 0);
    at.offer(0, 1, 1, 3);
    markAt(at, 10);
    due(1, () -> at.kept(1), "kept(): without lateness it fires and is gone at once");
    row(at, 2, "1:1@9");

    says("To FIRE: an event with the key, the account of all events that the window took, "
        + "and the time end - 1 is emitted.");
    through(windowed(1000, 10, 5, 1, 0), "0:7@4 0:15@9 99:5@9 0:8@14 99:5@14",
        ev(0, 7, 4), ev(0, 8, 5), ev(99, 5, 9));
    // All that it took, also what it took as it had fired.
    through(windowed(0, 10, 10, 1, 100), "1:1@9 1:3@9 1:7@9 2:1@29",
        ev(1, 1, 9), ev(2, 1, 20), ev(1, 2, 0), ev(1, 4, 0));

    says("(Windows that took nothing are not there.)");
    WeirStream t = windowed(0, 10, 10, 0, 0);
    due(0, () -> t.kept(1), "kept() at first");
    due(-1, () -> t.nextEnd(1), "nextEnd() at first");
    t.close(0);
    rest(t);
    row(t, 2, "");
    WeirStream one = windowed(1000, 10, 10, 0, 0);
    one.offer(0, 1, 1, 55);
    rest(one);
    due(1, () -> one.kept(1), "kept() of one event at 55");
    due(0, () -> one.accountAt(1, 2, 55), "accountAt() of another key");
    due(0, () -> one.accountAt(1, 1, 45), "accountAt() of the window ahead of it");
  }

  private static void sessions() {
    says("SESSION: gap (1 to 1000).");
    WeirStream x = allSorts();
    refused(x, ARGUMENT, () -> x.addSession(0, 0, 0), "gap 0");
    refused(x, ARGUMENT, () -> x.addSession(0, 1001, 0), "gap 1001");
    due(9, () -> x.addSession(0, 1, 0), "gap 1");
    due(10, () -> x.addSession(0, 1000, 0), "gap 1000");

    says("A session has a key, a begin and an end. An event alone would be one with its time as "
        + "begin, and time + gap as end.");
    for (int gap : new int[] {1, 10, 1000}) {
      WeirStream a = sessioned(1000, gap, 1);
      a.offer(0, 7, 5, 20);
      rest(a);
      int[][] looks = {{19, 0}, {20, 5}, {19 + gap, 5}, {20 + gap, 0}};
      for (int[] l : looks) {
        due(l[1], () -> a.accountAt(1, 7, l[0]), "accountAt(" + l[0] + ") with gap " + gap);
      }
      due(20 + gap, () -> a.nextEnd(1), "nextEnd() with gap " + gap);
      due(0, () -> a.accountAt(1, 6, 20), "accountAt() of another key");
    }

    says("With it all sessions of its key whose begin is below its end, and whose end is above its "
        + "begin, grow together: with the least begin, the greatest end, and all their events "
        + "(which came as they came).");
    growTogether("1:1@29 1:1@39", ev(1, 1, 20), ev(1, 1, 30));
    growTogether("1:2@38", ev(1, 1, 20), ev(1, 1, 29));
    growTogether("1:1@19 1:1@29", ev(1, 1, 20), ev(1, 1, 10));
    growTogether("1:2@29", ev(1, 1, 20), ev(1, 1, 11));
    growTogether("1:2@29", ev(1, 1, 20), ev(1, 1, 20));
    growTogether("1:1@29 2:1@29", ev(2, 1, 20), ev(1, 1, 20));
    growTogether("1:3@36", ev(1, 1, 15), ev(1, 1, 27), ev(1, 1, 21));
    growTogether("1:1@24 1:1@35 1:1@45", ev(1, 1, 15), ev(1, 1, 36), ev(1, 1, 26));
    // The least begin and the greatest end may both be those of the session.
    growTogether("1:3@28 1:1@38", ev(1, 1, 10), ev(1, 1, 19), ev(1, 1, 14), ev(1, 1, 29));
    WeirStream last = sessioned(1000, 10, 4);
    through(last, "1:3@39", ev(1, 1, 30), ev(1, 2, 14), ev(1, 3, 30), ev(1, 4, 22));
  }

  /** Sessions with a gap of 10, their account counts. */
  private static void growTogether(String want, int[]... events) {
    through(sessioned(1000, 10, 0), want, events);
  }

  private static void lateSessions() {
    says("If the end of what comes of it is not above the stage's mark, the event is LATE, "
        + "and nothing is done.");
    WeirStream x = sessioned(0, 10, 1);
    markAt(x, 20);
    x.offer(0, 1, 5, 10);
    rest(x);
    due(1, () -> x.late(1), "late() with an end of 20 at a mark of 20");
    due(1, () -> x.kept(1), "kept() behind a LATE one");
    due(0, () -> x.outputs(2), "outputs() behind a LATE one");
    x.offer(0, 1, 5, 11);
    rest(x);
    due(1, () -> x.late(1), "late() with an end of 21 at a mark of 20");
    due(5, () -> x.accountAt(1, 1, 11), "accountAt() of that one");
    // Its own end is not above the mark, but that of the session that it grows together with is.
    x.offer(0, 1, 7, 2);
    rest(x);
    due(1, () -> x.late(1), "late() of one that grows together with another");
    due(12, () -> x.accountAt(1, 1, 2), "accountAt() of both");
    x.offer(0, 2, 7, 2);
    rest(x);
    due(2, () -> x.late(1), "late() of the same with another key");

    says("As the mark rises, all sessions whose end is not above it FIRE (as windows do), "
        + "by rising ends, then keys, then begins, and are gone.");
    WeirStream f = sessioned(1000, 10, 1);
    offers(f, 0, ev(3, 1, 5), ev(1, 2, 5), ev(2, 3, 4), ev(0, 4, 6), ev(1, 5, 20));
    f.offer(0, 50, 1, 1014);
    rest(f);
    row(f, 2, "2:3@13");
    due(5, () -> f.kept(1), "kept() as the mark is 14");
    f.offer(0, 50, 1, 1016);
    rest(f);
    row(f, 2, "2:3@13 1:2@14 3:1@14 0:4@15");
    due(2, () -> f.kept(1), "kept() as the mark is 16");
    f.close(0);
    rest(f);
    row(f, 2, "2:3@13 1:2@14 3:1@14 0:4@15 1:5@29 50:2@1025");
    due(0, () -> f.kept(1), "kept() behind the last mark");
  }

  // ---- 4

  private static void joins() {
    says("JOIN. It keeps events of both inputs, each in the order in which they came.");
    WeirStream x = joined(1000, 1000, 1000, 3);
    offers(x, 0, ev(1, 1, 30), ev(1, 2, 10), ev(1, 3, 20));
    rest(x);
    x.offer(1, 1, 0, 15);
    rest(x);
    due(4, () -> x.kept(2), "kept() of both inputs");
    row(x, 3, "1:1@30 1:2@15 1:3@20");

    says("An event whose time is below the stage's mark is LATE.");
    WeirStream l = joined(0, 1000, 1000, 0);
    offers(l, 0, ev(1, 1, 10));
    offers(l, 1, ev(1, 1, 10));
    rest(l);
    l.offer(0, 1, 1, 10);
    l.offer(1, 1, 1, 10);
    rest(l);
    due(0, () -> l.late(2), "late() of times at the mark");
    l.offer(0, 1, 1, 9);
    l.offer(1, 1, 1, 9);
    rest(l);
    due(2, () -> l.late(2), "late() of times below the mark");
    due(4, () -> l.kept(2), "kept(), not the LATE ones");
    due(4, () -> l.outputs(3), "outputs(), not of the LATE ones");
    due(6, () -> l.taken(2), "taken(), the LATE ones as well");

    says("Otherwise, for each event kept of the other input, in order, with the same key, and so "
        + "that left time - before <= right time <= left time + after (0 to 1000 each): an event "
        + "is emitted with the key, the later one of both times, and the value by rule "
        + "0: left + right, 1: left - right, 2: left * right, 3: left;");
    joinNumbers();
    meets(3, 2, 20, 17, true);
    meets(3, 2, 20, 16, false);
    meets(3, 2, 20, 22, true);
    meets(3, 2, 20, 23, false);
    meets(0, 0, 20, 20, true);
    meets(0, 0, 20, 19, false);
    meets(0, 0, 20, 21, false);
    meets(1000, 0, 1000, 0, true);
    meets(1000, 0, 1001, 0, false);
    meets(0, 1000, 0, 1000, true);
    meets(0, 1000, 0, 1001, false);
    meets(1000, 1000, 0, 0, true);
    String[] values = {"1:9@20", "1:5@20", "1:14@20", "1:7@20"};
    for (int rule = 0; rule < 4; rule++) {
      for (int first = 0; first < 2; first++) {
        WeirStream r = joined(1000, 5, 5, rule);
        r.offer(first, 1, first == 0 ? 7 : 2, first == 0 ? 20 : 18);
        rest(r);
        r.offer(1 - first, 1, first == 0 ? 2 : 7, first == 0 ? 18 : 20);
        r.offer(1 - first, 2, 9, 20);
        rest(r);
        row(r, 3, values[rule]);
      }
    }
    joinKeeps();
  }

  private static void joinNumbers() {
    WeirStream x = allSorts();
    int[][] bad = {{-1, 0, 0}, {1001, 0, 0}, {0, -1, 0}, {0, 1001, 0}, {0, 0, -1}, {0, 0, 4}};
    for (int[] b : bad) {
      refused(x, ARGUMENT, () -> x.addJoin(0, 1, b[0], b[1], b[2]),
          "before " + b[0] + ", after " + b[1] + ", rule " + b[2]);
    }
    due(9, () -> x.addJoin(0, 1, 0, 0, 0), "before 0, after 0, rule 0");
    due(10, () -> x.addJoin(0, 1, 1000, 1000, 3), "before 1000, after 1000, rule 3");
  }

  /** Whichever of both comes first. */
  private static void meets(int before, int after, int left, int right, boolean is) {
    for (int first = 0; first < 2; first++) {
      WeirStream x = joined(1000, before, after, 0);
      x.offer(first, 1, 1, first == 0 ? left : right);
      rest(x);
      x.offer(1 - first, 1, 1, first == 0 ? right : left);
      rest(x);
      row(x, 3, is ? "1:2@" + Math.max(left, right) : "");
    }
  }

  private static void joinKeeps() {
    says("then it is kept itself, and if 17 are kept of its input by that, the one of these that "
        + "came first is gone.");
    for (int input = 0; input < 2; input++) {
      int own = input;
      WeirStream x = joined(1000, 1000, 1000, 2);
      x.setCapacity(20);
      for (int i = 1; i <= 16; i++) {
        x.offer(own, 1, i, 5);
        rest(x);
      }
      due(16, () -> x.kept(2), "kept() of 16 of one input");
      x.offer(own, 2, 17, 5);
      rest(x);
      due(16, () -> x.kept(2), "kept() of 17 of one input");
      x.offer(1 - own, 1, 1, 5);
      rest(x);
      due(17, () -> x.kept(2), "kept() of both inputs");
      StringBuilder want = new StringBuilder();
      for (int i = 2; i <= 16; i++) {
        want.append(i == 2 ? "" : " ").append("1:").append(i).append("@5");
      }
      row(x, 3, want.toString());
      for (int i = 2; i <= 17; i++) {
        x.offer(1 - own, 50, 1, 5);
        rest(x);
      }
      due(32, () -> x.kept(2), "kept() of 17 of each input");
    }

    says("As the mark rises, left events with time + after below it, and right events with "
        + "time + before below it, are gone.");
    // Whichever place they have among those that are kept: of each input 30, 10 and 20, 10.
    WeirStream some = joined(0, 5, 2, 0);
    offers(some, 0, ev(1, 1, 10));
    offers(some, 1, ev(2, 1, 10));
    rest(some);
    int[] times = {40, 10, 30, 20, 10};
    for (int i = 0; i < 5; i++) {
      some.offer(0, 3, 1, times[i]);
      rest(some);
    }
    due(7, () -> some.kept(2), "kept() at a mark of 10");
    some.offer(1, 4, 1, 23);
    rest(some);
    due(3, () -> some.kept(2), "kept() at a mark of 23: 40, 30 and the right 23");
    offers(some, 1, ev(4, 1, 60), ev(4, 1, 41), ev(4, 1, 42));
    rest(some);
    due(4, () -> some.kept(2), "kept() at a mark of 40: left 40, right 60, 41 and 42");
    keptAt(12, 2);
    keptAt(13, 1);
    keptAt(15, 1);
    keptAt(16, 0);
  }

  /** A left and a right event at 10, before 5 and after 2; how many are kept at a mark. */
  private static void keptAt(int mark, int want) {
    WeirStream x = joined(0, 5, 2, 0);
    x.offer(0, 1, 1, 10);
    x.offer(1, 2, 1, 10);
    // The keys and times are such that these two are kept always.
    x.offer(0, 3, 1, mark);
    x.offer(1, 4, 1, mark);
    rest(x);
    due(mark, () -> x.markOf(2), "markOf() of the JOIN");
    due(want + 2, () -> x.kept(2), "kept() at a mark of " + mark);
  }

  // ---- 5

  private static void checkpoints() {
    says("CHECKPOINTS. They are numbered from 1.");
    WeirStream x = merged(1000);
    due(0, x::begun, "begun() ahead of the first");
    due(1, x::checkpoint, "checkpoint()");

    says("As one is begun, each SOURCE is to give its barrier: it emits a BARRIER, and is SAVED.");
    due(true, () -> x.isReady(0), "isReady(0)");
    due(true, () -> x.isReady(1), "isReady(1)");
    workAll(x, 0);
    left(x, 1, 0);
    due(false, () -> x.isReady(0), "isReady(0) behind its barrier");
    due(true, () -> x.isReady(1), "isReady(1), whose barrier is to come");
    workAll(x, 1);
    left(x, 1, 1);
    due(0, () -> x.emitted(0), "emitted(): a BARRIER is no event");
    WeirStream alone = new WeirStream();
    alone.addSource(0);
    alone.start();
    alone.checkpoint();
    due(1, alone::begun, "begun() of a SOURCE alone");
    workAll(alone, 0);
    due(1, alone::complete, "complete() as the only stage is SAVED");
    due(0, alone::begun, "begun() as the only stage is SAVED");

    says("At another stage with one input that takes a BARRIER: it is SAVED, and emits it.");
    WeirStream m = mapped(0, 1);
    m.offer(0, 1, 1, 5);
    m.checkpoint();
    workAll(m, 0, 0, 1);
    due(1, () -> m.queued(2, false), "queued() of the SINK with the barrier");
    due(false, () -> m.isBlocked(1, false), "isBlocked() of one input");
    workAll(m, 1, 2);
    due(1, m::complete, "complete() as the SINK took the barrier");
    due(1, () -> m.taken(1), "taken() behind the barrier");
    workAll(m, 1);
    m.crash();
    due(0, () -> m.taken(1), "taken() as it was SAVED");

    says("With two inputs: the channel from which it took the first one is BLOCKED;");
    workAll(x, 2);
    due(true, () -> x.isBlocked(2, false), "isBlocked() of the first input");
    due(false, () -> x.isBlocked(2, true), "isBlocked() of the second input");
    due(0, () -> x.queued(3, false), "queued() of the SINK");
    WeirStream s = merged(1000);
    s.checkpoint();
    workAll(s, 1, 2);
    due(false, () -> s.isBlocked(2, false), "isBlocked() of the first input, the second one's came first");
    due(true, () -> s.isBlocked(2, true), "isBlocked() of the second input");

    says("as it took that of the other one, too, no channel is BLOCKED any more, it is SAVED, "
        + "and emits the BARRIER.");
    workAll(x, 2);
    due(false, () -> x.isBlocked(2, false), "isBlocked() of the first input");
    due(false, () -> x.isBlocked(2, true), "isBlocked() of the second input");
    due(1, () -> x.queued(3, false), "queued() of the SINK");
    due(1, x::begun, "begun() as the SINK is not SAVED");
    workAll(s, 0, 2);
    due(false, () -> s.isBlocked(2, true), "isBlocked() of the second input");
    due(1, () -> s.queued(3, false), "queued() of the SINK");
    completing(x);
  }

  private static void completing(WeirStream x) {
    says("As all stages are SAVED, the checkpoint is complete: it is the latest one, and of each "
        + "SINK as much of its OUTPUT as was SAVED is COMMITTED.");
    due(0, x::complete, "complete() as the SINK is not SAVED");
    workAll(x, 3);
    due(1, x::complete, "complete()");
    due(0, () -> x.committed(3), "committed() of an empty OUTPUT");
    WeirStream two = new WeirStream();
    two.addSource(1000);
    two.addSink(0);
    two.addSink(0);
    two.start();
    two.offer(0, 1, 1, 1);
    workAll(two, 0, 1, 2);
    two.checkpoint();
    two.offer(0, 1, 2, 1);
    // The first SINK takes the barrier and goes on, the second one is behind.
    workAll(two, 0, 0, 1, 1);
    due(2, () -> two.outputs(1), "outputs() of the first SINK");
    due(0, () -> two.committed(1), "committed() ahead of the last one");
    workAll(two, 2);
    due(1, () -> two.committed(1), "committed() of the first SINK: as much as was SAVED");
    due(1, () -> two.committed(2), "committed() of the second SINK");
    // A stage without a way to a SINK is waited for, too.
    WeirStream side = new WeirStream();
    side.addSource(0);
    side.addSink(0);
    side.addMap(0, 0, 0);
    side.start();
    side.checkpoint();
    workAll(side, 0, 1);
    due(0, side::complete, "complete() as the MAP is not SAVED");
    workAll(side, 2);
    due(1, side::complete, "complete() as the MAP is SAVED");
  }

  private static void saved() {
    says("What is SAVED of a stage is all that it has: its mark, those of its inputs, from which "
        + "input it took last, its windows, sessions, events, POSITION, how many it took, emitted "
        + "and were LATE;");
    WeirStream x = allSorts();
    x.start();
    offers(x, 0, ev(1, 1, 20), ev(1, 2, 3), ev(1, 4, 21));
    rest(x);
    String[] before = new String[9];
    for (int i = 0; i < 9; i++) {
      before[i] = ofStage(x, i);
    }
    x.checkpoint();
    rest(x);
    for (int i = 0; i < 9; i++) {
      int n = i;
      due(before[n], () -> ofStage(x, n), "stage " + n + " behind the checkpoint");
    }
    offers(x, 0, ev(1, 8, 22), ev(1, 16, 2), ev(1, 32, 50));
    rest(x);
    x.checkpoint();
    x.work(5);
    due(1, x::crash, "crash()");
    for (int i = 1; i < 9; i++) {
      int n = i;
      due(before[n], () -> ofStage(x, n), "stage " + n + " behind the crash");
    }
    due(3, () -> x.taken(0), "the POSITION behind the crash");
    due(21, () -> x.markOf(0), "the SOURCE's mark behind the crash");
    savedInputs();
    savedMuch();

    says("but not its LOG, nor whether it was closed;");
    WeirStream l = started(0);
    l.offer(0, 1, 1, 1);
    rest(l);
    l.checkpoint();
    rest(l);
    l.offer(0, 1, 2, 2);
    l.close(0);
    l.crash();
    due(1, () -> l.kept(0), "kept(): the LOG is as long as it was");
    refused(l, STATE, () -> l.offer(0, 1, 1, 3), "offer behind the crash");
    refused(l, STATE, () -> l.close(0), "close behind the crash");
    rest(l);
    row(l, 1, "1:1@1 1:2@2");
    due(1000000, () -> l.markOf(1), "markOf() of the SINK");

    says("of a SINK also how long its OUTPUT is.");
    WeirStream s = started(0);
    offers(s, 0, ev(1, 1, 1), ev(1, 2, 2));
    rest(s);
    s.checkpoint();
    rest(s);
    offers(s, 0, ev(1, 3, 3));
    rest(s);
    s.crash();
    due(2, () -> s.outputs(1), "outputs() behind the crash");
    due(2, () -> s.taken(1), "taken() behind the crash");
  }

  private static String ofStage(WeirStream x, int stage) {
    StringBuilder all = new StringBuilder();
    int[] row = {x.markOf(stage), x.taken(stage), x.emitted(stage), x.late(stage), x.kept(stage)};
    for (int n : row) {
      all.append(n).append(' ');
    }
    if (x.sortOf(stage) == 3 || x.sortOf(stage) == 4) {
      for (int time = -5; time < 70; time++) {
        all.append(x.accountAt(stage, 1, time)).append(' ');
      }
    }
    return all.toString();
  }

  /** Many windows, sessions and kept events are SAVED as few are. */
  private static void savedMuch() {
    WeirStream x = new WeirStream();
    x.addSource(1000);
    x.addSource(1000);
    x.addWindow(0, 8, 1, 1, 1000);
    x.addSession(0, 1, 1);
    x.addJoin(0, 1, 1000, 1000, 1);
    x.addSink(4);
    x.start();
    for (int i = 0; i < 20; i++) {
      x.offer(0, 1, i, 3 * i);
      rest(x);
    }
    x.offer(1, 2, 1, 1);
    rest(x);
    String[] before = {ofStage(x, 2), ofStage(x, 3), ofStage(x, 4)};
    due(65, () -> x.kept(2), "kept() of the WINDOW");
    due(20, () -> x.kept(3), "kept() of the SESSION");
    due(17, () -> x.kept(4), "kept() of the JOIN");
    x.checkpoint();
    rest(x);
    offers(x, 0, ev(1, 7, 30), ev(1, 7, 500), ev(3, 1, 2000));
    rest(x);
    x.crash();
    for (int i = 0; i < 3; i++) {
      int n = i;
      due(before[n], () -> ofStage(x, n + 2), "stage " + (n + 2) + " behind the crash");
    }
    x.offer(1, 1, 100, 1);
    rest(x);
    // SAVED were 16 left ones, 4 to 19. The first 7 comes ahead of the right one, 4 is gone by that;
    // the second 7 meets the right one as it comes itself.
    due(17, () -> x.outputs(5), "outputs() of the JOIN");
    due(-95, () -> x.valueAt(5, 0), "valueAt() of the first one that is kept");
    due(-93, () -> x.valueAt(5, 16), "valueAt() of the one that came last");
  }

  /** The marks of both inputs, and from which one it took last, as a checkpoint SAVED them. */
  private static void savedInputs() {
    for (int last = 0; last < 2; last++) {
      WeirStream x = merged(0);
      x.offer(0, 1, 1, 10);
      x.offer(1, 1, 1, 20);
      rest(x);
      x.checkpoint();
      // The barrier that it takes second is that of the input from which it took last.
      workAll(x, 1 - last, 2, last, 2, 3);
      due(1, x::complete, "complete()");
      x.offer(0, 1, 1, 30);
      x.offer(1, 1, 1, 40);
      rest(x);
      x.crash();
      due(10, () -> x.markOf(2), "markOf() behind the crash");
      workAll(x, 0, 1, 2);
      left(x, last == 0 ? 2 : 1, last == 0 ? 1 : 2);
      workAll(x, 2, 2);
      if (last == 0) {
        // It took the second one's event, the first one's event, the second one's MARK.
        due(10, () -> x.markOf(2), "markOf(): the first input's mark is 10 still");
      } else {
        due(20, () -> x.markOf(2), "markOf(): the second input's mark is 20 still");
      }
    }
  }

  private static void crashing() {
    says("A crash: all channels are empty, none is BLOCKED;");
    WeirStream x = merged(1000);
    offers(x, 0, ev(1, 1, 1), ev(1, 2, 1));
    x.offer(1, 1, 3, 1);
    workAll(x, 0, 1, 2);
    x.checkpoint();
    workAll(x, 0, 0, 2, 2);
    due(true, () -> x.isBlocked(2, false), "isBlocked() ahead of the crash");
    due(3, x::inFlight, "inFlight() ahead of the crash");
    due(0, x::crash, "crash()");
    due(0, x::inFlight, "inFlight() behind the crash");
    left(x, 0, 0);
    due(0, () -> x.queued(3, false), "queued() of the SINK");
    due(false, () -> x.isBlocked(2, false), "isBlocked() behind the crash");
    due(true, () -> x.hasRoom(0), "hasRoom() behind the crash");
    rest(x);
    row(x, 3, "1:1@1 1:3@1 1:2@1");

    says("each stage is as the latest complete checkpoint SAVED it, or as at the start, if there "
        + "is none;");
    WeirStream y = allSorts();
    y.start();
    String[] start = new String[9];
    for (int i = 0; i < 9; i++) {
      start[i] = ofStage(y, i);
    }
    offers(y, 0, ev(1, 1, 20), ev(1, 2, 3), ev(1, 4, 21));
    rest(y);
    y.checkpoint();
    y.work(3);
    due(0, y::crash, "crash() without a complete one");
    for (int i = 1; i < 9; i++) {
      int n = i;
      due(start[n], () -> ofStage(y, n), "stage " + n + " as at the start");
    }
    due(3, () -> y.kept(0), "kept() of the SOURCE: nothing was read");
    due(0, () -> y.taken(0), "the POSITION as at the start");
    due(-1, () -> y.markOf(0), "the SOURCE's mark as at the start");
    WeirStream z = started(0);
    for (int i = 1; i <= 3; i++) {
      z.offer(0, 1, i, i);
      rest(z);
      z.checkpoint();
      rest(z);
    }
    z.offer(0, 1, 4, 4);
    rest(z);
    due(3, z::crash, "crash(): the latest of three");
    due(3, () -> z.taken(0), "the POSITION of the latest of three");
    due(3, z::crash, "crash(), once more");
    due(3, () -> z.taken(0), "the POSITION, once more");
    behindCrash(z);
  }

  private static void behindCrash(WeirStream z) {
    says("of each SINK the OUTPUT is what is COMMITTED;");
    row(z, 1, "1:1@1 1:2@2 1:3@3");
    rest(z);
    row(z, 1, "1:1@1 1:2@2 1:3@3 1:4@4");
    WeirStream none = started(0);
    none.offer(0, 1, 1, 1);
    rest(none);
    none.crash();
    row(none, 1, "");
    due(0, () -> none.committed(1), "committed() without a checkpoint");

    says("a checkpoint that was begun is gone (its number stays used).");
    due(4, z::checkpoint, "checkpoint()");
    z.crash();
    due(0, z::begun, "begun() behind a crash");
    due(3, z::complete, "complete() behind a crash");
    due(true, () -> z.isReady(0), "isReady() of the SOURCE: it has an event");
    rest(z);
    due(3, z::complete, "complete(): no barrier is there any more");
    due(5, z::checkpoint, "checkpoint(): 4 stays used");
    rest(z);
    due(5, z::complete, "complete()");
    WeirStream half = merged(1000);
    half.checkpoint();
    workAll(half, 0);
    half.crash();
    due(false, () -> half.isReady(1), "isReady() of the SOURCE that gave no barrier");
    due(2, half::checkpoint, "checkpoint() behind the crash");
    due(true, () -> half.isReady(0), "isReady() of the SOURCE that gave the one that is gone");
    rest(half);
    due(2, half::complete, "complete()");

    says("The LOGS stay, and which sources were closed;");
    WeirStream l = merged(0);
    offers(l, 0, ev(1, 1, 1), ev(1, 2, 2));
    l.close(0);
    rest(l);
    l.crash();
    due(2, () -> l.kept(0), "kept() of the SOURCE");
    refused(l, STATE, () -> l.close(0), "close of the one that was closed");
    due(0, () -> l.close(1), "close of the other one");
    rest(l);
    due(1000000, () -> l.markOf(3), "markOf() of the SINK");
    row(l, 3, "1:1@1 1:2@2");

    says("the last stage that worked is as ahead of all work.");
    WeirStream w = full();
    w.start();
    offers(w, 0, ev(1, 1, 1));
    offers(w, 11, ev(1, 1, 1));
    workAll(w, 0);
    due(11, w::next, "next() behind 0");
    w.crash();
    due(0, w::next, "next() behind a crash");
    due(1, w::worked, "worked() behind a crash");
  }

  // ---- what is refused

  private static void refusals() {
    says("A method that throws an exception changes nothing.");
    WeirStream x = allSorts();
    x.start();
    offers(x, 0, ev(1, 1, 4), ev(2, 2, 9));
    x.checkpoint();
    x.work(7);
    List<Supplier<Object>> calls = List.of(() -> x.addSource(0), () -> x.addFilter(0, 0, 0),
        () -> x.addMap(0, 0, 0), () -> x.addWindow(0, 1, 1, 0, 0), () -> x.addSession(0, 1, 0),
        () -> x.addJoin(0, 1, 0, 0, 0), () -> x.addMerge(0, 1), () -> x.addSink(0), x::start,
        x::checkpoint);
    for (int i = 0; i < calls.size(); i++) {
      refused(x, STATE, calls.get(i), "call " + i + " as it was started");
    }
    List<Supplier<Object>> calledWrong = List.of(() -> x.setCapacity(0), () -> x.offer(0, 0, 0, -1),
        () -> x.close(1), () -> x.work(0), () -> x.accountAt(0, 0, 0), () -> x.nextEnd(0),
        () -> x.outputs(0), () -> x.committed(0), () -> x.keyAt(7, 99), () -> x.valueAt(7, 99),
        () -> x.timeAt(7, 99), () -> x.itemsToRest(0), () -> x.outputsIn(7, 0),
        () -> x.wouldLose(0), () -> x.wouldReplay(1));
    for (int i = 0; i < calledWrong.size(); i++) {
      refused(x, ARGUMENT, calledWrong.get(i), "call " + i + " with a wrong number");
    }
    refused(x, INDEX, () -> x.workAt(9), "workAt(9)");
    // A stage that was refused leaves no channel behind.
    WeirStream y = allSorts();
    refused(y, ARGUMENT, () -> y.addFilter(0, 4, 0), "addFilter with the test 4");
    refused(y, ARGUMENT, () -> y.addJoin(0, 1, 0, 0, 4), "addJoin with the rule 4");
    refused(y, INDEX, () -> y.addMerge(0, 9), "addMerge(0, 9)");
    due(9, () -> y.addSource(0), "addSource() behind refused ones");

    says("If several exceptions apply, the one that is named first is thrown.");
    firstNamed();
  }

  private static void firstNamed() {
    WeirStream x = allSorts();
    refused(x, INDEX, () -> x.offer(9, 100, 0, -1), "offer: no stage, wrong key, not started");
    refused(x, ARGUMENT, () -> x.offer(1, 0, 0, 0), "offer: no SOURCE, not started");
    refused(x, ARGUMENT, () -> x.offer(0, 0, 0, -1), "offer: wrong time, not started");
    refused(x, INDEX, () -> x.close(9), "close: no stage, not started");
    refused(x, ARGUMENT, () -> x.close(1), "close: no SOURCE, not started");
    refused(x, ARGUMENT, () -> x.work(201), "work: wrong number, not started");
    refused(x, INDEX, () -> x.workAt(-1), "workAt: no stage, not started");
    refused(x, INDEX, () -> x.keyAt(9, -1), "keyAt: no stage, no place");
    refused(x, INDEX, () -> x.valueAt(9, -1), "valueAt: no stage, no place");
    refused(x, INDEX, () -> x.timeAt(9, -1), "timeAt: no stage, no place");
    refused(x, INDEX, () -> x.outputsIn(9, 0), "outputsIn: no stage, wrong number");
    x.start();
    int sink = 7;
    refused(x, ARGUMENT, () -> x.addSource(-1), "addSource: wrong slack, started");
    refused(x, INDEX, () -> x.addFilter(9, 4, 0), "addFilter: no stage, wrong test, started");
    refused(x, ARGUMENT, () -> x.addFilter(sink, 0, 0), "addFilter: a SINK, started");
    refused(x, INDEX, () -> x.addMap(9, 4, 0), "addMap: no stage, wrong rule, started");
    refused(x, ARGUMENT, () -> x.addMap(0, 2, 0), "addMap: wrong n, started");
    refused(x, INDEX, () -> x.addWindow(9, 0, 0, 6, -1), "addWindow: no stage, wrong numbers, started");
    refused(x, ARGUMENT, () -> x.addWindow(0, 0, 0, 0, 0), "addWindow: wrong size, started");
    refused(x, INDEX, () -> x.addSession(9, 0, 0), "addSession: no stage, wrong gap, started");
    refused(x, ARGUMENT, () -> x.addSession(0, 0, 0), "addSession: wrong gap, started");
    refused(x, INDEX, () -> x.addJoin(9, 9, 0, 0, 0), "addJoin: no stage, the same, started");
    refused(x, INDEX, () -> x.addJoin(sink, 9, 0, 0, 0), "addJoin: a SINK, no stage, started");
    refused(x, ARGUMENT, () -> x.addJoin(0, 0, 0, 0, 0), "addJoin: the same, started");
    refused(x, INDEX, () -> x.addMerge(9, 9), "addMerge: no stage, the same, started");
    refused(x, INDEX, () -> x.addMerge(sink, 9), "addMerge: a SINK, no stage, started");
    refused(x, ARGUMENT, () -> x.addMerge(0, sink), "addMerge: a SINK, started");
    refused(x, INDEX, () -> x.addSink(9), "addSink: no stage, started");
    refused(x, ARGUMENT, () -> x.addSink(sink), "addSink: a SINK, started");
    x.close(0);
    refused(x, ARGUMENT, () -> x.offer(0, -1, 0, 0), "offer: wrong key, closed");
    WeirStream f = full();
    refused(f, ARGUMENT, () -> f.addSource(1001), "addSource: wrong slack, 12 stages");
    refused(f, INDEX, () -> f.addSink(12), "addSink: no stage, 12 stages");
    refused(f, ARGUMENT, () -> f.addMerge(3, 3), "addMerge: the same, 12 stages");
  }

  public static void main(String[] args) throws Exception {
    readDocument();
    section("Terms");
    numbers();
    stages();
    emitting();
    sources();
    filtersAndMaps();
    otherSorts();
    room();
    readySources();
    readyStages();
    marks();
    turns();
    accounts();
    windowNumbers();
    lateness();
    firing();
    sessions();
    lateSessions();
    joins();
    checkpoints();
    saved();
    crashing();
    refusals();
    tellUnsaid("Terms");
    finish("the terms hold");
  }
}

import java.util.function.BiFunction;
import java.util.function.Supplier;

/** What the tests share: answers that are due, calls that are refused, and objects to ask. */
abstract class Checks {
  static final String INDEX = "IndexOutOfBoundsException";
  static final String ARGUMENT = "IllegalArgumentException";
  static final String STATE = "IllegalStateException";
  static final int LOW = Integer.MIN_VALUE;
  static final int HIGH = Integer.MAX_VALUE;

  static int wrong = 0;
  static int checked = 0;
  /** Stands ahead of what is told of a wrong answer. */
  static String where = "";

  // ---- answers

  static void fail(String what) {
    wrong++;
    System.out.println(where + ": " + what);
  }

  static void due(Object want, Supplier<Object> call, String what) {
    checked++;
    Object got;
    try {
      got = call.get();
    } catch (RuntimeException e) {
      got = e.getClass().getSimpleName();
      // The machine's own exceptions are no answer: the class throws itself.
      if (!e.getStackTrace()[0].getClassName().startsWith("WeirStream")) {
        got = "the machine's " + got;
      }
    }
    if (!want.equals(got)) {
      fail(what + " answered " + got + ", due is " + want);
    }
  }

  /** A call that throws changes nothing, so all that can be asked stays as it is. */
  static void refused(WeirStream x, String exception, Supplier<Object> call, String what) {
    String before = look(x);
    due(exception, call, what);
    due(before, () -> look(x), "all that can be asked behind a refused " + what);
  }

  /** All that can be asked, but the accounts of distant keys and times. */
  static String look(WeirStream x) {
    StringBuilder all = new StringBuilder();
    int capacity = x.setCapacity(1);
    x.setCapacity(capacity);
    all.append(capacity).append(' ').append(x.digest()).append(' ').append(x.meanQueue());
    all.append(' ').append(x.itemsToRest(200));
    for (int i = 0; i < x.stages(); i++) {
      all.append(" :");
      for (int k = 0; k < x.stages(); k++) {
        all.append(x.leads(i, k) ? 1 : 0);
      }
      switch (x.sortOf(i)) {
        case 0:
          all.append(' ').append(x.wouldReplay(i));
          break;
        case 3:
        case 4:
          for (int n = 0; n < 120; n++) {
            all.append(' ').append(x.accountAt(i, n % 4, n / 4));
          }
          break;
        case 7:
          all.append(' ').append(x.wouldLose(i)).append(' ').append(x.outputsIn(i, 1)).append(' ')
              .append(x.outputsIn(i, 200));
          break;
        default:
          break;
      }
    }
    return all.toString();
  }

  static void row(WeirStream x, int sink, String want) {
    StringBuilder got = new StringBuilder();
    for (int i = 0; i < x.outputs(sink); i++) {
      got.append(i == 0 ? "" : " ").append(x.keyAt(sink, i)).append(':')
          .append(x.valueAt(sink, i)).append('@').append(x.timeAt(sink, i));
    }
    due(want, got::toString, "OUTPUT of stage " + sink);
  }

  static void finish(String good) {
    System.out.println(wrong == 0 ? good + " (" + checked + " answers)" : wrong + " answers are not as due");
    if (wrong != 0) {
      System.exit(1);
    }
  }

  // ---- what is done with objects

  static void rest(WeirStream x) {
    for (int i = 0; i < 100 && x.work(200) == 200; i++) {
      // on to rest
    }
  }

  static void workAll(WeirStream x, int... stages) {
    for (int stage : stages) {
      due(true, () -> x.workAt(stage), "workAt(" + stage + ")");
    }
  }

  /** Offers events, each a key, a value and a time. */
  static void offers(WeirStream x, int source, int[]... events) {
    for (int[] e : events) {
      x.offer(source, e[0], e[1], e[2]);
    }
  }

  static int[] ev(int key, int value, int time) {
    return new int[] {key, value, time};
  }

  /** What comes out of the last stage, a SINK, of these events till the end of SOURCE 0. */
  static void through(WeirStream x, String want, int[]... events) {
    offers(x, 0, events);
    x.close(0);
    rest(x);
    row(x, x.stages() - 1, want);
  }

  // ---- objects

  /** SOURCE 0 and a SINK. */
  static WeirStream started(int slack) {
    WeirStream x = new WeirStream();
    x.addSource(slack);
    x.addSink(0);
    x.start();
    return x;
  }

  static WeirStream full() {
    WeirStream x = new WeirStream();
    for (int i = 0; i < 12; i++) {
      x.addSource(0);
    }
    return x;
  }

  private static WeirStream sinkAndStart(WeirStream x, int stage) {
    x.addSink(stage);
    x.start();
    return x;
  }

  private static WeirStream sources(int count, int slack) {
    WeirStream x = new WeirStream();
    for (int i = 0; i < count; i++) {
      x.addSource(slack);
    }
    return x;
  }

  static WeirStream filtered(int test, int n) {
    WeirStream x = sources(1, 0);
    return sinkAndStart(x, x.addFilter(0, test, n));
  }

  static WeirStream mapped(int rule, int n) {
    WeirStream x = sources(1, 0);
    return sinkAndStart(x, x.addMap(0, rule, n));
  }

  static WeirStream windowed(int size, int step, int account, int lateness) {
    return windowed(0, size, step, account, lateness);
  }

  static WeirStream windowed(int slack, int size, int step, int account, int lateness) {
    WeirStream x = sources(1, slack);
    return sinkAndStart(x, x.addWindow(0, size, step, account, lateness));
  }

  static WeirStream sessioned(int slack, int gap, int account) {
    WeirStream x = sources(1, slack);
    return sinkAndStart(x, x.addSession(0, gap, account));
  }

  static WeirStream joined(int slack, int before, int after, int rule) {
    WeirStream x = sources(2, slack);
    return sinkAndStart(x, x.addJoin(0, 1, before, after, rule));
  }

  static WeirStream merged(int slack) {
    WeirStream x = sources(2, slack);
    return sinkAndStart(x, x.addMerge(0, 1));
  }

  /** A stage of each sort; 7 and 8 are SINKs. */
  static WeirStream allSorts() {
    WeirStream x = sources(1, 0);
    x.addFilter(0, 0, 0);
    x.addMap(1, 0, 0);
    x.addWindow(2, 10, 5, 0, 0);
    x.addSession(2, 10, 0);
    x.addJoin(1, 2, 5, 5, 0);
    x.addMerge(3, 0);
    x.addSink(6);
    x.addSink(5);
    return x;
  }

  // ---- questions that are refused

  /** Numbers that no stage has, in each state of an object. */
  static void noStage(String what, BiFunction<WeirStream, Integer, Object> ask) {
    WeirStream[] objects = {new WeirStream(), allSorts(), allSorts(), full()};
    objects[2].start();
    objects[2].offer(0, 1, 1, 1);
    objects[2].work(3);
    for (WeirStream x : objects) {
      int[] none = {-1, x.stages(), x.stages() + 1, LOW, HIGH};
      for (int n : none) {
        refused(x, INDEX, () -> ask.apply(x, n), what + "(" + n + ") with " + x.stages() + " stages");
      }
    }
  }

  /** For all stages but those of these sorts it is refused. */
  static void onlyOf(String what, BiFunction<WeirStream, Integer, Object> ask, int... sorts) {
    WeirStream x = allSorts();
    for (int i = 0; i < x.stages(); i++) {
      boolean isOne = false;
      for (int sort : sorts) {
        isOne |= x.sortOf(i) == sort;
      }
      if (!isOne) {
        int n = i;
        refused(x, ARGUMENT, () -> ask.apply(x, n), what + " of a stage of sort " + x.sortOf(i));
      }
    }
  }
}

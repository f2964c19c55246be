import java.util.ArrayList;
import java.util.LinkedList;
import java.util.List;
import java.util.TreeSet;

/**
 * Compares WeirStream with a second, slow reading of the document, over many runs of calls that a
 * fixed row of numbers chooses. It keeps whole events everywhere and copies itself to look ahead.
 */
public final class ModelTest {
  // ---- the second reading

  static final class Ev {
    final int key;
    final int value;
    final int time;

    Ev(int key, int value, int time) {
      this.key = key;
      this.value = value;
      this.time = time;
    }
  }

  /** An event, a mark (with a time) or a barrier. */
  static final class It {
    final Ev event;
    final boolean isBarrier;
    final int time;

    It(Ev event, boolean isBarrier, int time) {
      this.event = event;
      this.isBarrier = isBarrier;
      this.time = time;
    }
  }

  static final class Span {
    final int key;
    final int begin;
    final int end;
    final List<Ev> events = new ArrayList<>();
    final List<Integer> came = new ArrayList<>();

    Span(int key, int begin, int end) {
      this.key = key;
      this.begin = begin;
      this.end = end;
    }

    Span copy() {
      Span c = new Span(key, begin, end);
      c.events.addAll(events);
      c.came.addAll(came);
      return c;
    }

    int account(int account) {
      int sum = 0;
      int least = Integer.MAX_VALUE;
      int greatest = Integer.MIN_VALUE;
      for (Ev e : events) {
        sum += e.value;
        least = Math.min(least, e.value);
        greatest = Math.max(greatest, e.value);
      }
      switch (account) {
        case 0: return events.size();
        case 1: return sum;
        case 2: return least;
        case 3: return greatest;
        case 5: return sum / events.size();
        default: break;
      }
      int best = -1;
      for (int i = 0; i < events.size(); i++) {
        if (best < 0 || events.get(i).time > events.get(best).time
            || events.get(i).time == events.get(best).time && came.get(i) > came.get(best)) {
          best = i;
        }
      }
      return events.get(best).value;
    }
  }

  /** All that is SAVED of a stage. */
  static final class Mem {
    int mark = -1;
    int[] marks = {-1, -1};
    int lastInput = -1;
    int taken;
    int emitted;
    int late;
    int outLength;
    List<Span> spans = new ArrayList<>();
    List<List<Ev>> held = List.of(new ArrayList<>(), new ArrayList<>());

    Mem copy() {
      Mem m = new Mem();
      m.mark = mark;
      m.marks = marks.clone();
      m.lastInput = lastInput;
      m.taken = taken;
      m.emitted = emitted;
      m.late = late;
      m.outLength = outLength;
      for (Span s : spans) {
        m.spans.add(s.copy());
      }
      m.held.get(0).addAll(held.get(0));
      m.held.get(1).addAll(held.get(1));
      return m;
    }
  }

  static final class St {
    int sort;
    int[] inputs;
    int[] p;
    Mem mem = new Mem();
    Mem saved = new Mem();
    Mem saving;
    List<Ev> log = new ArrayList<>();
    boolean closed;
    boolean owes;
    List<Ev> output = new ArrayList<>();
    int committed;
    List<LinkedList<It>> channels = new ArrayList<>();
    boolean[] blocked = new boolean[2];

    St copy() {
      St s = new St();
      s.sort = sort;
      s.inputs = inputs;
      s.p = p;
      s.mem = mem.copy();
      s.saved = saved.copy();
      s.saving = saving == null ? null : saving.copy();
      s.log = new ArrayList<>(log);
      s.closed = closed;
      s.owes = owes;
      s.output = new ArrayList<>(output);
      s.committed = committed;
      for (LinkedList<It> c : channels) {
        s.channels.add(new LinkedList<>(c));
      }
      s.blocked = blocked.clone();
      return s;
    }
  }

  static final class Model {
    List<St> all = new ArrayList<>();
    boolean started;
    int capacity = 8;
    int last = -1;
    int numbered;
    int begun;
    int complete;
    int crashes;
    int worked;

    Model copy() {
      Model m = new Model();
      for (St s : all) {
        m.all.add(s.copy());
      }
      m.started = started;
      m.capacity = capacity;
      m.last = last;
      m.numbered = numbered;
      m.begun = begun;
      m.complete = complete;
      m.crashes = crashes;
      m.worked = worked;
      return m;
    }

    St at(int i) {
      if (i < 0 || i >= all.size()) {
        throw new IndexOutOfBoundsException();
      }
      return all.get(i);
    }

    void arg(boolean ok) {
      if (!ok) {
        throw new IllegalArgumentException();
      }
    }

    void state(boolean ok) {
      if (!ok) {
        throw new IllegalStateException();
      }
    }

    int add(int sort, int[] inputs, int... p) {
      state(!started && all.size() < 12);
      St s = new St();
      s.sort = sort;
      s.inputs = inputs;
      s.p = p;
      for (int i : inputs) {
        s.channels.add(new LinkedList<>());
      }
      all.add(s);
      return all.size() - 1;
    }

    int addSource(int slack) {
      arg(slack >= 0 && slack <= 1000);
      return add(0, new int[0], slack);
    }

    int addFilter(int input, int test, int n) {
      St s = at(input);
      arg(s.sort != 7);
      arg(test >= 0 && test <= 3);
      arg(!(n == 0 && test == 3));
      return add(1, new int[] {input}, test, n);
    }

    int addMap(int input, int rule, int n) {
      St s = at(input);
      arg(s.sort != 7);
      arg(rule >= 0 && rule <= 3);
      arg(rule != 2 || n >= 1 && n <= 100);
      return add(2, new int[] {input}, rule, n);
    }

    int addWindow(int input, int size, int step, int account, int lateness) {
      St s = at(input);
      arg(s.sort != 7);
      arg(size >= 1 && size <= 1000);
      arg(step >= 1 && step <= size);
      arg(size <= 8 * step);
      arg(account >= 0 && account <= 5);
      arg(lateness >= 0 && lateness <= 1000);
      return add(3, new int[] {input}, size, step, account, lateness);
    }

    int addSession(int input, int gap, int account) {
      St s = at(input);
      arg(s.sort != 7);
      arg(gap >= 1 && gap <= 1000);
      arg(account >= 0 && account <= 5);
      return add(4, new int[] {input}, gap, account);
    }

    int addJoin(int left, int right, int before, int after, int rule) {
      St l = at(left);
      St r = at(right);
      arg(l.sort != 7 && r.sort != 7);
      arg(left != right);
      arg(before >= 0 && before <= 1000 && after >= 0 && after <= 1000);
      arg(rule >= 0 && rule <= 3);
      return add(5, new int[] {left, right}, before, after, rule);
    }

    int addMerge(int first, int second) {
      St l = at(first);
      St r = at(second);
      arg(l.sort != 7 && r.sort != 7);
      arg(first != second);
      return add(6, new int[] {first, second});
    }

    int addSink(int input) {
      arg(at(input).sort != 7);
      return add(7, new int[] {input});
    }

    int start() {
      state(!started);
      boolean found = false;
      for (St s : all) {
        found |= s.sort == 0;
      }
      state(found);
      started = true;
      return all.size();
    }

    int setCapacity(int c) {
      arg(c >= 1 && c <= 20);
      int old = capacity;
      capacity = c;
      return old;
    }

    int offer(int source, int key, int value, int time) {
      St s = at(source);
      arg(s.sort == 0);
      arg(key >= 0 && key <= 99);
      arg(time >= 0 && time <= 100000);
      state(started);
      state(!s.closed);
      state(s.log.size() < 150);
      s.log.add(new Ev(key, value, time));
      return s.log.size();
    }

    int close(int source) {
      St s = at(source);
      arg(s.sort == 0);
      state(started);
      state(!s.closed);
      s.closed = true;
      return s.log.size() - s.mem.taken;
    }

    boolean room(int i) {
      for (St to : all) {
        for (int k = 0; k < to.inputs.length; k++) {
          if (to.inputs[k] == i && to.channels.get(k).size() >= capacity) {
            return false;
          }
        }
      }
      return true;
    }

    boolean open(St s, int k) {
      return k < s.inputs.length && !s.channels.get(k).isEmpty() && !s.blocked[k];
    }

    boolean ready(int i) {
      St s = all.get(i);
      if (!room(i)) {
        return false;
      }
      if (s.sort == 0) {
        return s.owes || s.mem.taken < s.log.size() || s.closed && s.mem.mark != 1000000;
      }
      return open(s, 0) || open(s, 1);
    }

    int next() {
      for (int i = last + 1; i < all.size(); i++) {
        if (ready(i)) {
          return i;
        }
      }
      for (int i = 0; i < all.size(); i++) {
        if (ready(i)) {
          return i;
        }
      }
      return -1;
    }

    void send(int i, It item) {
      for (St to : all) {
        for (int k = 0; k < to.inputs.length; k++) {
          if (to.inputs[k] == i) {
            to.channels.get(k).addLast(item);
          }
        }
      }
    }

    void emit(int i, int key, int value, int time) {
      all.get(i).mem.emitted++;
      send(i, new It(new Ev(key, value, time), false, 0));
    }

    void mark(int i) {
      send(i, new It(null, false, all.get(i).mem.mark));
    }

    void barrier(int i) {
      send(i, new It(null, true, 0));
      St s = all.get(i);
      s.saving = s.mem.copy();
      for (St t : all) {
        if (t.saving == null) {
          return;
        }
      }
      for (St t : all) {
        t.saved = t.saving;
        t.saving = null;
        t.committed = t.saved.outLength;
      }
      complete = begun;
      begun = 0;
    }

    void step(int i) {
      last = i;
      worked++;
      St s = all.get(i);
      Mem m = s.mem;
      if (s.sort == 0) {
        if (s.owes) {
          s.owes = false;
          barrier(i);
        } else if (m.taken < s.log.size()) {
          Ev e = s.log.get(m.taken++);
          emit(i, e.key, e.value, e.time);
          if (e.time - s.p[0] > m.mark) {
            m.mark = e.time - s.p[0];
            mark(i);
          }
        } else {
          m.mark = 1000000;
          mark(i);
        }
        return;
      }
      int k = 0;
      if (s.inputs.length == 2) {
        int wanted = m.lastInput == 0 ? 1 : 0;
        k = open(s, wanted) ? wanted : 1 - wanted;
      }
      m.lastInput = k;
      It item = s.channels.get(k).removeFirst();
      if (item.isBarrier) {
        if (s.inputs.length == 2 && !s.blocked[1 - k]) {
          s.blocked[k] = true;
        } else {
          s.blocked[0] = false;
          s.blocked[1] = false;
          barrier(i);
        }
      } else if (item.event == null) {
        m.marks[k] = item.time;
        int least = s.inputs.length == 2 ? Math.min(m.marks[0], m.marks[1]) : m.marks[0];
        if (least > m.mark) {
          int old = m.mark;
          m.mark = least;
          rise(i, old);
          mark(i);
        }
      } else {
        m.taken++;
        event(i, k, item.event);
      }
    }

    static boolean isBefore(Span a, Span b) {
      if (a.end != b.end) {
        return a.end < b.end;
      }
      return a.key != b.key ? a.key < b.key : a.begin < b.begin;
    }

    void fire(int i, Span w, int account) {
      emit(i, w.key, w.account(account), w.end - 1);
    }

    void rise(int i, int old) {
      St s = all.get(i);
      Mem m = s.mem;
      if (s.sort == 3 || s.sort == 4) {
        List<Span> due = new ArrayList<>();
        for (Span w : m.spans) {
          if (w.end <= m.mark && w.end > old) {
            due.add(w);
          }
        }
        due.sort((a, b) -> isBefore(a, b) ? -1 : isBefore(b, a) ? 1 : 0);
        for (Span w : due) {
          fire(i, w, s.sort == 3 ? s.p[2] : s.p[1]);
        }
        int lateness = s.sort == 3 ? s.p[3] : 0;
        m.spans.removeIf(w -> w.end + lateness <= m.mark);
      }
      if (s.sort == 5) {
        m.held.get(0).removeIf(e -> e.time + s.p[1] < m.mark);
        m.held.get(1).removeIf(e -> e.time + s.p[0] < m.mark);
      }
    }

    static long down(long a, long b) {
      long q = a / b;
      return a % b != 0 && (a < 0) != (b < 0) ? q - 1 : q;
    }

    static long rest(int a, int b) {
      return a - down(a, b) * b;
    }

    void event(int i, int k, Ev e) {
      St s = all.get(i);
      Mem m = s.mem;
      switch (s.sort) {
        case 1: {
          boolean pass = s.p[0] == 0 ? e.value >= s.p[1] : s.p[0] == 1 ? e.value < s.p[1]
              : s.p[0] == 2 ? e.key == s.p[1] : rest(e.value, s.p[1]) == 0;
          if (pass) {
            emit(i, e.key, e.value, e.time);
          }
          break;
        }
        case 2:
          if (s.p[0] == 0) {
            emit(i, e.key, e.value + s.p[1], e.time);
          } else if (s.p[0] == 1) {
            emit(i, e.key, e.value * s.p[1], e.time);
          } else if (s.p[0] == 2) {
            emit(i, (int) rest(e.value, s.p[1]), e.value, e.time);
          } else {
            emit(i, e.key, e.key, e.time);
          }
          break;
        case 3:
          window(i, e);
          break;
        case 4:
          session(i, e);
          break;
        case 5:
          join(i, k, e);
          break;
        case 6:
          emit(i, e.key, e.value, e.time);
          break;
        default:
          s.output.add(e);
          m.outLength = s.output.size();
          break;
      }
    }

    void window(int i, Ev e) {
      St s = all.get(i);
      Mem m = s.mem;
      boolean took = false;
      for (int b = -1000; b <= e.time; b++) {
        if (b % s.p[1] != 0 || e.time >= b + s.p[0]) {
          continue;
        }
        int end = b + s.p[0];
        if (m.mark >= end + s.p[3]) {
          continue;
        }
        took = true;
        Span w = null;
        for (Span v : m.spans) {
          if (v.key == e.key && v.begin == b) {
            w = v;
          }
        }
        if (w == null) {
          w = new Span(e.key, b, end);
          m.spans.add(w);
        }
        w.events.add(e);
        w.came.add(m.taken);
        if (m.mark >= end) {
          fire(i, w, s.p[2]);
        }
      }
      if (!took) {
        m.late++;
      }
    }

    void session(int i, Ev e) {
      St s = all.get(i);
      Mem m = s.mem;
      int begin = e.time;
      int end = e.time + s.p[0];
      List<Span> grown = new ArrayList<>();
      for (Span v : m.spans) {
        if (v.key == e.key && v.begin < e.time + s.p[0] && v.end > e.time) {
          grown.add(v);
          begin = Math.min(begin, v.begin);
          end = Math.max(end, v.end);
        }
      }
      if (end <= m.mark) {
        m.late++;
        return;
      }
      Span one = new Span(e.key, begin, end);
      for (Span v : grown) {
        one.events.addAll(v.events);
        one.came.addAll(v.came);
      }
      one.events.add(e);
      one.came.add(m.taken);
      m.spans.removeAll(grown);
      m.spans.add(one);
    }

    void join(int i, int k, Ev e) {
      St s = all.get(i);
      Mem m = s.mem;
      if (e.time < m.mark) {
        m.late++;
        return;
      }
      for (Ev o : m.held.get(1 - k)) {
        Ev l = k == 0 ? e : o;
        Ev r = k == 0 ? o : e;
        if (l.key == r.key && l.time - s.p[0] <= r.time && r.time <= l.time + s.p[1]) {
          int v = s.p[2] == 0 ? l.value + r.value : s.p[2] == 1 ? l.value - r.value
              : s.p[2] == 2 ? l.value * r.value : l.value;
          emit(i, l.key, v, Math.max(l.time, r.time));
        }
      }
      m.held.get(k).add(e);
      if (m.held.get(k).size() == 17) {
        m.held.get(k).remove(0);
      }
    }

    int work(int items) {
      arg(items >= 1 && items <= 200);
      state(started);
      return go(items);
    }

    int go(int items) {
      int done = 0;
      while (done < items && next() >= 0) {
        step(next());
        done++;
      }
      return done;
    }

    boolean workAt(int i) {
      at(i);
      state(started);
      if (!ready(i)) {
        return false;
      }
      step(i);
      return true;
    }

    int checkpoint() {
      state(started);
      state(begun == 0);
      begun = ++numbered;
      for (St s : all) {
        s.owes = s.sort == 0;
      }
      return begun;
    }

    int crash() {
      state(started);
      crashes++;
      begun = 0;
      last = -1;
      for (St s : all) {
        s.owes = false;
        s.saving = null;
        s.blocked = new boolean[2];
        for (LinkedList<It> c : s.channels) {
          c.clear();
        }
        s.mem = s.saved.copy();
        s.output = new ArrayList<>(s.output.subList(0, s.committed));
      }
      return complete;
    }

    int kept(int i) {
      St s = at(i);
      return s.sort == 0 ? s.log.size() - s.mem.taken
          : s.mem.spans.size() + s.mem.held.get(0).size() + s.mem.held.get(1).size();
    }

    int queued(int i, boolean isSecond) {
      St s = at(i);
      int k = isSecond ? 1 : 0;
      return k < s.inputs.length ? s.channels.get(k).size() : -1;
    }

    boolean blocked(int i, boolean isSecond) {
      return at(i).blocked[isSecond ? 1 : 0];
    }

    boolean leads(int i, int j) {
      at(i);
      TreeSet<Integer> reached = new TreeSet<>();
      at(j);
      for (int k = i + 1; k < all.size(); k++) {
        for (int in : all.get(k).inputs) {
          if (in == i || reached.contains(in)) {
            reached.add(k);
          }
        }
      }
      return reached.contains(j);
    }

    int depth(int i) {
      int d = 0;
      for (int in : at(i).inputs) {
        d = Math.max(d, depth(in) + 1);
      }
      return d;
    }

    int accountAt(int i, int key, int time) {
      St s = at(i);
      arg(s.sort == 3 || s.sort == 4);
      Span best = null;
      for (Span v : s.mem.spans) {
        if (v.key == key && v.begin <= time && time < v.end
            && (best == null || v.begin < best.begin)) {
          best = v;
        }
      }
      return best == null ? 0 : best.account(s.sort == 3 ? s.p[2] : s.p[1]);
    }

    int nextEnd(int i) {
      St s = at(i);
      arg(s.sort == 3 || s.sort == 4);
      int best = -1;
      for (Span v : s.mem.spans) {
        if (v.end > s.mem.mark && (best < 0 || v.end < best)) {
          best = v.end;
        }
      }
      return best;
    }

    St sink(int i) {
      St s = at(i);
      arg(s.sort == 7);
      return s;
    }

    Ev out(int i, int place) {
      St s = sink(i);
      arg(place >= 0 && place < s.output.size());
      return s.output.get(place);
    }

    int inFlight() {
      int n = 0;
      for (St s : all) {
        for (LinkedList<It> c : s.channels) {
          n += c.size();
        }
      }
      return n;
    }

    double meanQueue() {
      int channels = 0;
      for (St s : all) {
        channels += s.channels.size();
      }
      return channels == 0 ? 0 : (double) inFlight() / channels;
    }

    int itemsToRest(int most) {
      arg(most >= 1 && most <= 200);
      if (!started) {
        return 0;
      }
      Model m = copy();
      int n = m.go(most);
      return m.next() < 0 ? n : -1;
    }

    int outputsIn(int sink, int items) {
      St s = sink(sink);
      arg(items >= 1 && items <= 200);
      if (!started) {
        return s.output.size();
      }
      Model m = copy();
      m.go(items);
      return m.all.get(sink).output.size();
    }

    int wouldLose(int i) {
      St s = sink(i);
      Model m = copy();
      m.crash0();
      return s.output.size() - m.all.get(i).output.size();
    }

    void crash0() {
      started = true;
      crash();
    }

    int wouldReplay(int i) {
      St s = at(i);
      arg(s.sort == 0);
      Model m = copy();
      m.crash0();
      return s.mem.taken - m.all.get(i).mem.taken;
    }

    long digest() {
      List<Long> xs = new ArrayList<>();
      long[] head = {all.size(), started ? 1 : 0, complete, begun, crashes, worked, inFlight(), next()};
      for (long x : head) {
        xs.add(x);
      }
      for (int i = 0; i < all.size(); i++) {
        St s = all.get(i);
        Mem m = s.mem;
        long[] row = {s.sort, m.mark, m.taken, m.emitted, m.late, kept(i), ready(i) ? 1 : 0,
            room(i) ? 1 : 0, queued(i, false), blocked(i, false) ? 1 : 0, queued(i, true),
            blocked(i, true) ? 1 : 0, depth(i)};
        for (long x : row) {
          xs.add(x);
        }
        if (s.sort == 3 || s.sort == 4) {
          xs.add((long) nextEnd(i));
        }
        if (s.sort == 7) {
          xs.add((long) s.output.size());
          xs.add((long) s.committed);
          for (Ev e : s.output) {
            xs.add((long) e.key);
            xs.add((long) e.value);
            xs.add((long) e.time);
          }
        }
      }
      long d = 58014;
      for (long x : xs) {
        d = d * 31 + x;
      }
      return d;
    }
  }

  // ---- runs of calls

  private static long seed;

  private static int draw(int n) {
    seed = seed * 6364136223846793005L + 1442695040888963407L;
    return (int) ((seed >>> 33) % n);
  }

  private static int pick(int... row) {
    return row[draw(row.length)];
  }

  private static final String[] CALLS = {"addSource", "addFilter", "addMap", "addWindow",
      "addSession", "addJoin", "addMerge", "addSink", "start", "setCapacity", "offer", "close",
      "work", "workAt", "checkpoint", "crash", "stages", "isStarted", "sortOf", "markOf", "taken",
      "emitted", "late", "kept", "isReady", "hasRoom", "queued", "isBlocked", "leads", "depthOf",
      "accountAt", "nextEnd", "outputs", "committed", "keyAt", "valueAt", "timeAt", "complete",
      "begun", "crashes", "worked", "inFlight", "next", "meanQueue", "itemsToRest", "outputsIn",
      "wouldLose", "wouldReplay", "digest"};

  private static final long[] THROWN = {Long.MIN_VALUE + 1, Long.MIN_VALUE + 2, Long.MIN_VALUE + 3};

  private static final long MACHINE = Long.MIN_VALUE;

  /** Whether the class threw it itself: the machine's own exceptions are no answer. */
  private static boolean isThrown(RuntimeException e) {
    return e.getStackTrace()[0].getClassName().startsWith("WeirStream");
  }

  static long real(WeirStream x, int call, int[] a) {
    try {
      switch (CALLS[call]) {
        case "addSource": return x.addSource(a[0]);
        case "addFilter": return x.addFilter(a[0], a[1], a[2]);
        case "addMap": return x.addMap(a[0], a[1], a[2]);
        case "addWindow": return x.addWindow(a[0], a[1], a[2], a[3], a[4]);
        case "addSession": return x.addSession(a[0], a[1], a[2]);
        case "addJoin": return x.addJoin(a[0], a[1], a[2], a[3], a[4]);
        case "addMerge": return x.addMerge(a[0], a[1]);
        case "addSink": return x.addSink(a[0]);
        case "start": return x.start();
        case "setCapacity": return x.setCapacity(a[0]);
        case "offer": return x.offer(a[0], a[1], a[2], a[3]);
        case "close": return x.close(a[0]);
        case "work": return x.work(a[0]);
        case "workAt": return x.workAt(a[0]) ? 1 : 0;
        case "checkpoint": return x.checkpoint();
        case "crash": return x.crash();
        case "stages": return x.stages();
        case "isStarted": return x.isStarted() ? 1 : 0;
        case "sortOf": return x.sortOf(a[0]);
        case "markOf": return x.markOf(a[0]);
        case "taken": return x.taken(a[0]);
        case "emitted": return x.emitted(a[0]);
        case "late": return x.late(a[0]);
        case "kept": return x.kept(a[0]);
        case "isReady": return x.isReady(a[0]) ? 1 : 0;
        case "hasRoom": return x.hasRoom(a[0]) ? 1 : 0;
        case "queued": return x.queued(a[0], a[1] != 0);
        case "isBlocked": return x.isBlocked(a[0], a[1] != 0) ? 1 : 0;
        case "leads": return x.leads(a[0], a[1]) ? 1 : 0;
        case "depthOf": return x.depthOf(a[0]);
        case "accountAt": return x.accountAt(a[0], a[1], a[2]);
        case "nextEnd": return x.nextEnd(a[0]);
        case "outputs": return x.outputs(a[0]);
        case "committed": return x.committed(a[0]);
        case "keyAt": return x.keyAt(a[0], a[1]);
        case "valueAt": return x.valueAt(a[0], a[1]);
        case "timeAt": return x.timeAt(a[0], a[1]);
        case "complete": return x.complete();
        case "begun": return x.begun();
        case "crashes": return x.crashes();
        case "worked": return x.worked();
        case "inFlight": return x.inFlight();
        case "next": return x.next();
        case "meanQueue": return Double.doubleToLongBits(x.meanQueue());
        case "itemsToRest": return x.itemsToRest(a[0]);
        case "outputsIn": return x.outputsIn(a[0], a[1]);
        case "wouldLose": return x.wouldLose(a[0]);
        case "wouldReplay": return x.wouldReplay(a[0]);
        default: return x.digest();
      }
    } catch (IndexOutOfBoundsException e) {
      return isThrown(e) ? THROWN[0] : MACHINE;
    } catch (IllegalArgumentException e) {
      return isThrown(e) ? THROWN[1] : MACHINE;
    } catch (IllegalStateException e) {
      return isThrown(e) ? THROWN[2] : MACHINE;
    }
  }

  static long model(Model x, int call, int[] a) {
    try {
      switch (CALLS[call]) {
        case "addSource": return x.addSource(a[0]);
        case "addFilter": return x.addFilter(a[0], a[1], a[2]);
        case "addMap": return x.addMap(a[0], a[1], a[2]);
        case "addWindow": return x.addWindow(a[0], a[1], a[2], a[3], a[4]);
        case "addSession": return x.addSession(a[0], a[1], a[2]);
        case "addJoin": return x.addJoin(a[0], a[1], a[2], a[3], a[4]);
        case "addMerge": return x.addMerge(a[0], a[1]);
        case "addSink": return x.addSink(a[0]);
        case "start": return x.start();
        case "setCapacity": return x.setCapacity(a[0]);
        case "offer": return x.offer(a[0], a[1], a[2], a[3]);
        case "close": return x.close(a[0]);
        case "work": return x.work(a[0]);
        case "workAt": return x.workAt(a[0]) ? 1 : 0;
        case "checkpoint": return x.checkpoint();
        case "crash": return x.crash();
        case "stages": return x.all.size();
        case "isStarted": return x.started ? 1 : 0;
        case "sortOf": return x.at(a[0]).sort;
        case "markOf": return x.at(a[0]).mem.mark;
        case "taken": return x.at(a[0]).mem.taken;
        case "emitted": return x.at(a[0]).mem.emitted;
        case "late": return x.at(a[0]).mem.late;
        case "kept": return x.kept(a[0]);
        case "isReady": x.at(a[0]); return x.ready(a[0]) ? 1 : 0;
        case "hasRoom": x.at(a[0]); return x.room(a[0]) ? 1 : 0;
        case "queued": return x.queued(a[0], a[1] != 0);
        case "isBlocked": return x.blocked(a[0], a[1] != 0) ? 1 : 0;
        case "leads": return x.leads(a[0], a[1]) ? 1 : 0;
        case "depthOf": return x.depth(a[0]);
        case "accountAt": return x.accountAt(a[0], a[1], a[2]);
        case "nextEnd": return x.nextEnd(a[0]);
        case "outputs": return x.sink(a[0]).output.size();
        case "committed": return x.sink(a[0]).committed;
        case "keyAt": return x.out(a[0], a[1]).key;
        case "valueAt": return x.out(a[0], a[1]).value;
        case "timeAt": return x.out(a[0], a[1]).time;
        case "complete": return x.complete;
        case "begun": return x.begun;
        case "crashes": return x.crashes;
        case "worked": return x.worked;
        case "inFlight": return x.inFlight();
        case "next": return x.next();
        case "meanQueue": return Double.doubleToLongBits(x.meanQueue());
        case "itemsToRest": return x.itemsToRest(a[0]);
        case "outputsIn": return x.outputsIn(a[0], a[1]);
        case "wouldLose": return x.wouldLose(a[0]);
        case "wouldReplay": return x.wouldReplay(a[0]);
        default: return x.digest();
      }
    } catch (IndexOutOfBoundsException e) {
      return THROWN[0];
    } catch (IllegalArgumentException e) {
      return THROWN[1];
    } catch (IllegalStateException e) {
      return THROWN[2];
    }
  }

  private static int callNamed(String name) {
    for (int i = 0; i < CALLS.length; i++) {
      if (CALLS[i].equals(name)) {
        return i;
      }
    }
    throw new AssertionError(name);
  }

  /** What a run is like: some are calm, some have wide times, long slack or wild numbers. */
  private static int spread;
  private static int keys;
  private static int wild;
  private static int clock;

  private static int stageArg(Model m) {
    int n = m.all.size();
    if (draw(40) == 0) {
      return pick(-1, n, n + 1, Integer.MAX_VALUE, Integer.MIN_VALUE, 12);
    }
    return n == 0 ? 0 : draw(n);
  }

  private static int stageOfSort(Model m, int... sorts) {
    for (int tries = 0; tries < 12; tries++) {
      int i = stageArg(m);
      if (i < 0 || i >= m.all.size()) {
        return i;
      }
      for (int s : sorts) {
        if (m.all.get(i).sort == s) {
          return i;
        }
      }
    }
    return stageArg(m);
  }

  private static int inputArg(Model m) {
    return stageOfSort(m, 0, 1, 2, 3, 4, 5, 6);
  }

  private static int span(boolean isFromOne) {
    if (draw(30) == 0) {
      return pick(-1, 0, 1, 1000, 1001, Integer.MIN_VALUE, Integer.MAX_VALUE);
    }
    return (isFromOne ? 1 : 0) + draw(draw(3) == 0 ? spread * 4 + 1 : spread + 1);
  }

  private static int small(int most) {
    return draw(25) == 0 ? pick(-1, most + 1, Integer.MIN_VALUE, Integer.MAX_VALUE) : draw(most + 1);
  }

  private static int value() {
    if (wild == 0) {
      return draw(21) - 10;
    }
    return draw(3) == 0 ? pick(Integer.MIN_VALUE, Integer.MAX_VALUE, -1, 0, 1, Integer.MIN_VALUE + 1)
        : (int) (((long) draw(Integer.MAX_VALUE)) * 2 - Integer.MAX_VALUE);
  }

  private static int keyArg() {
    return draw(40) == 0 ? pick(-1, 0, 99, 100, Integer.MAX_VALUE) : draw(keys);
  }

  private static int timeArg() {
    if (draw(40) == 0) {
      return pick(-1, 0, 100000, 100001, Integer.MIN_VALUE, Integer.MAX_VALUE);
    }
    clock = Math.min(clock + draw(spread / 2 + 2), 100000);
    return Math.max(0, clock - draw(spread + 1));
  }

  private static int[] args(String call, Model m) {
    switch (call) {
      case "addSource": return new int[] {draw(4) == 0 ? span(false) : draw(3)};
      case "addFilter": return new int[] {inputArg(m), small(3), draw(3) == 0 ? value() : draw(7) - 3};
      case "addMap": return new int[] {inputArg(m), small(3),
          draw(3) == 0 ? value() : draw(6) == 0 ? pick(0, 1, 100, 101) : 1 + draw(6)};
      case "addWindow": {
        int size = span(true);
        int step = draw(20) == 0 ? span(true) : Math.max(1, size / (1 + draw(8)) + draw(2));
        if (draw(10) == 0) {
          step = size / 8;
        }
        return new int[] {inputArg(m), size, step, small(5), span(false)};
      }
      case "addSession": return new int[] {inputArg(m), span(true), small(5)};
      case "addJoin": return new int[] {inputArg(m), inputArg(m), span(false), span(false), small(3)};
      case "addMerge": return new int[] {inputArg(m), inputArg(m)};
      case "addSink": return new int[] {inputArg(m)};
      case "setCapacity": return new int[] {draw(8) == 0 ? pick(0, 21, -1, 20, 1) : 1 + draw(20)};
      case "offer": return new int[] {stageOfSort(m, 0), keyArg(), value(), timeArg()};
      case "close": case "wouldReplay": return new int[] {stageOfSort(m, 0)};
      case "work": case "itemsToRest":
        return new int[] {draw(10) == 0 ? pick(0, 1, 200, 201, -5) : 1 + draw(draw(3) == 0 ? 200 : 20)};
      case "queued": case "isBlocked": return new int[] {stageOfSort(m, 5, 6), draw(2)};
      case "leads": return new int[] {stageArg(m), stageArg(m)};
      case "accountAt": return new int[] {stageOfSort(m, 3, 4), keyArg(),
          draw(20) == 0 ? timeArg() : clock - draw(spread * 2 + 1) + draw(spread + 1)};
      case "nextEnd": return new int[] {stageOfSort(m, 3, 4)};
      case "outputs": case "committed": case "wouldLose": return new int[] {stageOfSort(m, 7)};
      case "keyAt": case "valueAt": case "timeAt": {
        int s = stageOfSort(m, 7);
        int n = s >= 0 && s < m.all.size() ? m.all.get(s).output.size() : 0;
        return new int[] {s, draw(15) == 0 ? pick(-1, n, n + 1, Integer.MAX_VALUE) : draw(n + 1)};
      }
      case "outputsIn": return new int[] {stageOfSort(m, 7),
          draw(10) == 0 ? pick(0, 1, 200, 201) : 1 + draw(200)};
      default: return new int[] {stageArg(m), 0};
    }
  }

  private static String nextCall(Model m, int place, int wiring) {
    if (place < wiring) {
      int d = draw(100);
      if (place == 0 || d < 8) {
        return "addSource";
      }
      if (d < 93) {
        return pick2("addFilter", "addMap", "addMap", "addWindow", "addWindow", "addSession",
            "addJoin", "addMerge", "addSink", "addSink");
      }
      return CALLS[draw(CALLS.length)];
    }
    if (!m.started) {
      return "start";
    }
    int d = draw(100);
    if (d < 38) {
      return "offer";
    }
    if (d < 56) {
      return "work";
    }
    if (d < 64) {
      return "workAt";
    }
    if (d < 68) {
      return "checkpoint";
    }
    if (d < 69) {
      return "crash";
    }
    if (d < 70 && draw(2) == 0) {
      return "close";
    }
    if (d < 72) {
      return "setCapacity";
    }
    return CALLS[18 + draw(CALLS.length - 18)];
  }

  private static String pick2(String... row) {
    return row[draw(row.length)];
  }

  private static boolean isRunSame(int run, int calls) {
    seed = run * 7919L + 12345;
    spread = pick(3, 10, 30, 120, 1000);
    keys = pick(1, 2, 5, 100);
    wild = draw(3) == 0 ? 1 : 0;
    clock = draw(10) == 0 ? 99000 : 0;
    int wiring = 2 + draw(16);
    WeirStream x = new WeirStream();
    Model m = new Model();
    for (int i = 0; i < calls; i++) {
      String name = nextCall(m, i, wiring);
      int call = callNamed(name);
      int[] a = args(name, m);
      long want = model(m, call, a);
      long got = real(x, call, a);
      if (got != want) {
        System.out.println("run " + run + ", call " + i + ": " + name
            + java.util.Arrays.toString(a) + " answered " + got + ", due is " + want);
        return false;
      }
      long wantDigest = m.digest();
      long gotDigest = x.digest();
      if (wantDigest != gotDigest) {
        System.out.println("run " + run + ", behind call " + i + " " + name
            + java.util.Arrays.toString(a) + ": digest() is not as due");
        return false;
      }
    }
    return true;
  }

  public static void main(String[] args) {
    int runs = args.length > 0 ? Integer.parseInt(args[0]) : 1200;
    int from = args.length > 1 ? Integer.parseInt(args[1]) : 0;
    int wrong = 0;
    for (int run = from; run < from + runs && wrong < 5; run++) {
      if (!isRunSame(run, run % 10 == 0 ? 511 : 250)) {
        wrong++;
      }
    }
    System.out.println(wrong == 0 ? "all runs are as due" : wrong + " runs are not as due");
    if (wrong != 0) {
      System.exit(1);
    }
  }
}

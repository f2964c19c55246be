import java.util.ArrayList;
import java.util.Arrays;

/**
 * A stream processor: stages are wired one by one, events flow between them through bounded
 * channels, and what comes out counts once its checkpoint is complete.
 *
 * <p>Two flows are held: the live one, and a trial one with the same wiring, which takes over the
 * live one's state whenever a call asks what work would do, so that asking makes nothing new.
 */
public final class WeirStream {
  private static final int SOURCE = 0;
  private static final int FILTER = 1;
  private static final int MAP = 2;
  private static final int WINDOW = 3;
  private static final int SESSION = 4;
  private static final int JOIN = 5;
  private static final int MERGE = 6;
  private static final int SINK = 7;

  private static final int MOST_STAGES = 12;
  private static final int MOST_IN_LOG = 150;
  private static final int MOST_ITEMS = 200;
  private static final int MOST_KEY = 99;
  private static final int MOST_TIME = 100000;
  private static final int MOST_SPAN = 1000;
  private static final int MOST_CAPACITY = 20;
  private static final int MOST_ACCOUNT = 5;
  private static final int MOST_RULE = 3;
  private static final int WINDOWS_OF_ONE = 8;
  private static final int MOST_KEPT = 16;
  private static final int NONE = -1;
  private static final int LAST_MARK = 1000000;

  private final Flow live = new Flow(false);
  private final Flow trial = new Flow(true);
  private boolean hasStarted;
  private int crashCount;
  private int workedCount;

  public WeirStream() {
  }

  // ---- wiring

  public int addSource(int slack) throws IllegalArgumentException, IllegalStateException {
    refuseUnless(isWithin(slack, 0, MOST_SPAN));
    refuseMoreStages();
    Plan plan = new Plan(SOURCE, NONE, NONE);
    plan.slack = slack;
    return wire(plan);
  }

  public int addFilter(int input, int test, int n)
      throws IndexOutOfBoundsException, IllegalArgumentException, IllegalStateException {
    Stage from = stageOf(input);
    refuseUnless(from.plan.sort != SINK && isWithin(test, 0, MOST_RULE) && (test != 3 || n != 0));
    refuseMoreStages();
    Plan plan = new Plan(FILTER, input, NONE);
    plan.rule = test;
    plan.n = n;
    return wire(plan);
  }

  public int addMap(int input, int rule, int n)
      throws IndexOutOfBoundsException, IllegalArgumentException, IllegalStateException {
    Stage from = stageOf(input);
    refuseUnless(from.plan.sort != SINK && isWithin(rule, 0, MOST_RULE)
        && (rule != 2 || isWithin(n, 1, MOST_KEY + 1)));
    refuseMoreStages();
    Plan plan = new Plan(MAP, input, NONE);
    plan.rule = rule;
    plan.n = n;
    return wire(plan);
  }

  public int addWindow(int input, int size, int step, int account, int lateness)
      throws IndexOutOfBoundsException, IllegalArgumentException, IllegalStateException {
    Stage from = stageOf(input);
    refuseUnless(from.plan.sort != SINK && isWithin(size, 1, MOST_SPAN) && isWithin(step, 1, size)
        && size <= WINDOWS_OF_ONE * step && isWithin(account, 0, MOST_ACCOUNT)
        && isWithin(lateness, 0, MOST_SPAN));
    refuseMoreStages();
    Plan plan = new Plan(WINDOW, input, NONE);
    plan.size = size;
    plan.step = step;
    plan.account = account;
    plan.lateness = lateness;
    return wire(plan);
  }

  public int addSession(int input, int gap, int account)
      throws IndexOutOfBoundsException, IllegalArgumentException, IllegalStateException {
    Stage from = stageOf(input);
    refuseUnless(from.plan.sort != SINK && isWithin(gap, 1, MOST_SPAN)
        && isWithin(account, 0, MOST_ACCOUNT));
    refuseMoreStages();
    Plan plan = new Plan(SESSION, input, NONE);
    plan.gap = gap;
    plan.account = account;
    return wire(plan);
  }

  public int addJoin(int left, int right, int before, int after, int rule)
      throws IndexOutOfBoundsException, IllegalArgumentException, IllegalStateException {
    Stage fromLeft = stageOf(left);
    Stage fromRight = stageOf(right);
    refuseUnless(fromLeft.plan.sort != SINK && fromRight.plan.sort != SINK && left != right
        && isWithin(before, 0, MOST_SPAN) && isWithin(after, 0, MOST_SPAN)
        && isWithin(rule, 0, MOST_RULE));
    refuseMoreStages();
    Plan plan = new Plan(JOIN, left, right);
    plan.before = before;
    plan.after = after;
    plan.rule = rule;
    return wire(plan);
  }

  public int addMerge(int first, int second)
      throws IndexOutOfBoundsException, IllegalArgumentException, IllegalStateException {
    Stage fromFirst = stageOf(first);
    Stage fromSecond = stageOf(second);
    refuseUnless(fromFirst.plan.sort != SINK && fromSecond.plan.sort != SINK && first != second);
    refuseMoreStages();
    return wire(new Plan(MERGE, first, second));
  }

  public int addSink(int input)
      throws IndexOutOfBoundsException, IllegalArgumentException, IllegalStateException {
    Stage from = stageOf(input);
    refuseUnless(from.plan.sort != SINK);
    refuseMoreStages();
    return wire(new Plan(SINK, input, NONE));
  }

  public int start() throws IllegalStateException {
    // A stage without an input is a SOURCE, so with any stage at all there is one.
    if (hasStarted || live.size() == 0) {
      throw new IllegalStateException();
    }
    hasStarted = true;
    return live.size();
  }

  public int setCapacity(int capacity) throws IllegalArgumentException {
    refuseUnless(isWithin(capacity, 1, MOST_CAPACITY));
    int before = live.capacity;
    live.capacity = capacity;
    return before;
  }

  // ---- flow

  public int offer(int source, int key, int value, int time)
      throws IndexOutOfBoundsException, IllegalArgumentException, IllegalStateException {
    Stage stage = sourceOf(source);
    refuseUnless(isWithin(key, 0, MOST_KEY) && isWithin(time, 0, MOST_TIME));
    refuseUnlessOpen(stage);
    if (stage.log.length() >= MOST_IN_LOG) {
      throw new IllegalStateException();
    }
    stage.log.add(Item.event(key, value, time));
    return stage.log.length();
  }

  public int close(int source)
      throws IndexOutOfBoundsException, IllegalArgumentException, IllegalStateException {
    Stage stage = sourceOf(source);
    refuseUnlessOpen(stage);
    stage.isClosed = true;
    return stage.unread();
  }

  public int work(int items) throws IllegalArgumentException, IllegalStateException {
    refuseUnless(isWithin(items, 1, MOST_ITEMS));
    refuseUnlessStarted();
    int done = 0;
    while (done < items && live.step(live.nextToWork())) {
      done++;
    }
    workedCount += done;
    return done;
  }

  public boolean workAt(int stage) throws IndexOutOfBoundsException, IllegalStateException {
    Stage found = stageOf(stage);
    refuseUnlessStarted();
    if (!found.canWork(live.capacity) || !live.step(stage)) {
      return false;
    }
    workedCount++;
    return true;
  }

  public int checkpoint() throws IllegalStateException {
    refuseUnlessStarted();
    if (live.begunNumber != 0) {
      throw new IllegalStateException();
    }
    return live.beginCheckpoint();
  }

  public int crash() throws IllegalStateException {
    refuseUnlessStarted();
    crashCount++;
    return live.goBack();
  }

  // ---- stages, asked

  public int stages() {
    return live.size();
  }

  public boolean isStarted() {
    return hasStarted;
  }

  public int sortOf(int stage) throws IndexOutOfBoundsException {
    return stageOf(stage).plan.sort;
  }

  public int markOf(int stage) throws IndexOutOfBoundsException {
    return stageOf(stage).now.mark;
  }

  public int taken(int stage) throws IndexOutOfBoundsException {
    return stageOf(stage).now.taken;
  }

  public int emitted(int stage) throws IndexOutOfBoundsException {
    return stageOf(stage).now.emitted;
  }

  public int late(int stage) throws IndexOutOfBoundsException {
    return stageOf(stage).now.late;
  }

  public int kept(int stage) throws IndexOutOfBoundsException {
    Stage found = stageOf(stage);
    return found.plan.sort == SOURCE ? found.unread() : found.now.keptCount();
  }

  public boolean isReady(int stage) throws IndexOutOfBoundsException {
    return stageOf(stage).canWork(live.capacity);
  }

  public boolean hasRoom(int stage) throws IndexOutOfBoundsException {
    return stageOf(stage).outlet.isBelow(live.capacity);
  }

  public int queued(int stage, boolean isSecond) throws IndexOutOfBoundsException {
    Channel channel = stageOf(stage).channel(isSecond);
    return channel == null ? NONE : channel.length();
  }

  public boolean isBlocked(int stage, boolean isSecond) throws IndexOutOfBoundsException {
    Channel channel = stageOf(stage).channel(isSecond);
    return channel != null && channel.isShut;
  }

  public boolean leads(int stage, int other) throws IndexOutOfBoundsException {
    stageOf(stage);
    return (stageOf(other).plan.upstream >> stage & 1) == 1;
  }

  public int depthOf(int stage) throws IndexOutOfBoundsException {
    return stageOf(stage).plan.depth;
  }

  public int accountAt(int stage, int key, int time)
      throws IndexOutOfBoundsException, IllegalArgumentException {
    Stage found = spanStageOf(stage);
    Spans spans = found.now.spans;
    int place = spans.placeOf(key, time);
    return place == NONE ? 0 : Account.answer(found.plan.account, spans.accountAtPlace(place));
  }

  public int nextEnd(int stage) throws IndexOutOfBoundsException, IllegalArgumentException {
    Stage found = spanStageOf(stage);
    Spans spans = found.now.spans;
    int place = spans.firstEndingAbove(found.now.mark);
    return place < spans.length() ? spans.endAt(place) : NONE;
  }

  // ---- what came out

  public int outputs(int sink) throws IndexOutOfBoundsException, IllegalArgumentException {
    return sinkOf(sink).now.outputCount;
  }

  public int committed(int sink) throws IndexOutOfBoundsException, IllegalArgumentException {
    return sinkOf(sink).latest.outputCount;
  }

  public int keyAt(int sink, int place) throws IndexOutOfBoundsException, IllegalArgumentException {
    return Item.key(outputAt(sink, place));
  }

  public int valueAt(int sink, int place)
      throws IndexOutOfBoundsException, IllegalArgumentException {
    return Item.value(outputAt(sink, place));
  }

  public int timeAt(int sink, int place)
      throws IndexOutOfBoundsException, IllegalArgumentException {
    return Item.time(outputAt(sink, place));
  }

  public int complete() {
    return live.completeNumber;
  }

  public int begun() {
    return live.begunNumber;
  }

  public int crashes() {
    return crashCount;
  }

  public int worked() {
    return workedCount;
  }

  public int inFlight() {
    return live.waiting();
  }

  public int next() {
    return live.nextToWork();
  }

  public double meanQueue() {
    int channels = live.channels();
    return channels == 0 ? 0.0 : (double) live.waiting() / (double) channels;
  }

  // ---- what would be (nothing is changed)

  public int itemsToRest(int most) throws IllegalArgumentException {
    refuseUnless(isWithin(most, 1, MOST_ITEMS));
    trial.become(live);
    int done = 0;
    while (done < most && trial.step(trial.nextToWork())) {
      done++;
    }
    return trial.nextToWork() == NONE ? done : NONE;
  }

  public int outputsIn(int sink, int items)
      throws IndexOutOfBoundsException, IllegalArgumentException {
    int before = sinkOf(sink).now.outputCount;
    refuseUnless(isWithin(items, 1, MOST_ITEMS));
    trial.become(live);
    int done = 0;
    while (done < items && trial.step(trial.nextToWork())) {
      done++;
    }
    Stage tried = trial.at(sink);
    return tried == null ? before : tried.now.outputCount;
  }

  public int wouldLose(int sink) throws IndexOutOfBoundsException, IllegalArgumentException {
    Stage stage = sinkOf(sink);
    return stage.now.outputCount - stage.latest.outputCount;
  }

  public int wouldReplay(int source) throws IndexOutOfBoundsException, IllegalArgumentException {
    Stage stage = sourceOf(source);
    return stage.now.taken - stage.latest.taken;
  }

  public long digest() {
    long d = 58014;
    d = d * 31 + stages();
    d = d * 31 + bit(isStarted());
    d = d * 31 + complete();
    d = d * 31 + begun();
    d = d * 31 + crashes();
    d = d * 31 + worked();
    d = d * 31 + inFlight();
    d = d * 31 + next();
    for (int i = 0; i < live.size(); i++) {
      d = digestOfStage(d, i);
    }
    return d;
  }

  private long digestOfStage(long before, int stage) {
    long d = before;
    d = d * 31 + sortOf(stage);
    d = d * 31 + markOf(stage);
    d = d * 31 + taken(stage);
    d = d * 31 + emitted(stage);
    d = d * 31 + late(stage);
    d = d * 31 + kept(stage);
    d = d * 31 + bit(isReady(stage));
    d = d * 31 + bit(hasRoom(stage));
    d = d * 31 + queued(stage, false);
    d = d * 31 + bit(isBlocked(stage, false));
    d = d * 31 + queued(stage, true);
    d = d * 31 + bit(isBlocked(stage, true));
    d = d * 31 + depthOf(stage);
    int sort = sortOf(stage);
    if (sort == WINDOW || sort == SESSION) {
      d = d * 31 + nextEnd(stage);
    }
    return sort == SINK ? digestOfOutput(d, stage) : d;
  }

  private long digestOfOutput(long before, int sink) {
    long d = before;
    int length = outputs(sink);
    d = d * 31 + length;
    d = d * 31 + committed(sink);
    for (int i = 0; i < length; i++) {
      long event = outputAt(sink, i);
      d = d * 31 + Item.key(event);
      d = d * 31 + Item.value(event);
      d = d * 31 + Item.time(event);
    }
    return d;
  }

  private static int bit(boolean is) {
    return is ? 1 : 0;
  }

  // ---- what is refused

  private static boolean isWithin(int n, int least, int most) {
    return n >= least && n <= most;
  }

  private static void refuseUnless(boolean isAllowed) {
    if (!isAllowed) {
      throw new IllegalArgumentException();
    }
  }

  private void refuseMoreStages() {
    if (hasStarted || live.size() >= MOST_STAGES) {
      throw new IllegalStateException();
    }
  }

  private void refuseUnlessStarted() {
    if (!hasStarted) {
      throw new IllegalStateException();
    }
  }

  private void refuseUnlessOpen(Stage source) {
    if (!hasStarted || source.isClosed) {
      throw new IllegalStateException();
    }
  }

  private Stage stageOf(int stage) {
    Stage found = live.at(stage);
    if (found == null) {
      throw new IndexOutOfBoundsException();
    }
    return found;
  }

  private Stage sourceOf(int stage) {
    Stage found = stageOf(stage);
    refuseUnless(found.plan.sort == SOURCE);
    return found;
  }

  private Stage spanStageOf(int stage) {
    Stage found = stageOf(stage);
    refuseUnless(found.plan.sort == WINDOW || found.plan.sort == SESSION);
    return found;
  }

  private Stage sinkOf(int stage) {
    Stage found = stageOf(stage);
    refuseUnless(found.plan.sort == SINK);
    return found;
  }

  private long outputAt(int sink, int place) {
    Stage stage = sinkOf(sink);
    refuseUnless(place >= 0 && place < stage.now.outputCount);
    return stage.output.at(place);
  }

  private int wire(Plan plan) {
    int number = live.size();
    plan.standBehind(planOf(plan.first), plan.first);
    plan.standBehind(planOf(plan.second), plan.second);
    Row log = new Row();
    live.add(plan, log);
    trial.add(plan, log);
    return number;
  }

  private Plan planOf(int stage) {
    Stage found = live.at(stage);
    return found == null ? null : found.plan;
  }

  /** A row of numbers that grows at its end; what is read beyond its ends is 0. */
  private static final class Row {
    private static final int FIRST_ROOM = 8;
    // Far above what 512 calls can bring together.
    private static final int MOST_ROOM = 1 << 23;

    private long[] cells = new long[FIRST_ROOM];
    private int length;

    int length() {
      return length;
    }

    long at(int place) {
      return place >= 0 && place < length && place < cells.length ? cells[place] : 0;
    }

    void put(int place, long cell) {
      if (place >= 0 && place < length && place < cells.length) {
        cells[place] = cell;
      }
    }

    void add(long cell) {
      if (length >= cells.length && cells.length < MOST_ROOM) {
        cells = Arrays.copyOf(cells, cells.length * 2);
      }
      if (length >= 0 && length < cells.length) {
        cells[length] = cell;
        length++;
      }
    }

    void insert(int place, long cell) {
      if (length >= cells.length && cells.length < MOST_ROOM) {
        cells = Arrays.copyOf(cells, cells.length * 2);
      }
      if (place >= 0 && place <= length && length < cells.length) {
        System.arraycopy(cells, place, cells, place + 1, length - place);
        cells[place] = cell;
        length++;
      }
    }

    /** Removes some cells, those behind them move up. */
    void remove(int place, int count) {
      if (place >= 0 && count > 0 && place <= length - count && length <= cells.length) {
        System.arraycopy(cells, place + count, cells, place, length - place - count);
        length -= count;
      }
    }

    void shorten(int newLength) {
      if (newLength >= 0 && newLength < length) {
        length = newLength;
      }
    }

    /** Takes over what another row has from a place on. */
    void become(Row other, int place) {
      int from = Math.max(0, Math.min(place, other.length));
      int wanted = other.length - from;
      if (wanted > cells.length && wanted <= MOST_ROOM) {
        int room = FIRST_ROOM;
        for (int i = 0; i < 30 && room < wanted; i++) {
          room *= 2;
        }
        cells = new long[room];
      }
      if (wanted <= cells.length && other.length <= other.cells.length) {
        System.arraycopy(other.cells, from, cells, 0, wanted);
        length = wanted;
      }
    }
  }

  /** What flows, as one number each: 2 bits of kind, 20 of time, 8 of key, 32 of value. */
  private static final class Item {
    private static final int EVENT = 0;
    private static final int MARK = 1;
    private static final int BARRIER = 2;

    static long event(int key, int value, int time) {
      return (long) time << 40 | (long) key << 32 | value & 0xFFFFFFFFL;
    }

    static long mark(int time) {
      return (long) MARK << 60 | (long) time << 40;
    }

    static long barrier() {
      return (long) BARRIER << 60;
    }

    static int kind(long item) {
      return (int) (item >>> 60);
    }

    static int time(long item) {
      return (int) (item >>> 40 & 0xFFFFF);
    }

    static int key(long item) {
      return (int) (item >>> 32 & 0xFF);
    }

    static int value(long item) {
      return (int) item;
    }
  }

  /**
   * Accounts of events, as one number each: in the low half the value, in the high half the time of
   * the event that gave it (account 4), or how many events there are (the others).
   */
  private static final class Account {
    private static final int COUNT = 0;
    private static final int SUM = 1;
    private static final int LEAST = 2;
    private static final int GREATEST = 3;
    private static final int LATEST = 4;
    private static final int MEAN = 5;

    private static long cell(int value, int beside) {
      return (long) beside << 32 | value & 0xFFFFFFFFL;
    }

    private static int value(long cell) {
      return (int) cell;
    }

    private static int beside(long cell) {
      return (int) (cell >> 32);
    }

    static long ofOne(int account, long event) {
      int value = account == COUNT ? 1 : Item.value(event);
      return cell(value, account == LATEST ? Item.time(event) : 1);
    }

    /** Of two parts, the second of which came to the stage last where their times are the same. */
    static long ofBoth(int account, long one, long other) {
      int a = value(one);
      int b = value(other);
      int count = beside(one) + beside(other);
      switch (account) {
        case LEAST:
          return cell(Math.min(a, b), count);
        case GREATEST:
          return cell(Math.max(a, b), count);
        case LATEST:
          return beside(other) >= beside(one) ? other : one;
        default:
          return cell(a + b, count);
      }
    }

    static int answer(int account, long cell) {
      int count = beside(cell);
      return account == MEAN && count != 0 ? value(cell) / count : value(cell);
    }
  }

  /**
   * Windows or sessions, by rising ends, then keys, then begins: each has a name, a number made of
   * the three so that the rising names give that order, and an account.
   */
  private static final class Spans {
    // The begins of windows go down to -999.
    private static final int BEGIN_SHIFT = 1000;

    private final Row names = new Row();
    private final Row accounts = new Row();

    static long name(int end, int key, int begin) {
      return (long) end << 29 | (long) key << 21 | (begin + BEGIN_SHIFT);
    }

    int length() {
      return names.length();
    }

    int endAt(int place) {
      return (int) (names.at(place) >> 29);
    }

    int keyAtPlace(int place) {
      return (int) (names.at(place) >> 21 & 0xFF);
    }

    int beginAt(int place) {
      return (int) (names.at(place) & 0x1FFFFF) - BEGIN_SHIFT;
    }

    long accountAtPlace(int place) {
      return accounts.at(place);
    }

    /** The first place whose name is not below this one. */
    int placeFor(long name) {
      int low = 0;
      int high = names.length();
      for (int i = 0; i < 40 && low < high; i++) {
        int middle = (low + high) >>> 1;
        if (names.at(middle) < name) {
          low = middle + 1;
        } else {
          high = middle;
        }
      }
      return low;
    }

    int firstEndingAbove(int time) {
      return placeFor((long) (time + 1) << 29);
    }

    /** The first one of a key that has this time. */
    int placeOf(int key, int time) {
      for (int i = 0; i < names.length(); i++) {
        if (keyAtPlace(i) == key && beginAt(i) <= time && time < endAt(i)) {
          return i;
        }
      }
      return NONE;
    }

    boolean isAt(int place, long name) {
      return place < names.length() && names.at(place) == name;
    }

    void insert(int place, long name, long account) {
      names.insert(place, name);
      accounts.insert(place, account);
    }

    void setAccount(int place, long account) {
      accounts.put(place, account);
    }

    void remove(int place, int count) {
      names.remove(place, count);
      accounts.remove(place, count);
    }

    void become(Spans other) {
      names.become(other.names, 0);
      accounts.become(other.accounts, 0);
    }
  }

  /** How a stage was wired: it stays so, and both flows share it. */
  private static final class Plan {
    private final int sort;
    private final int first;
    private final int second;
    private int slack;
    private int rule;
    private int n;
    private int size;
    private int step;
    private int lateness;
    private int gap;
    private int before;
    private int after;
    private int account;
    private int depth;
    // A bit for each stage that leads to it.
    private int upstream;

    Plan(int sort, int first, int second) {
      this.sort = sort;
      this.first = first;
      this.second = second;
    }

    void standBehind(Plan input, int number) {
      if (input != null) {
        depth = Math.max(depth, input.depth + 1);
        upstream |= input.upstream | 1 << number;
      }
    }
  }

  /** One of the channels that lead from a stage; their items are the same, so they share a row. */
  private static final class Channel {
    private final Row items;
    // How many items of the row it has given already.
    private int given;
    private boolean isShut;

    Channel(Row items) {
      this.items = items;
    }

    int length() {
      return items.length() - given;
    }

    boolean canGive() {
      return !isShut && length() > 0;
    }

    long give() {
      long item = items.at(given);
      given++;
      return item;
    }
  }

  /** All channels that lead from one stage. */
  private static final class Outlet {
    private final Row items = new Row();
    private final ArrayList<Channel> channels = new ArrayList<Channel>();

    Channel open() {
      Channel channel = new Channel(items);
      channels.add(channel);
      return channel;
    }

    boolean isBelow(int capacity) {
      return items.length() - leastGiven() < capacity;
    }

    private int leastGiven() {
      int least = items.length();
      for (int i = 0; i < channels.size(); i++) {
        least = Math.min(least, channels.get(i).given);
      }
      return least;
    }

    /** Gives back the room of items that all channels gave, once these are at least half of all. */
    void forgetGiven() {
      int given = leastGiven();
      if (given > 0 && given >= items.length() / 2) {
        items.remove(0, given);
        for (int i = 0; i < channels.size(); i++) {
          channels.get(i).given -= given;
        }
      }
    }

    void empty() {
      items.shorten(0);
      for (int i = 0; i < channels.size(); i++) {
        Channel channel = channels.get(i);
        channel.given = 0;
        channel.isShut = false;
      }
    }

    void become(Outlet other) {
      int given = other.leastGiven();
      items.become(other.items, given);
      for (int i = 0; i < channels.size() && i < other.channels.size(); i++) {
        Channel channel = channels.get(i);
        Channel from = other.channels.get(i);
        channel.given = from.given - given;
        channel.isShut = from.isShut;
      }
    }
  }

  /** All of a stage that is SAVED; a new one is as at the start. */
  private static final class State {
    private int mark = -1;
    private int firstMark = -1;
    private int secondMark = -1;
    // Ahead of its first item a stage turns to its first input, as if it took from the second last.
    private boolean tookSecond = true;
    // Of a SOURCE this is its POSITION.
    private int taken;
    private int emitted;
    private int late;
    private int outputCount;
    private final Spans spans = new Spans();
    private final Row left = new Row();
    private final Row right = new Row();

    int keptCount() {
      return spans.length() + left.length() + right.length();
    }

    void become(State other) {
      mark = other.mark;
      firstMark = other.firstMark;
      secondMark = other.secondMark;
      tookSecond = other.tookSecond;
      taken = other.taken;
      emitted = other.emitted;
      late = other.late;
      outputCount = other.outputCount;
      spans.become(other.spans);
      left.become(other.left, 0);
      right.become(other.right, 0);
    }
  }

  /** One stage, and what it does with events and marks as its sort says. */
  private static final class Stage {
    private final Plan plan;
    private final Row log;
    private final Channel first;
    private final Channel second;
    private final boolean isTrial;
    private final Outlet outlet = new Outlet();
    private final Row output = new Row();
    private final State now = new State();
    // As the latest complete checkpoint SAVED it; without one this is as at the start.
    private State latest = new State();
    // As the checkpoint that was begun SAVED it.
    private State coming = new State();
    private boolean isClosed;
    private boolean owesBarrier;

    Stage(Plan plan, Row log, Channel first, Channel second, boolean isTrial) {
      this.plan = plan;
      this.log = log;
      this.first = first;
      this.second = second;
      this.isTrial = isTrial;
    }

    Channel channel(boolean isSecond) {
      return isSecond ? second : first;
    }

    int unread() {
      return log.length() - now.taken;
    }

    boolean canWork(int capacity) {
      if (!outlet.isBelow(capacity)) {
        return false;
      }
      if (plan.sort == SOURCE) {
        return owesBarrier || unread() > 0 || isClosed && now.mark != LAST_MARK;
      }
      return first != null && first.canGive() || second != null && second.canGive();
    }

    /** Whether the next item comes from the second input: the turns change where both can give. */
    boolean turnsToSecond() {
      if (second == null || !second.canGive()) {
        return false;
      }
      return !now.tookSecond || first == null || !first.canGive();
    }

    void emit(long item) {
      // Marks and barriers are not counted.
      if (Item.kind(item) == Item.EVENT) {
        now.emitted++;
      }
      // Where no channel leads, nothing would ever take the item away.
      if (outlet.channels.size() > 0) {
        outlet.items.add(item);
      }
    }

    /** Emits the next event of the LOG; answers the mark that is due then, at the end the last one. */
    int read() {
      if (unread() <= 0) {
        return LAST_MARK;
      }
      long event = log.at(now.taken);
      now.taken++;
      emit(event);
      return Item.time(event) - plan.slack;
    }

    void takeEvent(long event, boolean isSecond) {
      now.taken++;
      switch (plan.sort) {
        case FILTER:
          if (passes(event)) {
            emit(event);
          }
          break;
        case MAP:
          emit(mapped(event));
          break;
        case WINDOW:
          takeIntoWindows(event);
          break;
        case SESSION:
          takeIntoSession(event);
          break;
        case JOIN:
          takeIntoJoin(event, isSecond);
          break;
        case MERGE:
          emit(event);
          break;
        default:
          putOut(event);
          break;
      }
    }

    private boolean passes(long event) {
      int value = Item.value(event);
      int n = plan.n;
      switch (plan.rule) {
        case 0:
          return value >= n;
        case 1:
          return value < n;
        case 2:
          return Item.key(event) == n;
        default:
          return n != 0 && Math.floorMod(value, n) == 0;
      }
    }

    private long mapped(long event) {
      int key = Item.key(event);
      int value = Item.value(event);
      int time = Item.time(event);
      int n = plan.n;
      switch (plan.rule) {
        case 0:
          return Item.event(key, value + n, time);
        case 1:
          return Item.event(key, value * n, time);
        case 2:
          return Item.event(n < 1 ? key : Math.floorMod(value, n), value, time);
        default:
          return Item.event(key, key, time);
      }
    }

    private void putOut(long event) {
      now.outputCount++;
      // A trial is asked only how many came out.
      if (!isTrial) {
        output.add(event);
      }
    }

    private void takeIntoWindows(long event) {
      int time = Item.time(event);
      int lastBegin = plan.step < 1 ? time : Math.floorDiv(time, plan.step) * plan.step;
      boolean isLate = true;
      for (int back = WINDOWS_OF_ONE - 1; back >= 0; back--) {
        int begin = lastBegin - back * plan.step;
        int end = begin + plan.size;
        if (end > time && now.mark < end + plan.lateness) {
          isLate = false;
          int place = takeIntoWindow(event, begin, end);
          if (now.mark >= end) {
            fire(place);
          }
        }
      }
      if (isLate) {
        now.late++;
      }
    }

    private int takeIntoWindow(long event, int begin, int end) {
      Spans spans = now.spans;
      long name = Spans.name(end, Item.key(event), begin);
      int place = spans.placeFor(name);
      long account = Account.ofOne(plan.account, event);
      if (spans.isAt(place, name)) {
        account = Account.ofBoth(plan.account, spans.accountAtPlace(place), account);
        spans.setAccount(place, account);
      } else {
        spans.insert(place, name, account);
      }
      return place;
    }

    private void takeIntoSession(long event) {
      Spans spans = now.spans;
      int key = Item.key(event);
      int time = Item.time(event);
      int begin = time;
      int end = time + plan.gap;
      // Sessions end above the mark, so what grows together with one of them is never LATE.
      boolean isLate = end <= now.mark;
      long account = Account.ofOne(plan.account, event);
      for (int i = spans.length() - 1; i >= 0; i--) {
        if (spans.keyAtPlace(i) == key && spans.beginAt(i) < time + plan.gap
            && spans.endAt(i) > time) {
          isLate = false;
          begin = Math.min(begin, spans.beginAt(i));
          end = Math.max(end, spans.endAt(i));
          // Two sessions of a key never have the same greatest time, so their order is no matter.
          account = Account.ofBoth(plan.account, spans.accountAtPlace(i), account);
          spans.remove(i, 1);
        }
      }
      if (isLate) {
        now.late++;
        return;
      }
      long name = Spans.name(end, key, begin);
      spans.insert(spans.placeFor(name), name, account);
    }

    private void fire(int place) {
      int value = Account.answer(plan.account, now.spans.accountAtPlace(place));
      emit(Item.event(now.spans.keyAtPlace(place), value, now.spans.endAt(place) - 1));
    }

    private void takeIntoJoin(long event, boolean isSecond) {
      if (Item.time(event) < now.mark) {
        now.late++;
        return;
      }
      Row others = isSecond ? now.left : now.right;
      for (int i = 0; i < others.length(); i++) {
        long left = isSecond ? others.at(i) : event;
        long right = isSecond ? event : others.at(i);
        if (meets(left, right)) {
          int time = Math.max(Item.time(left), Item.time(right));
          emit(Item.event(Item.key(left), joined(Item.value(left), Item.value(right)), time));
        }
      }
      Row own = isSecond ? now.right : now.left;
      own.add(event);
      if (own.length() > MOST_KEPT) {
        own.remove(0, 1);
      }
    }

    private boolean meets(long left, long right) {
      int leftTime = Item.time(left);
      int rightTime = Item.time(right);
      return Item.key(left) == Item.key(right) && leftTime - plan.before <= rightTime
          && rightTime <= leftTime + plan.after;
    }

    private int joined(int left, int right) {
      switch (plan.rule) {
        case 0:
          return left + right;
        case 1:
          return left - right;
        case 2:
          return left * right;
        default:
          return left;
      }
    }

    /** Notes the latest mark of an input; answers the least of all inputs. */
    int leastMark(int time, boolean isSecond) {
      if (isSecond) {
        now.secondMark = time;
      } else {
        now.firstMark = time;
      }
      return second == null ? now.firstMark : Math.min(now.firstMark, now.secondMark);
    }

    /** Nothing happens, if this is not above its mark. */
    void raiseMark(int time) {
      if (time <= now.mark) {
        return;
      }
      int before = now.mark;
      now.mark = time;
      if (plan.sort == WINDOW || plan.sort == SESSION) {
        fireFrom(before);
      } else if (plan.sort == JOIN) {
        forgetBelow(now.left, time - plan.after);
        forgetBelow(now.right, time - plan.before);
      }
      emit(Item.mark(time));
    }

    /** Fires what the mark has passed since it was this; a SESSION has no lateness. */
    private void fireFrom(int before) {
      int stop = now.spans.firstEndingAbove(now.mark);
      for (int i = now.spans.firstEndingAbove(before); i < stop; i++) {
        fire(i);
      }
      now.spans.remove(0, now.spans.firstEndingAbove(now.mark - plan.lateness));
    }

    private static void forgetBelow(Row events, int time) {
      for (int i = events.length() - 1; i >= 0; i--) {
        if (Item.time(events.at(i)) < time) {
          events.remove(i, 1);
        }
      }
    }

    void adoptSaved() {
      State old = latest;
      latest = coming;
      coming = old;
    }

    void goBack() {
      now.become(latest);
      output.shorten(latest.outputCount);
      outlet.empty();
      owesBarrier = false;
    }

    /** Takes over what matters for work; the LOG is shared, and the OUTPUT is only counted. */
    void become(Stage other) {
      now.become(other.now);
      outlet.become(other.outlet);
      isClosed = other.isClosed;
      owesBarrier = other.owesBarrier;
    }
  }

  /** All stages, and how work and checkpoints go over them. */
  private static final class Flow {
    private final boolean isTrial;
    private final ArrayList<Stage> stages = new ArrayList<Stage>();
    private int capacity = 8;
    private int lastWorked = NONE;
    private int begunCount;
    private int begunNumber;
    private int completeNumber;
    private int unsaved;

    Flow(boolean isTrial) {
      this.isTrial = isTrial;
    }

    int size() {
      return stages.size();
    }

    Stage at(int number) {
      return number >= 0 && number < stages.size() ? stages.get(number) : null;
    }

    void add(Plan plan, Row log) {
      stages.add(new Stage(plan, log, channelFrom(plan.first), channelFrom(plan.second), isTrial));
    }

    private Channel channelFrom(int input) {
      Stage from = at(input);
      return from == null ? null : from.outlet.open();
    }

    int channels() {
      int count = 0;
      for (int i = 0; i < stages.size(); i++) {
        count += stages.get(i).outlet.channels.size();
      }
      return count;
    }

    int waiting() {
      int count = 0;
      for (int i = 0; i < stages.size(); i++) {
        Stage stage = stages.get(i);
        count += stage.first == null ? 0 : stage.first.length();
        count += stage.second == null ? 0 : stage.second.length();
      }
      return count;
    }

    int nextToWork() {
      int count = stages.size();
      for (int i = 1; i <= count; i++) {
        int number = lastWorked + i;
        Stage stage = at(number < count ? number : number - count);
        if (stage != null && stage.canWork(capacity)) {
          return number < count ? number : number - count;
        }
      }
      return NONE;
    }

    /** Lets a stage work that is READY; answers whether there is such a stage. */
    boolean step(int number) {
      Stage stage = at(number);
      if (stage == null) {
        return false;
      }
      lastWorked = number;
      stage.outlet.forgetGiven();
      if (stage.plan.sort == SOURCE) {
        if (stage.owesBarrier) {
          passBarrier(stage);
        } else {
          stage.raiseMark(stage.read());
        }
        return true;
      }
      boolean isSecond = stage.turnsToSecond();
      Channel channel = stage.channel(isSecond);
      if (channel == null || !channel.canGive()) {
        return false;
      }
      long item = channel.give();
      stage.now.tookSecond = isSecond;
      int kind = Item.kind(item);
      if (kind == Item.EVENT) {
        stage.takeEvent(item, isSecond);
      } else if (kind == Item.MARK) {
        stage.raiseMark(stage.leastMark(Item.time(item), isSecond));
      } else {
        takeBarrier(stage, channel, stage.channel(!isSecond));
      }
      return true;
    }

    private void takeBarrier(Stage stage, Channel channel, Channel other) {
      if (other != null && !other.isShut) {
        channel.isShut = true;
        return;
      }
      if (other != null) {
        other.isShut = false;
      }
      passBarrier(stage);
    }

    private void passBarrier(Stage stage) {
      stage.owesBarrier = false;
      stage.emit(Item.barrier());
      // What a trial SAVES is never asked for, and completing changes no work.
      if (isTrial) {
        return;
      }
      stage.coming.become(stage.now);
      unsaved--;
      if (unsaved == 0) {
        completeCheckpoint();
      }
    }

    private void completeCheckpoint() {
      for (int i = 0; i < stages.size(); i++) {
        stages.get(i).adoptSaved();
      }
      completeNumber = begunNumber;
      begunNumber = 0;
    }

    int beginCheckpoint() {
      begunCount++;
      begunNumber = begunCount;
      unsaved = stages.size();
      for (int i = 0; i < stages.size(); i++) {
        Stage stage = stages.get(i);
        stage.owesBarrier = stage.plan.sort == SOURCE;
      }
      return begunNumber;
    }

    int goBack() {
      for (int i = 0; i < stages.size(); i++) {
        stages.get(i).goBack();
      }
      begunNumber = 0;
      lastWorked = NONE;
      return completeNumber;
    }

    void become(Flow other) {
      capacity = other.capacity;
      lastWorked = other.lastWorked;
      for (int i = 0; i < stages.size() && i < other.stages.size(); i++) {
        stages.get(i).become(other.stages.get(i));
      }
    }
  }
}

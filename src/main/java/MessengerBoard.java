import java.util.Arrays;
import java.util.NoSuchElementException;

public final class MessengerBoard {
  public static final int NONE = -1;
  public static final int HIDDEN = -1000000000;

  private static final int MIN_SIDE = 3;
  private static final int MAX_SIDE = 12;
  private static final int CELLS = MAX_SIDE * MAX_SIDE;
  private static final int MAX_UNITS = 6;
  private static final int MAX_PACE = 3;
  private static final int MAX_PICKETS = 4;
  private static final int MAX_RANGE = 3;
  private static final int MAX_PERIOD = 20;
  private static final int MAX_PLANS = 20;
  private static final int MAX_ORDERS = 40;
  // An order is obeyed at most once and ends at most once.
  private static final int MAX_EVENTS = 2 * MAX_ORDERS;
  private static final int MAX_PATIENCE = 30;
  private static final int LAST_TURN = 500;
  private static final int MAX_TURNS = 60;
  private static final int MAX_DELAY = 15;
  private static final int MAX_UNDO = 10;
  private static final int MAX_BYTES = 600;
  private static final int MAX_QUERY = 200;
  private static final int MAX_OPEN = 6;
  private static final int MESSENGER_STEPS = 2;

  private static final int UP = 0;
  private static final int RIGHT = 1;
  private static final int DOWN = 2;
  private static final int LEFT = 3;
  private static final int DIRECTIONS = 4;

  private static final int ON_ITS_WAY = 0;
  private static final int OBEYED = 1;
  private static final int DONE = 2;
  private static final int LATE = 3;
  private static final int LOST = 4;
  private static final int INTERCEPTED = 5;
  private static final int REPLACED = 6;

  // The columns of the tables are the numbers that the document gives to the properties,
  // so that most properties are read straight from them.
  private static final int UNIT_X = 0;
  private static final int UNIT_Y = 1;
  private static final int UNIT_PACE = 2;
  private static final int UNIT_GREATEST = 3;
  private static final int UNIT_OBEYS = 4;
  private static final int UNIT_AWAITS = 5;
  private static final int UNIT_COLUMNS = 4;

  private static final int PICKET_X = 0;
  private static final int PICKET_Y = 1;
  private static final int PICKET_RANGE = 2;
  private static final int PICKET_PERIOD = 3;
  private static final int PICKET_FIRST = 4;
  private static final int PICKET_LAST = 5;
  private static final int PICKET_WATCHES = 6;
  private static final int PICKET_CAUGHT = 7;
  private static final int PICKET_COLUMNS = 8;

  private static final int PLAN_UNIT = 0;
  private static final int PLAN_X = 1;
  private static final int PLAN_Y = 2;
  private static final int PLAN_TURN = 3;
  private static final int PLAN_COLUMNS = 4;

  private static final int ORDER_UNIT = 0;
  private static final int ORDER_X = 1;
  private static final int ORDER_Y = 2;
  private static final int ORDER_STATE = 3;
  private static final int ORDER_SENT = 4;
  private static final int ORDER_ARRIVED = 5;
  private static final int ORDER_ENDED = 6;
  private static final int ORDER_AT_X = 7;
  private static final int ORDER_AT_Y = 8;
  private static final int ORDER_STEPS = 9;
  private static final int ORDER_COLUMNS = 10;

  private static final int EVENT_TURN = 0;
  private static final int EVENT_ORDER = 1;
  private static final int EVENT_STATE = 2;
  private static final int EVENT_COLUMNS = 3;

  private static final int NOT_ALLOWED = 1;
  private static final int OUT_OF_RANGE = 2;
  private static final int TOO_MANY = 3;
  private static final int IN_THE_WAY = 4;

  private final Situation now = new Situation();
  // Takes what may be thrown away: a text that is still being checked, or turns that are only tried.
  private final Situation trial = new Situation();
  private final Trail trail = new Trail();
  private final History history = new History();
  private final Paths paths = new Paths(now);
  private final Clock clock = new Clock(paths);
  private final int[] buffer = new int[MAX_BYTES];
  private final Tokens tokens = new Tokens(buffer);
  private final BoardReader boardReader = new BoardReader(tokens, trial);
  private final QueryReader queryReader = new QueryReader(tokens, now);
  private final int[] text = new int[MAX_SIDE];
  // Made when first needed and kept, so that an object that saves nothing takes little room.
  private Situation saved;
  private Trail savedTrail;
  private boolean hasSnapshot;
  private int buffered;
  private int errorAt = NONE;
  private int textLength;

  public MessengerBoard() {
  }

  public int feed(int a, int b, int c, int d, int e) {
    if (buffered > MAX_BYTES - 20) {
      return NONE;
    }
    appendBytes(a);
    appendBytes(b);
    appendBytes(c);
    appendBytes(d);
    appendBytes(e);
    return buffered;
  }

  private void appendBytes(int word) {
    for (int shift = 24; shift >= 0; shift -= 8) {
      if (buffered >= 0 && buffered < buffer.length) {
        buffer[buffered] = (word >> shift) & 255;
        buffered++;
      }
    }
  }

  public int load(int length) throws IllegalArgumentException {
    if (length < 0 || length > buffered) {
      throw new IllegalArgumentException("no such length");
    }
    buffered = 0;
    int code = boardReader.readText(length);
    errorAt = tokens.errorPlace();
    if (code != 0) {
      return -10 - code;
    }
    now.copyFrom(trial);
    paths.forget();
    history.clear();
    hasSnapshot = false;
    return now.units.count();
  }

  public int errorPosition() {
    return errorAt;
  }

  public int size(int what) throws NoSuchElementException {
    switch (what) {
      case 0:
        return now.width;
      case 1:
        return now.height;
      case 2:
        return now.units.count();
      case 3:
        return now.pickets.count();
      case 4:
        return now.orders.count();
      case 5:
        return now.turn;
      case 6:
        return now.wallCount;
      case 7:
        return now.events.count();
      case 8:
        return now.plans.count();
      case 9:
        return now.patience;
      case 10:
        return now.headquartersX;
      case 11:
        return now.headquartersY;
      default:
        throw new NoSuchElementException("no such number of the board");
    }
  }

  public int unit(int unit, int what) throws NoSuchElementException {
    needRow(now.units, unit);
    needColumn(what, UNIT_AWAITS + 1);
    if (what == UNIT_OBEYS) {
      return now.obeyedBy(unit);
    }
    if (what == UNIT_AWAITS) {
      return now.awaitedBy(unit);
    }
    return now.units.get(unit, what);
  }

  public int picket(int picket, int what) throws NoSuchElementException {
    needRow(now.pickets, picket);
    needColumn(what, PICKET_COLUMNS);
    if (what == PICKET_WATCHES) {
      return now.watches(picket, now.turn) ? 1 : 0;
    }
    return now.pickets.get(picket, what);
  }

  public int order(int order, int what) throws NoSuchElementException {
    needRow(now.orders, order);
    needColumn(what, ORDER_COLUMNS);
    return now.orders.get(order, what);
  }

  public int plan(int plan, int what) throws NoSuchElementException {
    needRow(now.plans, plan);
    needColumn(what, PLAN_COLUMNS);
    return now.plans.get(plan, what);
  }

  public int event(int event, int what) throws NoSuchElementException {
    needRow(now.events, event);
    needColumn(what, EVENT_COLUMNS);
    return now.events.get(event, what);
  }

  public int orders(int state) throws IllegalArgumentException {
    if (state < ON_ITS_WAY || state > REPLACED) {
      throw new IllegalArgumentException("no such state");
    }
    return now.ordersIn(state);
  }

  public boolean isWall(int x, int y) throws NoSuchElementException {
    needCell(x, y);
    return now.walled(x, y);
  }

  public boolean isWatched(int x, int y, int turn)
      throws NoSuchElementException, IllegalArgumentException {
    needCell(x, y);
    if (turn < 0) {
      throw new IllegalArgumentException("no such turn");
    }
    return now.watcher(x, y, turn) != NONE;
  }

  public int distance(int x, int y, int toX, int toY) throws NoSuchElementException {
    needCell(x, y);
    needCell(toX, toY);
    return paths.between(cellAt(x, y), cellAt(toX, toY));
  }

  public int step(int x, int y, int toX, int toY) throws NoSuchElementException {
    needCell(x, y);
    needCell(toX, toY);
    int next = paths.nextCell(cellAt(x, y), cellAt(toX, toY));
    return next == NONE ? NONE : nameOf(xOf(next), yOf(next));
  }

  public int wasAt(int unit, int turn) throws NoSuchElementException, IllegalArgumentException {
    needRow(now.units, unit);
    needPastTurn(turn);
    if (turn == now.turn) {
      return nameOf(now.units.get(unit, UNIT_X), now.units.get(unit, UNIT_Y));
    }
    return trail.placeOf(unit, turn);
  }

  public int stateAt(int order, int turn) throws NoSuchElementException, IllegalArgumentException {
    needRow(now.orders, order);
    needPastTurn(turn);
    if (turn <= now.orders.get(order, ORDER_SENT)) {
      return NONE;
    }
    int state = ON_ITS_WAY;
    int count = now.events.count();
    for (int event = 0; event < count; event++) {
      if (now.events.get(event, EVENT_ORDER) == order && now.events.get(event, EVENT_TURN) < turn) {
        state = now.events.get(event, EVENT_STATE);
      }
    }
    return state;
  }

  public int crossed() {
    int pairs = 0;
    int count = now.orders.count();
    for (int later = 1; later < count; later++) {
      for (int earlier = 0; earlier < later; earlier++) {
        if (now.overtakes(later, earlier)) {
          pairs++;
        }
      }
    }
    return pairs;
  }

  public int wouldBe(int unit, int x, int y, int turns)
      throws NoSuchElementException, IllegalArgumentException {
    needGoal(unit, x, y);
    needTurns(turns, 0);
    trial.copyFrom(now);
    int order = trial.addOrder(unit, x, y);
    if (order == NONE) {
      return NONE;
    }
    for (int passed = 0; passed < turns; passed++) {
      clock.passTurn(trial);
    }
    return trial.orders.get(order, ORDER_STATE);
  }

  public int wouldArrive(int unit, int x, int y)
      throws NoSuchElementException, IllegalArgumentException {
    needGoal(unit, x, y);
    return arrivalAfter(0, unit, x, y);
  }

  public int bestDelay(int unit, int x, int y)
      throws NoSuchElementException, IllegalArgumentException {
    needGoal(unit, x, y);
    for (int delay = 0; delay <= MAX_DELAY; delay++) {
      if (arrivalAfter(delay, unit, x, y) != NONE) {
        return delay;
      }
    }
    return NONE;
  }

  private int arrivalAfter(int delay, int unit, int x, int y) {
    trial.copyFrom(now);
    for (int passed = 0; passed < delay; passed++) {
      clock.passTurn(trial);
    }
    int order = trial.addOrder(unit, x, y);
    if (order == NONE) {
      return NONE;
    }
    // No order is on its way longer than the greatest patience.
    for (int turns = 0; turns <= MAX_PATIENCE; turns++) {
      clock.passTurn(trial);
      if (trial.orders.get(order, ORDER_STATE) != ON_ITS_WAY) {
        return trial.orders.get(order, ORDER_ARRIVED);
      }
    }
    return NONE;
  }

  public int failing(int turns) throws IllegalArgumentException {
    needTurns(turns, 0);
    trial.copyFrom(now);
    for (int passed = 0; passed < turns; passed++) {
      clock.passTurn(trial);
    }
    int failures = 0;
    int count = now.orders.count();
    for (int order = 0; order < count; order++) {
      int state = trial.orders.get(order, ORDER_STATE);
      boolean failed = state == LOST || state == INTERCEPTED;
      if (failed && now.orders.get(order, ORDER_STATE) == ON_ITS_WAY) {
        failures++;
      }
    }
    return failures;
  }

  public double meanDelay() {
    int delays = 0;
    int arrivals = 0;
    int count = now.orders.count();
    for (int order = 0; order < count; order++) {
      int arrived = now.orders.get(order, ORDER_ARRIVED);
      if (arrived != NONE) {
        delays += arrived - now.orders.get(order, ORDER_SENT);
        arrivals++;
      }
    }
    return arrivals > 0 ? (double) delays / (double) arrivals : 0.0;
  }

  public float success() {
    int count = now.orders.count();
    return count > 0 ? (float) now.ordersIn(DONE) / (float) count : 0.0f;
  }

  public int pass(int turns) throws IllegalArgumentException {
    needTurns(turns, 1);
    if (now.turn > LAST_TURN - turns) {
      return -2;
    }
    history.remember(now);
    int eventsBefore = now.events.count();
    for (int passed = 0; passed < turns; passed++) {
      trail.record(now);
      clock.passTurn(now);
    }
    return now.events.count() - eventsBefore;
  }

  public int send(int unit, int x, int y) throws NoSuchElementException, IllegalArgumentException {
    needGoal(unit, x, y);
    if (now.orders.count() >= MAX_ORDERS) {
      return -3;
    }
    history.remember(now);
    return now.addOrder(unit, x, y);
  }

  public int wall(int x, int y) throws NoSuchElementException {
    needCell(x, y);
    if (now.isHeadquarters(x, y) || now.lowestUnitAt(x, y) != NONE || now.hasMessengerAt(x, y)) {
      return -2;
    }
    if (now.isGoal(x, y)) {
      return -3;
    }
    history.remember(now);
    now.turnWall(x, y);
    paths.forget();
    return now.wallCount;
  }

  public int movePicket(int picket, int x, int y) throws NoSuchElementException {
    needRow(now.pickets, picket);
    needCell(x, y);
    history.remember(now);
    now.pickets.put(picket, PICKET_X, x);
    now.pickets.put(picket, PICKET_Y, y);
    // A picket's own cell is always in its range.
    return now.watches(picket, now.turn) ? 1 : 0;
  }

  public int movePlan(int plan, int turn) throws NoSuchElementException, IllegalArgumentException {
    needRow(now.plans, plan);
    if (turn < now.turn || turn >= LAST_TURN) {
      throw new IllegalArgumentException("no such turn for a plan");
    }
    int before = now.plans.get(plan, PLAN_TURN);
    if (before < now.turn) {
      return -2;
    }
    history.remember(now);
    now.plans.put(plan, PLAN_TURN, turn);
    return before;
  }

  public int setPatience(int patience) throws IllegalArgumentException {
    if (patience < 1 || patience > MAX_PATIENCE) {
      throw new IllegalArgumentException("no such patience");
    }
    history.remember(now);
    int before = now.patience;
    now.patience = patience;
    return before;
  }

  public int format(int y) throws NoSuchElementException {
    if (y < 0 || y >= now.height) {
      throw new NoSuchElementException("no such row");
    }
    textLength = Math.min(now.width, text.length);
    for (int x = 0; x < textLength; x++) {
      text[x] = signAt(x, y);
    }
    return textLength;
  }

  private int signAt(int x, int y) {
    int unit = now.lowestUnitAt(x, y);
    if (unit != NONE) {
      return '0' + unit;
    }
    if (now.hasMessengerAt(x, y)) {
      return 'm';
    }
    if (now.isHeadquarters(x, y)) {
      return 'h';
    }
    if (now.watcher(x, y, now.turn) != NONE) {
      return '!';
    }
    return now.walled(x, y) ? '#' : '.';
  }

  public int formattedByte(int index) {
    if (index < 0 || index >= textLength || index >= text.length) {
      return NONE;
    }
    return text[index];
  }

  public int undoCount() {
    return history.count();
  }

  public int undo() {
    if (!history.bringBack(now)) {
      return NONE;
    }
    paths.forget();
    return history.count();
  }

  public void saveSnapshot() {
    if (saved == null) {
      saved = new Situation();
    }
    if (savedTrail == null) {
      savedTrail = new Trail();
    }
    saved.copyFrom(now);
    savedTrail.copyFrom(trail);
    hasSnapshot = true;
  }

  public boolean restoreSnapshot() {
    if (!hasSnapshot || saved == null || savedTrail == null) {
      return false;
    }
    now.copyFrom(saved);
    trail.copyFrom(savedTrail);
    paths.forget();
    history.clear();
    return true;
  }

  public int query(int length) throws IllegalArgumentException {
    if (length < 0 || length > MAX_QUERY || length > buffered) {
      throw new IllegalArgumentException("no such length");
    }
    buffered = 0;
    int answer = queryReader.answer(length);
    errorAt = tokens.errorPlace();
    return answer;
  }

  private static void needRow(Table table, int row) {
    if (row < 0 || row >= table.count()) {
      throw new NoSuchElementException("no such unit, picket, order, plan or event");
    }
  }

  private static void needColumn(int what, int columns) {
    if (what < 0 || what >= columns) {
      throw new NoSuchElementException("no such property");
    }
  }

  private void needCell(int x, int y) {
    if (!now.hasCell(x, y)) {
      throw new NoSuchElementException("no such cell");
    }
  }

  private void needGoal(int unit, int x, int y) {
    needRow(now.units, unit);
    needCell(x, y);
    if (now.walled(x, y)) {
      throw new IllegalArgumentException("the goal is a wall");
    }
  }

  private void needPastTurn(int turn) {
    if (turn < 0 || turn > now.turn) {
      throw new IllegalArgumentException("no such turn");
    }
  }

  private static void needTurns(int turns, int least) {
    if (turns < least || turns > MAX_TURNS) {
      throw new IllegalArgumentException("no such number of turns");
    }
  }

  private static int cellAt(int x, int y) {
    return MAX_SIDE * y + x;
  }

  private static int xOf(int cell) {
    return cell % MAX_SIDE;
  }

  private static int yOf(int cell) {
    return cell / MAX_SIDE;
  }

  private static int nameOf(int x, int y) {
    return 100 * y + x;
  }

  /** Rows of numbers. A place outside of them reads as NONE and takes nothing. */
  private static final class Table {
    private final int capacity;
    private final int columns;
    private final int[] places;
    private int count;

    Table(int capacity, int columns) {
      boolean fits = capacity >= 0 && capacity <= MAX_EVENTS && columns >= 0 && columns <= ORDER_COLUMNS;
      this.capacity = fits ? capacity : 0;
      this.columns = fits ? columns : 0;
      this.places = new int[fits ? capacity * columns : 0];
    }

    int count() {
      return count;
    }

    int get(int row, int column) {
      int place = row * columns + column;
      boolean inside = row >= 0 && row < count && column >= 0 && column < columns;
      return inside && place >= 0 && place < places.length ? places[place] : NONE;
    }

    void put(int row, int column, int value) {
      int place = row * columns + column;
      boolean inside = row >= 0 && row < count && column >= 0 && column < columns;
      if (inside && place >= 0 && place < places.length) {
        places[place] = value;
      }
    }

    /** The number of a new row, which the caller fills; NONE if the table is full. */
    int add() {
      if (count >= capacity) {
        return NONE;
      }
      count++;
      return count - 1;
    }

    void clear() {
      count = 0;
    }

    void copyFrom(Table other) {
      int used = other.count * other.columns;
      if (used >= 0 && used <= places.length && used <= other.places.length) {
        System.arraycopy(other.places, 0, places, 0, used);
        count = other.count;
      }
    }
  }

  /** Everything that undoing restores, but for the trail. */
  private static final class Situation {
    int width;
    int height;
    int headquartersX;
    int headquartersY;
    int turn;
    int patience;
    int wallCount;
    final int[] walls = new int[CELLS];
    final Table units = new Table(MAX_UNITS, UNIT_COLUMNS);
    final Table pickets = new Table(MAX_PICKETS, PICKET_COLUMNS);
    final Table plans = new Table(MAX_PLANS, PLAN_COLUMNS);
    final Table orders = new Table(MAX_ORDERS, ORDER_COLUMNS);
    final Table events = new Table(MAX_EVENTS, EVENT_COLUMNS);

    Situation() {
      width = MIN_SIDE;
      height = MIN_SIDE;
      patience = MAX_PATIENCE;
    }

    void begin() {
      width = MIN_SIDE;
      height = MIN_SIDE;
      headquartersX = 0;
      headquartersY = 0;
      turn = 0;
      patience = MAX_PATIENCE;
      wallCount = 0;
      Arrays.fill(walls, 0);
      units.clear();
      pickets.clear();
      plans.clear();
      orders.clear();
      events.clear();
    }

    void copyFrom(Situation other) {
      width = other.width;
      height = other.height;
      headquartersX = other.headquartersX;
      headquartersY = other.headquartersY;
      turn = other.turn;
      patience = other.patience;
      wallCount = other.wallCount;
      System.arraycopy(other.walls, 0, walls, 0, CELLS);
      units.copyFrom(other.units);
      pickets.copyFrom(other.pickets);
      plans.copyFrom(other.plans);
      orders.copyFrom(other.orders);
      events.copyFrom(other.events);
    }

    boolean hasCell(int x, int y) {
      return x >= 0 && x < width && y >= 0 && y < height;
    }

    boolean walled(int x, int y) {
      int cell = MAX_SIDE * y + x;
      return cell >= 0 && cell < walls.length && walls[cell] != 0;
    }

    void turnWall(int x, int y) {
      int cell = cellAt(x, y);
      if (cell >= 0 && cell < walls.length) {
        walls[cell] = 1 - walls[cell];
        wallCount += walls[cell] != 0 ? 1 : -1;
      }
    }

    /** The cell beside a cell in a direction; NONE if it is a wall or outside. */
    int freeBeside(int cell, int direction) {
      int x = cell % MAX_SIDE + (direction == RIGHT ? 1 : direction == LEFT ? -1 : 0);
      int y = cell / MAX_SIDE + (direction == DOWN ? 1 : direction == UP ? -1 : 0);
      if (x < 0 || x >= width || y < 0 || y >= height) {
        return NONE;
      }
      int beside = MAX_SIDE * y + x;
      return beside >= 0 && beside < walls.length && walls[beside] == 0 ? beside : NONE;
    }

    boolean isHeadquarters(int x, int y) {
      return x == headquartersX && y == headquartersY;
    }

    int lowestUnitAt(int x, int y) {
      int count = units.count();
      for (int unit = 0; unit < count; unit++) {
        if (units.get(unit, UNIT_X) == x && units.get(unit, UNIT_Y) == y) {
          return unit;
        }
      }
      return NONE;
    }

    boolean hasMessengerAt(int x, int y) {
      int count = orders.count();
      for (int order = 0; order < count; order++) {
        if (orders.get(order, ORDER_STATE) == ON_ITS_WAY
            && orders.get(order, ORDER_AT_X) == x && orders.get(order, ORDER_AT_Y) == y) {
          return true;
        }
      }
      return false;
    }

    /** Whether an order that has not ended, or one that the plan has still to send, leads there. */
    boolean isGoal(int x, int y) {
      int sent = orders.count();
      for (int order = 0; order < sent; order++) {
        if (orders.get(order, ORDER_STATE) <= OBEYED
            && orders.get(order, ORDER_X) == x && orders.get(order, ORDER_Y) == y) {
          return true;
        }
      }
      int planned = plans.count();
      for (int plan = 0; plan < planned; plan++) {
        if (plans.get(plan, PLAN_TURN) >= turn
            && plans.get(plan, PLAN_X) == x && plans.get(plan, PLAN_Y) == y) {
          return true;
        }
      }
      return false;
    }

    boolean watches(int picket, int onTurn) {
      int period = pickets.get(picket, PICKET_PERIOD);
      if (period <= 0 || onTurn < 0) {
        return false;
      }
      int number = onTurn % period;
      return number >= pickets.get(picket, PICKET_FIRST) && number <= pickets.get(picket, PICKET_LAST);
    }

    /** The lowest picket that watches a cell on a turn; NONE without one. */
    int watcher(int x, int y, int onTurn) {
      int count = pickets.count();
      for (int picket = 0; picket < count; picket++) {
        int range = pickets.get(picket, PICKET_RANGE);
        boolean near = Math.abs(x - pickets.get(picket, PICKET_X)) <= range
            && Math.abs(y - pickets.get(picket, PICKET_Y)) <= range;
        if (near && watches(picket, onTurn)) {
          return picket;
        }
      }
      return NONE;
    }

    /** The order that a unit obeys now: none but the greatest it ever obeyed can be it. */
    int obeyedBy(int unit) {
      int greatest = units.get(unit, UNIT_GREATEST);
      return orders.get(greatest, ORDER_STATE) == OBEYED ? greatest : NONE;
    }

    int awaitedBy(int unit) {
      int awaited = 0;
      int count = orders.count();
      for (int order = 0; order < count; order++) {
        if (orders.get(order, ORDER_UNIT) == unit && orders.get(order, ORDER_STATE) == ON_ITS_WAY) {
          awaited++;
        }
      }
      return awaited;
    }

    int ordersIn(int state) {
      int found = 0;
      int count = orders.count();
      for (int order = 0; order < count; order++) {
        if (orders.get(order, ORDER_STATE) == state) {
          found++;
        }
      }
      return found;
    }

    boolean overtakes(int later, int earlier) {
      int ahead = orders.get(later, ORDER_ARRIVED);
      return ahead != NONE && ahead < orders.get(earlier, ORDER_ARRIVED)
          && orders.get(later, ORDER_UNIT) == orders.get(earlier, ORDER_UNIT);
    }

    int addUnit(int x, int y, int pace) {
      int unit = units.add();
      units.put(unit, UNIT_X, x);
      units.put(unit, UNIT_Y, y);
      units.put(unit, UNIT_PACE, pace);
      units.put(unit, UNIT_GREATEST, NONE);
      return unit;
    }

    /** The number of the new order, sent on the present turn; NONE if there are too many. */
    int addOrder(int unit, int x, int y) {
      int order = orders.add();
      orders.put(order, ORDER_UNIT, unit);
      orders.put(order, ORDER_X, x);
      orders.put(order, ORDER_Y, y);
      orders.put(order, ORDER_STATE, ON_ITS_WAY);
      orders.put(order, ORDER_SENT, turn);
      orders.put(order, ORDER_ARRIVED, NONE);
      orders.put(order, ORDER_ENDED, NONE);
      orders.put(order, ORDER_AT_X, headquartersX);
      orders.put(order, ORDER_AT_Y, headquartersY);
      orders.put(order, ORDER_STEPS, 0);
      return order;
    }

    /** Gives an order its next state, which is an event. */
    void changeOrder(int order, int state) {
      orders.put(order, ORDER_STATE, state);
      if (state != OBEYED) {
        orders.put(order, ORDER_ENDED, turn);
      }
      int event = events.add();
      events.put(event, EVENT_TURN, turn);
      events.put(event, EVENT_ORDER, order);
      events.put(event, EVENT_STATE, state);
    }
  }

  /**
   * Where the units were at the beginning of the turns that have passed. There is one for the present
   * situation and all that can be undone: undoing leads back to a turn of the same past, and the turns
   * from there on are written anew when they pass.
   */
  private static final class Trail {
    private final int[] places = new int[LAST_TURN * MAX_UNITS];

    void record(Situation situation) {
      int count = situation.units.count();
      for (int unit = 0; unit < count; unit++) {
        int place = situation.turn * MAX_UNITS + unit;
        if (place >= 0 && place < places.length) {
          places[place] =
              nameOf(situation.units.get(unit, UNIT_X), situation.units.get(unit, UNIT_Y));
        }
      }
    }

    int placeOf(int unit, int turn) {
      int place = turn * MAX_UNITS + unit;
      return place >= 0 && place < places.length ? places[place] : NONE;
    }

    void copyFrom(Trail other) {
      System.arraycopy(other.places, 0, places, 0, LAST_TURN * MAX_UNITS);
    }
  }

  /** The situations ahead of the most recent operations, in a ring that forgets the oldest one. */
  private static final class History {
    private final Situation[] ring = new Situation[MAX_UNDO];
    private int oldest;
    private int count;

    int count() {
      return count;
    }

    void clear() {
      oldest = 0;
      count = 0;
    }

    void remember(Situation situation) {
      if (count >= MAX_UNDO) {
        oldest = (oldest + 1) % MAX_UNDO;
        count = MAX_UNDO - 1;
      }
      int place = (oldest + count) % MAX_UNDO;
      if (place < 0 || place >= ring.length) {
        return;
      }
      // Made when first needed and used again ever after.
      if (ring[place] == null) {
        ring[place] = new Situation();
      }
      ring[place].copyFrom(situation);
      count++;
    }

    boolean bringBack(Situation situation) {
      if (count <= 0) {
        return false;
      }
      int place = (oldest + count - 1) % MAX_UNDO;
      if (place < 0 || place >= ring.length || ring[place] == null) {
        return false;
      }
      situation.copyFrom(ring[place]);
      count--;
      return true;
    }
  }

  /** The distances of all cells to one target. */
  private static final class Distances {
    final int[] steps = new int[CELLS];
    // Whether they hold for the walls as they are.
    boolean known;

    int from(int cell) {
      return cell >= 0 && cell < steps.length ? steps[cell] : NONE;
    }

    void set(int cell, int distance) {
      if (cell >= 0 && cell < steps.length) {
        steps[cell] = distance;
      }
    }
  }

  /** Finds ways on the board, and remembers what it found as long as the walls stay. */
  private static final class Paths {
    private final Situation situation;
    // Each made when first needed and used again ever after.
    private final Distances[] byTarget = new Distances[CELLS];
    private final int[] queue = new int[CELLS];

    Paths(Situation situation) {
      this.situation = situation;
    }

    /** To be called whenever the board or its walls change. */
    void forget() {
      for (int target = 0; target < byTarget.length; target++) {
        if (byTarget[target] != null) {
          byTarget[target].known = false;
        }
      }
    }

    int between(int from, int to) {
      Distances distances = toward(to);
      return distances == null ? NONE : distances.from(from);
    }

    /** The cell of the step toward a target: the target itself from there; NONE if no way leads to it. */
    int nextCell(int from, int to) {
      Distances distances = toward(to);
      if (distances == null) {
        return NONE;
      }
      int here = distances.from(from);
      if (here <= 0) {
        return here == 0 ? from : NONE;
      }
      for (int direction = UP; direction < DIRECTIONS; direction++) {
        int beside = situation.freeBeside(from, direction);
        int there = distances.from(beside);
        if (there != NONE && there < here) {
          return beside;
        }
      }
      return NONE;
    }

    private Distances toward(int target) {
      if (target < 0 || target >= byTarget.length) {
        return null;
      }
      if (byTarget[target] == null) {
        byTarget[target] = new Distances();
      }
      Distances distances = byTarget[target];
      if (distances.known) {
        return distances;
      }
      Arrays.fill(distances.steps, NONE);
      distances.known = true;
      int queued = 0;
      if (!situation.walled(xOf(target), yOf(target))) {
        distances.set(target, 0);
        queue[0] = target;
        queued = 1;
      }
      for (int head = 0; head < queued && head < queue.length; head++) {
        int cell = queue[head];
        for (int direction = UP; direction < DIRECTIONS; direction++) {
          int beside = situation.freeBeside(cell, direction);
          if (beside != NONE && distances.from(beside) == NONE && queued < queue.length) {
            distances.set(beside, distances.from(cell) + 1);
            queue[queued] = beside;
            queued++;
          }
        }
      }
      return distances;
    }
  }

  /** Lets turns pass, in the present situation or in one that is only tried with the same walls. */
  private static final class Clock {
    private final Paths paths;

    Clock(Paths paths) {
      this.paths = paths;
    }

    void passTurn(Situation situation) {
      sendPlanned(situation);
      int orders = situation.orders.count();
      for (int order = 0; order < orders; order++) {
        if (situation.orders.get(order, ORDER_STATE) == ON_ITS_WAY) {
          carry(situation, order);
        }
      }
      for (int order = 0; order < orders; order++) {
        int age = situation.turn - situation.orders.get(order, ORDER_SENT);
        if (situation.orders.get(order, ORDER_STATE) == ON_ITS_WAY && age >= situation.patience) {
          situation.changeOrder(order, LOST);
        }
      }
      int units = situation.units.count();
      for (int unit = 0; unit < units; unit++) {
        march(situation, unit);
      }
      situation.turn++;
    }

    private void sendPlanned(Situation situation) {
      Table plans = situation.plans;
      int count = plans.count();
      for (int plan = 0; plan < count; plan++) {
        if (plans.get(plan, PLAN_TURN) == situation.turn) {
          // With 40 orders addOrder leaves it out by itself.
          situation.addOrder(plans.get(plan, PLAN_UNIT), plans.get(plan, PLAN_X), plans.get(plan, PLAN_Y));
        }
      }
    }

    private void carry(Situation situation, int order) {
      Table orders = situation.orders;
      int unit = orders.get(order, ORDER_UNIT);
      int target = cellAt(situation.units.get(unit, UNIT_X), situation.units.get(unit, UNIT_Y));
      int cell = cellAt(orders.get(order, ORDER_AT_X), orders.get(order, ORDER_AT_Y));
      for (int taken = 0; taken < MESSENGER_STEPS && cell != target; taken++) {
        cell = paths.nextCell(cell, target);
        if (cell == NONE) {
          return;
        }
        orders.put(order, ORDER_AT_X, xOf(cell));
        orders.put(order, ORDER_AT_Y, yOf(cell));
        orders.put(order, ORDER_STEPS, orders.get(order, ORDER_STEPS) + 1);
        int picket = situation.watcher(xOf(cell), yOf(cell), situation.turn);
        if (picket != NONE) {
          Table pickets = situation.pickets;
          pickets.put(picket, PICKET_CAUGHT, pickets.get(picket, PICKET_CAUGHT) + 1);
          situation.changeOrder(order, INTERCEPTED);
          return;
        }
      }
      if (cell == target) {
        arrive(situation, order, unit);
      }
    }

    private void arrive(Situation situation, int order, int unit) {
      situation.orders.put(order, ORDER_ARRIVED, situation.turn);
      if (situation.units.get(unit, UNIT_GREATEST) > order) {
        situation.changeOrder(order, LATE);
        return;
      }
      int obeyed = situation.obeyedBy(unit);
      if (obeyed != NONE) {
        situation.changeOrder(obeyed, REPLACED);
      }
      situation.units.put(unit, UNIT_GREATEST, order);
      situation.changeOrder(order, OBEYED);
    }

    private void march(Situation situation, int unit) {
      int order = situation.obeyedBy(unit);
      if (order == NONE) {
        return;
      }
      Table units = situation.units;
      int goal = cellAt(situation.orders.get(order, ORDER_X), situation.orders.get(order, ORDER_Y));
      int cell = cellAt(units.get(unit, UNIT_X), units.get(unit, UNIT_Y));
      int pace = units.get(unit, UNIT_PACE);
      if (cell != goal && pace > 0 && situation.turn % pace == 0) {
        int next = paths.nextCell(cell, goal);
        if (next != NONE) {
          cell = next;
          units.put(unit, UNIT_X, xOf(cell));
          units.put(unit, UNIT_Y, yOf(cell));
        }
      }
      if (cell == goal) {
        situation.changeOrder(order, DONE);
      }
    }
  }

  /** Cuts a text into tokens, one at a time, and keeps its first error. */
  private static final class Tokens {
    private static final int END = 0;
    private static final int WORD = 1;
    private static final int NUMBER = 2;
    private static final int SIGN = 3;
    // Above every number that a text may hold, and far from an overflow.
    private static final int TOO_BIG = 100000;

    private final int[] bytes;
    private int length;
    private int start;
    private int end;
    private int kind;
    private int number;
    private int code;
    private int errorStart;

    Tokens(int[] bytes) {
      this.bytes = bytes;
    }

    void open(int textLength) {
      length = textLength < 0 ? 0 : Math.min(textLength, bytes.length);
      start = 0;
      end = 0;
      kind = END;
      number = 0;
      code = 0;
      errorStart = NONE;
    }

    /** Only the first error counts. */
    void fail(int errorCode) {
      if (code == 0) {
        code = errorCode;
        errorStart = start;
      }
    }

    boolean sound() {
      return code == 0;
    }

    int errorCode() {
      return code;
    }

    int errorPlace() {
      return errorStart;
    }

    void next() {
      start = end;
      while (start < length && kindAt(start) == END) {
        start++;
      }
      kind = kindAt(start);
      number = 0;
      end = start < length ? start + 1 : length;
      if (kind == NUMBER) {
        number = digitAt(start);
      }
      while (end < length && kind != SIGN && kindAt(end) == kind) {
        if (kind == NUMBER) {
          number = Math.min(10 * number + digitAt(end), TOO_BIG);
        }
        end++;
      }
    }

    /** The kind of token to which a byte belongs; END for blanks and behind the text. */
    private int kindAt(int place) {
      int sign = place >= 0 && place < length && place < bytes.length ? bytes[place] : ' ';
      if (sign == ' ' || sign == '\n') {
        return END;
      }
      if (sign >= 'a' && sign <= 'z') {
        return WORD;
      }
      return sign >= '0' && sign <= '9' ? NUMBER : SIGN;
    }

    private int digitAt(int place) {
      return place >= 0 && place < bytes.length ? bytes[place] - '0' : 0;
    }

    boolean atEnd() {
      return kind == END;
    }

    boolean isNumber() {
      return kind == NUMBER;
    }

    int value() {
      return number;
    }

    boolean isSign(char sign) {
      return kind == SIGN && start >= 0 && start < bytes.length && bytes[start] == sign;
    }

    boolean isWord(String word) {
      int letters = word.length();
      if (kind != WORD || end - start != letters || start < 0 || end > bytes.length) {
        return false;
      }
      for (int letter = 0; letter < letters; letter++) {
        if (bytes[start + letter] != word.charAt(letter)) {
          return false;
        }
      }
      return true;
    }
  }

  /** Reads a text into a situation that is worth nothing if the text has an error. */
  private static final class BoardReader {
    private final Tokens tokens;
    private final Situation draft;

    BoardReader(Tokens tokens, Situation draft) {
      this.tokens = tokens;
      this.draft = draft;
    }

    /** The error code; 0 if the text has no error. */
    int readText(int length) {
      tokens.open(length);
      draft.begin();
      tokens.next();
      if (!tokens.isWord("board")) {
        tokens.fail(NOT_ALLOWED);
      }
      int width = readNumber(MIN_SIDE, MAX_SIDE);
      int height = readNumber(MIN_SIDE, MAX_SIDE);
      readSemicolon();
      draft.width = width;
      draft.height = height;
      // No clause is shorter than a byte.
      for (int clause = 0; clause < MAX_BYTES && tokens.sound(); clause++) {
        tokens.next();
        if (tokens.atEnd()) {
          break;
        }
        readClause();
        readSemicolon();
      }
      return tokens.errorCode();
    }

    private void readClause() {
      if (tokens.isWord("wall")) {
        readWall();
      } else if (tokens.isWord("headquarters")) {
        readHeadquarters();
      } else if (tokens.isWord("unit")) {
        readUnit();
      } else if (tokens.isWord("picket")) {
        readPicket();
      } else if (tokens.isWord("patience")) {
        draft.patience = readNumber(1, MAX_PATIENCE);
      } else if (tokens.isWord("plan")) {
        readPlan();
      } else {
        tokens.fail(NOT_ALLOWED);
      }
    }

    private void readWall() {
      int x = readColumn();
      int y = readRow();
      if (draft.walled(x, y) || draft.isHeadquarters(x, y) || draft.lowestUnitAt(x, y) != NONE) {
        tokens.fail(IN_THE_WAY);
      }
      if (tokens.sound()) {
        draft.turnWall(x, y);
      }
    }

    private void readHeadquarters() {
      int x = readColumn();
      int y = readFreeRow(x);
      draft.headquartersX = x;
      draft.headquartersY = y;
    }

    private void readUnit() {
      if (draft.units.count() >= MAX_UNITS) {
        tokens.fail(TOO_MANY);
      }
      int x = readColumn();
      int y = readFreeRow(x);
      int pace = readNumber(1, MAX_PACE);
      draft.addUnit(x, y, pace);
    }

    private void readPicket() {
      if (draft.pickets.count() >= MAX_PICKETS) {
        tokens.fail(TOO_MANY);
      }
      int picket = draft.pickets.add();
      draft.pickets.put(picket, PICKET_X, readColumn());
      draft.pickets.put(picket, PICKET_Y, readRow());
      draft.pickets.put(picket, PICKET_RANGE, readNumber(0, MAX_RANGE));
      int period = readNumber(1, MAX_PERIOD);
      draft.pickets.put(picket, PICKET_PERIOD, period);
      int first = readNumber(0, period - 1);
      draft.pickets.put(picket, PICKET_FIRST, first);
      int last = readNumber(0, period - 1);
      if (last < first) {
        tokens.fail(IN_THE_WAY);
      }
      draft.pickets.put(picket, PICKET_LAST, last);
      draft.pickets.put(picket, PICKET_CAUGHT, 0);
    }

    private void readPlan() {
      if (draft.plans.count() >= MAX_PLANS) {
        tokens.fail(TOO_MANY);
      }
      int unit = readNumber(0, draft.units.count() - 1);
      int x = readColumn();
      int y = readFreeRow(x);
      int turn = readNumber(0, LAST_TURN - 1);
      int plan = draft.plans.add();
      draft.plans.put(plan, PLAN_UNIT, unit);
      draft.plans.put(plan, PLAN_X, x);
      draft.plans.put(plan, PLAN_Y, y);
      draft.plans.put(plan, PLAN_TURN, turn);
    }

    private int readColumn() {
      return readNumber(0, draft.width - 1);
    }

    private int readRow() {
      return readNumber(0, draft.height - 1);
    }

    private int readFreeRow(int x) {
      int y = readNumber(0, draft.height - 1);
      if (draft.walled(x, y)) {
        tokens.fail(IN_THE_WAY);
      }
      return y;
    }

    /** The least number stands in for one with an error, as nothing is kept of the text then. */
    private int readNumber(int least, int greatest) {
      if (!tokens.sound()) {
        return least;
      }
      tokens.next();
      if (!tokens.isNumber()) {
        tokens.fail(NOT_ALLOWED);
        return least;
      }
      int number = tokens.value();
      if (number < least || number > greatest) {
        tokens.fail(OUT_OF_RANGE);
        return least;
      }
      return number;
    }

    private void readSemicolon() {
      if (!tokens.sound()) {
        return;
      }
      tokens.next();
      if (!tokens.isSign(';')) {
        tokens.fail(NOT_ALLOWED);
      }
    }
  }

  /**
   * Reads a query and evaluates it on the way: each part answers the set of orders for which it
   * holds, one bit for each order.
   */
  private static final class QueryReader {
    // Smaller operands are numbers as they are told; from here on they are properties.
    private static final int PROPERTY = 10000;
    // Behind the columns of the orders: the number of the order itself.
    private static final int ORDER_NUMBER = ORDER_COLUMNS;

    private final Tokens tokens;
    private final Situation situation;

    QueryReader(Tokens tokens, Situation situation) {
      this.tokens = tokens;
      this.situation = situation;
    }

    int answer(int length) {
      tokens.open(length);
      tokens.next();
      boolean many = tokens.isWord("many");
      if (!many && !tokens.isWord("first")) {
        tokens.fail(NOT_ALLOWED);
      }
      tokens.next();
      long holding = readTest(0);
      if (!tokens.atEnd()) {
        tokens.fail(NOT_ALLOWED);
      }
      if (!tokens.sound()) {
        return HIDDEN - tokens.errorCode();
      }
      return many ? countOf(holding) : firstOf(holding);
    }

    private int countOf(long holding) {
      int found = 0;
      int count = situation.orders.count();
      for (int order = 0; order < count; order++) {
        found += (int) ((holding >> order) & 1L);
      }
      return found;
    }

    private int firstOf(long holding) {
      int count = situation.orders.count();
      for (int order = 0; order < count; order++) {
        if (((holding >> order) & 1L) != 0L) {
          return order;
        }
      }
      return NONE;
    }

    private long readTest(int open) {
      long holding = readConjunction(open);
      for (int part = 0; part < MAX_QUERY && tokens.sound() && tokens.isWord("or"); part++) {
        tokens.next();
        holding |= readConjunction(open);
      }
      return holding;
    }

    private long readConjunction(int open) {
      long holding = readFactor(open);
      for (int part = 0; part < MAX_QUERY && tokens.sound() && tokens.isWord("and"); part++) {
        tokens.next();
        holding &= readFactor(open);
      }
      return holding;
    }

    private long readFactor(int open) {
      if (!tokens.sound()) {
        return 0L;
      }
      if (tokens.isWord("not") || tokens.isSign('(')) {
        return readOpened(open);
      }
      int left = operandAtHand();
      tokens.next();
      boolean less = tokens.isSign('<');
      boolean equal = tokens.isSign('=');
      if (!less && !equal && !tokens.isSign('>')) {
        tokens.fail(NOT_ALLOWED);
      }
      tokens.next();
      int right = operandAtHand();
      tokens.next();
      long holding = 0L;
      int count = situation.orders.count();
      for (int order = 0; order < count; order++) {
        int difference = Integer.compare(valueOf(left, order), valueOf(right, order));
        if (less ? difference < 0 : equal ? difference == 0 : difference > 0) {
          holding |= 1L << order;
        }
      }
      return holding;
    }

    /** What a 'not' or a '(' begins: it stays open until its end, so the depth has a limit. */
    private long readOpened(int open) {
      if (open >= MAX_OPEN) {
        tokens.fail(TOO_MANY);
        return 0L;
      }
      boolean negated = tokens.isWord("not");
      tokens.next();
      if (negated) {
        return ~readFactor(open + 1);
      }
      long holding = readTest(open + 1);
      if (!tokens.isSign(')')) {
        tokens.fail(NOT_ALLOWED);
      }
      tokens.next();
      return holding;
    }

    private int operandAtHand() {
      if (tokens.isNumber()) {
        if (tokens.value() >= PROPERTY) {
          tokens.fail(OUT_OF_RANGE);
        }
        return tokens.value();
      }
      if (tokens.isWord("order")) {
        return PROPERTY + ORDER_NUMBER;
      }
      if (tokens.isWord("unit")) {
        return PROPERTY + ORDER_UNIT;
      }
      if (tokens.isWord("state")) {
        return PROPERTY + ORDER_STATE;
      }
      if (tokens.isWord("sent")) {
        return PROPERTY + ORDER_SENT;
      }
      if (tokens.isWord("arrived")) {
        return PROPERTY + ORDER_ARRIVED;
      }
      if (tokens.isWord("ended")) {
        return PROPERTY + ORDER_ENDED;
      }
      if (tokens.isWord("steps")) {
        return PROPERTY + ORDER_STEPS;
      }
      if (tokens.isWord("x")) {
        return PROPERTY + ORDER_X;
      }
      if (!tokens.isWord("y")) {
        tokens.fail(NOT_ALLOWED);
      }
      return PROPERTY + ORDER_Y;
    }

    private int valueOf(int operand, int order) {
      if (operand < PROPERTY) {
        return operand;
      }
      int property = operand - PROPERTY;
      if (property == ORDER_NUMBER) {
        return order;
      }
      int value = situation.orders.get(order, property);
      // Turns are told one greater, so that 0 is left for one that has not come (NONE here).
      return property == ORDER_ARRIVED || property == ORDER_ENDED ? value + 1 : value;
    }
  }
}

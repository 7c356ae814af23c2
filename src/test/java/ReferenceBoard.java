import java.util.ArrayDeque;
import java.util.ArrayList;
import java.util.Arrays;
import java.util.Deque;
import java.util.List;
import java.util.NoSuchElementException;

/**
 * The document once more, told with the Java library and without any economy, for RandomRunsTest to
 * compare with: whole copies for undo, a fresh search for each distance, a query evaluated order by order.
 */
final class ReferenceBoard {
  static final class Unit {
    int x, y, pace;
    int greatest = -1;
  }

  static final class Picket {
    int x, y, range, period, first, last, caught;

    boolean watches(int turn) {
      return turn % period >= first && turn % period <= last;
    }

    boolean covers(int cx, int cy) {
      return Math.abs(cx - x) <= range && Math.abs(cy - y) <= range;
    }
  }

  static final class Order {
    int number, unit, x, y, state, sent, atX, atY, steps;
    int arrived = -1;
    int ended = -1;
  }

  static final class Plan {
    int unit, x, y, turn;
  }

  record Event(int turn, int order, int state) {
  }

  static final class World {
    int width = 3, height = 3, hqX, hqY, turn, patience = 30;
    boolean[][] wall = new boolean[12][12];
    List<Unit> units = new ArrayList<>();
    List<Picket> pickets = new ArrayList<>();
    List<Order> orders = new ArrayList<>();
    List<Plan> plans = new ArrayList<>();
    List<Event> events = new ArrayList<>();
    List<int[]> past = new ArrayList<>();

    World copy() {
      World w = new World();
      w.width = width;
      w.height = height;
      w.hqX = hqX;
      w.hqY = hqY;
      w.turn = turn;
      w.patience = patience;
      for (int x = 0; x < 12; x++) {
        w.wall[x] = wall[x].clone();
      }
      for (Unit u : units) {
        Unit c = new Unit();
        c.x = u.x;
        c.y = u.y;
        c.pace = u.pace;
        c.greatest = u.greatest;
        w.units.add(c);
      }
      for (Picket p : pickets) {
        Picket c = new Picket();
        c.x = p.x;
        c.y = p.y;
        c.range = p.range;
        c.period = p.period;
        c.first = p.first;
        c.last = p.last;
        c.caught = p.caught;
        w.pickets.add(c);
      }
      for (Order o : orders) {
        Order c = new Order();
        c.number = o.number;
        c.unit = o.unit;
        c.x = o.x;
        c.y = o.y;
        c.state = o.state;
        c.sent = o.sent;
        c.atX = o.atX;
        c.atY = o.atY;
        c.steps = o.steps;
        c.arrived = o.arrived;
        c.ended = o.ended;
        w.orders.add(c);
      }
      for (Plan p : plans) {
        Plan c = new Plan();
        c.unit = p.unit;
        c.x = p.x;
        c.y = p.y;
        c.turn = p.turn;
        w.plans.add(c);
      }
      w.events.addAll(events);
      w.past.addAll(past);
      return w;
    }

    boolean inside(int x, int y) {
      return x >= 0 && y >= 0 && x < width && y < height;
    }

    int distance(int x, int y, int toX, int toY) {
      if (wall[x][y] || wall[toX][toY]) {
        return -1;
      }
      int[][] far = new int[12][12];
      for (int[] column : far) {
        Arrays.fill(column, -1);
      }
      Deque<int[]> open = new ArrayDeque<>();
      open.add(new int[] {x, y});
      far[x][y] = 0;
      while (!open.isEmpty()) {
        int[] c = open.remove();
        for (int[] n : beside(c[0], c[1])) {
          if (far[n[0]][n[1]] < 0) {
            far[n[0]][n[1]] = far[c[0]][c[1]] + 1;
            open.add(n);
          }
        }
      }
      return far[toX][toY];
    }

    List<int[]> beside(int x, int y) {
      List<int[]> found = new ArrayList<>();
      int[][] moves = {{0, -1}, {1, 0}, {0, 1}, {-1, 0}};
      for (int[] m : moves) {
        if (inside(x + m[0], y + m[1]) && !wall[x + m[0]][y + m[1]]) {
          found.add(new int[] {x + m[0], y + m[1]});
        }
      }
      return found;
    }

    /** null if there is no step; the cell itself if it is the target. */
    int[] step(int x, int y, int toX, int toY) {
      int here = distance(x, y, toX, toY);
      if (here < 0) {
        return null;
      }
      if (here == 0) {
        return new int[] {x, y};
      }
      for (int[] n : beside(x, y)) {
        if (distance(n[0], n[1], toX, toY) == here - 1) {
          return n;
        }
      }
      throw new AssertionError("a way without a step");
    }

    int catcher(int x, int y, int turn) {
      for (int p = 0; p < pickets.size(); p++) {
        if (pickets.get(p).watches(turn) && pickets.get(p).covers(x, y)) {
          return p;
        }
      }
      return -1;
    }

    int send(int unit, int x, int y) {
      if (orders.size() == 40) {
        return -3;
      }
      Order o = new Order();
      o.number = orders.size();
      o.unit = unit;
      o.x = x;
      o.y = y;
      o.sent = turn;
      o.atX = hqX;
      o.atY = hqY;
      orders.add(o);
      return o.number;
    }

    void become(Order o, int state) {
      o.state = state;
      if (state >= 2) {
        o.ended = turn;
      }
      events.add(new Event(turn, o.number, state));
    }

    void arrive(Order o) {
      o.arrived = turn;
      Unit u = units.get(o.unit);
      if (u.greatest > o.number) {
        become(o, 3);
        return;
      }
      for (Order other : orders) {
        if (other.unit == o.unit && other.state == 1) {
          become(other, 6);
        }
      }
      u.greatest = o.number;
      become(o, 1);
    }

    /** Whether there is no more to do for this messenger on this turn. */
    boolean messengerStep(Order o) {
      Unit u = units.get(o.unit);
      int[] to = step(o.atX, o.atY, u.x, u.y);
      if (to == null) {
        return true;
      }
      o.atX = to[0];
      o.atY = to[1];
      o.steps++;
      int catcher = catcher(o.atX, o.atY, turn);
      if (catcher >= 0) {
        pickets.get(catcher).caught++;
        become(o, 5);
        return true;
      }
      if (o.atX == u.x && o.atY == u.y) {
        arrive(o);
        return true;
      }
      return false;
    }

    void passOne() {
      int[] places = new int[units.size()];
      for (int u = 0; u < places.length; u++) {
        places[u] = 100 * units.get(u).y + units.get(u).x;
      }
      past.add(places);
      for (Plan p : plans) {
        if (p.turn == turn) {
          send(p.unit, p.x, p.y);
        }
      }
      for (Order o : orders) {
        if (o.state == 0) {
          Unit u = units.get(o.unit);
          if (o.atX == u.x && o.atY == u.y) {
            arrive(o);
          } else if (!messengerStep(o)) {
            messengerStep(o);
          }
        }
      }
      for (Order o : orders) {
        if (o.state == 0 && turn - o.sent >= patience) {
          become(o, 4);
        }
      }
      for (int u = 0; u < units.size(); u++) {
        Order obeyed = obeyed(u);
        if (obeyed != null) {
          march(units.get(u), obeyed);
        }
      }
      turn++;
    }

    Order obeyed(int unit) {
      for (Order o : orders) {
        if (o.unit == unit && o.state == 1) {
          return o;
        }
      }
      return null;
    }

    void march(Unit u, Order o) {
      if (u.x == o.x && u.y == o.y) {
        become(o, 2);
        return;
      }
      if (turn % u.pace != 0) {
        return;
      }
      int[] to = step(u.x, u.y, o.x, o.y);
      if (to == null) {
        return;
      }
      u.x = to[0];
      u.y = to[1];
      if (u.x == o.x && u.y == o.y) {
        become(o, 2);
      }
    }

    World after(int turns) {
      World w = copy();
      for (int i = 0; i < turns; i++) {
        w.passOne();
      }
      return w;
    }
  }

  static final class TextError extends Exception {
    private static final long serialVersionUID = 1L;
    final int code, position;

    TextError(int code, int position) {
      this.code = code;
      this.position = position;
    }
  }

  record Token(String text, int position) {
    boolean isNumber() {
      return !text.isEmpty() && text.charAt(0) >= '0' && text.charAt(0) <= '9';
    }
  }

  /** All tokens of a text, with an empty one at its end. */
  static final class Text {
    final List<Token> tokens = new ArrayList<>();
    int at = 0;

    Text(int[] bytes, int length) {
      int i = 0;
      while (i < length) {
        int from = i;
        int kind = kind(bytes[i]);
        i++;
        if (kind == 0) {
          continue;
        }
        while (i < length && kind < 3 && kind(bytes[i]) == kind) {
          i++;
        }
        StringBuilder b = new StringBuilder();
        for (int k = from; k < i; k++) {
          b.append((char) bytes[k]);
        }
        tokens.add(new Token(b.toString(), from));
      }
      tokens.add(new Token("", length));
    }

    static int kind(int b) {
      return b == 32 || b == 10 ? 0 : b >= 'a' && b <= 'z' ? 1 : b >= '0' && b <= '9' ? 2 : 3;
    }

    Token look() {
      return tokens.get(at);
    }

    boolean is(String s) {
      return look().text.equals(s);
    }

    void expect(String s) throws TextError {
      if (!is(s)) {
        fail(1);
      }
      at++;
    }

    void fail(int code) throws TextError {
      throw new TextError(code, look().position);
    }

    /** A number that is looked at, but not passed. */
    int number(int least, int greatest) throws TextError {
      if (!look().isNumber()) {
        fail(1);
      }
      java.math.BigInteger n = new java.math.BigInteger(look().text);
      if (n.compareTo(java.math.BigInteger.valueOf(least)) < 0
          || n.compareTo(java.math.BigInteger.valueOf(greatest)) > 0) {
        fail(2);
      }
      return n.intValue();
    }

    int take(int least, int greatest) throws TextError {
      int n = number(least, greatest);
      at++;
      return n;
    }
  }

  private World world = new World();
  private World saved = null;
  private final Deque<World> undo = new ArrayDeque<>();
  private int[] buffer = new int[0];
  private int errorAt = -1;
  private String text = "";

  int feed(int... words) {
    if (buffer.length + 20 > 600) {
      return -1;
    }
    int from = buffer.length;
    buffer = Arrays.copyOf(buffer, from + 20);
    for (int i = 0; i < 20; i++) {
      buffer[from + i] = words[i / 4] >>> (24 - 8 * (i % 4)) & 255;
    }
    return buffer.length;
  }

  private static World worldOf(Text t) throws TextError {
    World w = new World();
    t.expect("board");
    w.width = t.take(3, 12);
    w.height = t.take(3, 12);
    t.expect(";");
    while (!t.is("")) {
      String keyword = t.look().text;
      switch (keyword) {
        case "wall" -> {
          t.at++;
          int x = t.take(0, w.width - 1);
          int y = t.number(0, w.height - 1);
          boolean taken = w.wall[x][y] || w.hqX == x && w.hqY == y;
          for (Unit u : w.units) {
            taken |= u.x == x && u.y == y;
          }
          if (taken) {
            t.fail(4);
          }
          t.at++;
          w.wall[x][y] = true;
        }
        case "headquarters" -> {
          t.at++;
          w.hqX = t.take(0, w.width - 1);
          w.hqY = free(t, w, w.hqX);
        }
        case "unit" -> {
          if (w.units.size() == 6) {
            t.fail(3);
          }
          t.at++;
          Unit u = new Unit();
          u.x = t.take(0, w.width - 1);
          u.y = free(t, w, u.x);
          u.pace = t.take(1, 3);
          w.units.add(u);
        }
        case "picket" -> {
          if (w.pickets.size() == 4) {
            t.fail(3);
          }
          t.at++;
          Picket p = new Picket();
          p.x = t.take(0, w.width - 1);
          p.y = t.take(0, w.height - 1);
          p.range = t.take(0, 3);
          p.period = t.take(1, 20);
          p.first = t.take(0, p.period - 1);
          p.last = t.number(0, p.period - 1);
          if (p.last < p.first) {
            t.fail(4);
          }
          t.at++;
          w.pickets.add(p);
        }
        case "patience" -> {
          t.at++;
          w.patience = t.take(1, 30);
        }
        case "plan" -> {
          if (w.plans.size() == 20) {
            t.fail(3);
          }
          t.at++;
          Plan p = new Plan();
          p.unit = t.take(0, w.units.size() - 1);
          p.x = t.take(0, w.width - 1);
          p.y = free(t, w, p.x);
          p.turn = t.take(0, 499);
          w.plans.add(p);
        }
        default -> t.fail(1);
      }
      t.expect(";");
    }
    return w;
  }

  private static int free(Text t, World w, int x) throws TextError {
    int y = t.number(0, w.height - 1);
    if (w.wall[x][y]) {
      t.fail(4);
    }
    t.at++;
    return y;
  }

  int load(int length) {
    if (length < 0 || length > buffer.length) {
      throw new IllegalArgumentException();
    }
    Text t = new Text(buffer, length);
    buffer = new int[0];
    try {
      world = worldOf(t);
      errorAt = -1;
      saved = null;
      undo.clear();
      return world.units.size();
    } catch (TextError e) {
      errorAt = e.position;
      return -10 - e.code;
    }
  }

  int errorPosition() {
    return errorAt;
  }

  int size(int what) {
    World w = world;
    int walls = 0;
    for (boolean[] column : w.wall) {
      for (boolean b : column) {
        walls += b ? 1 : 0;
      }
    }
    int[] sizes = {w.width, w.height, w.units.size(), w.pickets.size(), w.orders.size(), w.turn, walls,
        w.events.size(), w.plans.size(), w.patience, w.hqX, w.hqY};
    return pick(sizes, what);
  }

  private static int pick(int[] values, int what) {
    if (what < 0 || what >= values.length) {
      throw new NoSuchElementException();
    }
    return values[what];
  }

  private static <T> T row(List<T> rows, int row) {
    if (row < 0 || row >= rows.size()) {
      throw new NoSuchElementException();
    }
    return rows.get(row);
  }

  private void cell(int x, int y) {
    if (!world.inside(x, y)) {
      throw new NoSuchElementException();
    }
  }

  private static void legal(boolean ok) {
    if (!ok) {
      throw new IllegalArgumentException();
    }
  }

  int unit(int unit, int what) {
    Unit u = row(world.units, unit);
    int waiting = 0;
    for (Order o : world.orders) {
      waiting += o.unit == unit && o.state == 0 ? 1 : 0;
    }
    Order obeyed = world.obeyed(unit);
    return pick(new int[] {u.x, u.y, u.pace, u.greatest, obeyed == null ? -1 : obeyed.number, waiting}, what);
  }

  int picket(int picket, int what) {
    Picket p = row(world.pickets, picket);
    return pick(new int[] {p.x, p.y, p.range, p.period, p.first, p.last,
        p.watches(world.turn) ? 1 : 0, p.caught}, what);
  }

  int order(int order, int what) {
    Order o = row(world.orders, order);
    return pick(new int[] {o.unit, o.x, o.y, o.state, o.sent, o.arrived, o.ended, o.atX, o.atY, o.steps}, what);
  }

  int plan(int plan, int what) {
    Plan p = row(world.plans, plan);
    return pick(new int[] {p.unit, p.x, p.y, p.turn}, what);
  }

  int event(int event, int what) {
    Event e = row(world.events, event);
    return pick(new int[] {e.turn, e.order, e.state}, what);
  }

  int orders(int state) {
    legal(state >= 0 && state <= 6);
    return (int) world.orders.stream().filter(o -> o.state == state).count();
  }

  boolean isWall(int x, int y) {
    cell(x, y);
    return world.wall[x][y];
  }

  boolean isWatched(int x, int y, int turn) {
    cell(x, y);
    legal(turn >= 0);
    return world.catcher(x, y, turn) >= 0;
  }

  int distance(int x, int y, int toX, int toY) {
    cell(x, y);
    cell(toX, toY);
    return world.distance(x, y, toX, toY);
  }

  int step(int x, int y, int toX, int toY) {
    cell(x, y);
    cell(toX, toY);
    int[] to = world.step(x, y, toX, toY);
    return to == null ? -1 : 100 * to[1] + to[0];
  }

  int wasAt(int unit, int turn) {
    Unit u = row(world.units, unit);
    legal(turn >= 0 && turn <= world.turn);
    return turn == world.turn ? 100 * u.y + u.x : world.past.get(turn)[unit];
  }

  int stateAt(int order, int turn) {
    Order o = row(world.orders, order);
    legal(turn >= 0 && turn <= world.turn);
    int state = turn <= o.sent ? -1 : 0;
    for (Event e : world.events) {
      if (e.order == order && e.turn < turn) {
        state = e.state;
      }
    }
    return state;
  }

  int crossed() {
    int pairs = 0;
    for (Order a : world.orders) {
      for (Order b : world.orders) {
        if (a.number < b.number && a.unit == b.unit && a.arrived >= 0 && b.arrived >= 0
            && b.arrived < a.arrived) {
          pairs++;
        }
      }
    }
    return pairs;
  }

  private void goal(int unit, int x, int y) {
    row(world.units, unit);
    cell(x, y);
    legal(!world.wall[x][y]);
  }

  int wouldBe(int unit, int x, int y, int turns) {
    goal(unit, x, y);
    legal(turns >= 0 && turns <= 60);
    World w = world.copy();
    int order = w.send(unit, x, y);
    return order < 0 ? -1 : w.after(turns).orders.get(order).state;
  }

  int wouldArrive(int unit, int x, int y) {
    goal(unit, x, y);
    return arrival(world.copy(), unit, x, y);
  }

  private static int arrival(World w, int unit, int x, int y) {
    int order = w.send(unit, x, y);
    return order < 0 ? -1 : w.after(100).orders.get(order).arrived;
  }

  int bestDelay(int unit, int x, int y) {
    goal(unit, x, y);
    for (int d = 0; d <= 15; d++) {
      if (arrival(world.after(d), unit, x, y) >= 0) {
        return d;
      }
    }
    return -1;
  }

  int failing(int turns) {
    legal(turns >= 0 && turns <= 60);
    World w = world.after(turns);
    int found = 0;
    for (Order o : world.orders) {
      int then = w.orders.get(o.number).state;
      found += o.state == 0 && (then == 4 || then == 5) ? 1 : 0;
    }
    return found;
  }

  double meanDelay() {
    long sum = 0;
    int count = 0;
    for (Order o : world.orders) {
      if (o.arrived >= 0) {
        sum += o.arrived - o.sent;
        count++;
      }
    }
    return count == 0 ? 0 : (double) sum / count;
  }

  float success() {
    return world.orders.isEmpty() ? 0 : (float) orders(2) / (float) world.orders.size();
  }

  private void remember() {
    undo.addLast(world.copy());
    if (undo.size() > 10) {
      undo.removeFirst();
    }
  }

  int pass(int turns) {
    legal(turns >= 1 && turns <= 60);
    if (world.turn + turns > 500) {
      return -2;
    }
    remember();
    int before = world.events.size();
    for (int i = 0; i < turns; i++) {
      world.passOne();
    }
    return world.events.size() - before;
  }

  int send(int unit, int x, int y) {
    goal(unit, x, y);
    if (world.orders.size() == 40) {
      return -3;
    }
    remember();
    return world.send(unit, x, y);
  }

  int wall(int x, int y) {
    cell(x, y);
    boolean taken = world.hqX == x && world.hqY == y;
    boolean wanted = false;
    for (Unit u : world.units) {
      taken |= u.x == x && u.y == y;
    }
    for (Order o : world.orders) {
      taken |= o.state == 0 && o.atX == x && o.atY == y;
      wanted |= (o.state == 0 || o.state == 1) && o.x == x && o.y == y;
    }
    for (Plan p : world.plans) {
      wanted |= p.turn >= world.turn && p.x == x && p.y == y;
    }
    if (taken) {
      return -2;
    }
    if (wanted) {
      return -3;
    }
    remember();
    world.wall[x][y] = !world.wall[x][y];
    return size(6);
  }

  int movePicket(int picket, int x, int y) {
    row(world.pickets, picket);
    cell(x, y);
    remember();
    Picket p = world.pickets.get(picket);
    p.x = x;
    p.y = y;
    return p.watches(world.turn) ? 1 : 0;
  }

  int movePlan(int plan, int turn) {
    row(world.plans, plan);
    legal(turn >= world.turn && turn <= 499);
    int before = world.plans.get(plan).turn;
    if (before < world.turn) {
      return -2;
    }
    remember();
    world.plans.get(plan).turn = turn;
    return before;
  }

  int setPatience(int patience) {
    legal(patience >= 1 && patience <= 30);
    remember();
    int before = world.patience;
    world.patience = patience;
    return before;
  }

  int format(int y) {
    if (y < 0 || y >= world.height) {
      throw new NoSuchElementException();
    }
    StringBuilder b = new StringBuilder();
    for (int x = 0; x < world.width; x++) {
      char sign = world.wall[x][y] ? '#' : '.';
      if (world.catcher(x, y, world.turn) >= 0) {
        sign = '!';
      }
      if (world.hqX == x && world.hqY == y) {
        sign = 'h';
      }
      for (Order o : world.orders) {
        if (o.state == 0 && o.atX == x && o.atY == y) {
          sign = 'm';
        }
      }
      for (int u = world.units.size() - 1; u >= 0; u--) {
        if (world.units.get(u).x == x && world.units.get(u).y == y) {
          sign = (char) ('0' + u);
        }
      }
      b.append(sign);
    }
    text = b.toString();
    return text.length();
  }

  int formattedByte(int index) {
    return index < 0 || index >= text.length() ? -1 : text.charAt(index);
  }

  int undoCount() {
    return undo.size();
  }

  int undo() {
    if (undo.isEmpty()) {
      return -1;
    }
    world = undo.removeLast();
    return undo.size();
  }

  void saveSnapshot() {
    saved = world.copy();
  }

  boolean restoreSnapshot() {
    if (saved == null) {
      return false;
    }
    world = saved.copy();
    undo.clear();
    return true;
  }

  interface Test {
    boolean holds(Order o);
  }

  interface Value {
    int of(Order o);
  }

  int query(int length) {
    legal(length >= 0 && length <= 200 && length <= buffer.length);
    Text t = new Text(buffer, length);
    buffer = new int[0];
    try {
      boolean many = t.is("many");
      if (!many && !t.is("first")) {
        t.fail(1);
      }
      t.at++;
      Test test = test(t, 0);
      if (!t.is("")) {
        t.fail(1);
      }
      errorAt = -1;
      int count = 0;
      for (Order o : world.orders) {
        if (test.holds(o)) {
          count++;
          if (!many) {
            return o.number;
          }
        }
      }
      return many ? count : -1;
    } catch (TextError e) {
      errorAt = e.position;
      return -1000000000 - e.code;
    }
  }

  private static Test test(Text t, int open) throws TextError {
    List<Test> parts = new ArrayList<>();
    parts.add(conjunction(t, open));
    while (t.is("or")) {
      t.at++;
      parts.add(conjunction(t, open));
    }
    return o -> parts.stream().anyMatch(p -> p.holds(o));
  }

  private static Test conjunction(Text t, int open) throws TextError {
    List<Test> parts = new ArrayList<>();
    parts.add(factor(t, open));
    while (t.is("and")) {
      t.at++;
      parts.add(factor(t, open));
    }
    return o -> parts.stream().allMatch(p -> p.holds(o));
  }

  private static Test factor(Text t, int open) throws TextError {
    if (t.is("not") || t.is("(")) {
      if (open == 6) {
        t.fail(3);
      }
    }
    if (t.is("not")) {
      t.at++;
      Test inner = factor(t, open + 1);
      return o -> !inner.holds(o);
    }
    if (t.is("(")) {
      t.at++;
      Test inner = test(t, open + 1);
      t.expect(")");
      return inner;
    }
    Value left = value(t);
    String sign = t.look().text;
    if (!sign.equals("<") && !sign.equals("=") && !sign.equals(">")) {
      t.fail(1);
    }
    t.at++;
    Value right = value(t);
    return switch (sign) {
      case "<" -> o -> left.of(o) < right.of(o);
      case "=" -> o -> left.of(o) == right.of(o);
      default -> o -> left.of(o) > right.of(o);
    };
  }

  private static Value value(Text t) throws TextError {
    if (t.look().isNumber()) {
      int n = t.take(0, 9999);
      return o -> n;
    }
    Value value = switch (t.look().text) {
      case "order" -> o -> o.number;
      case "unit" -> o -> o.unit;
      case "state" -> o -> o.state;
      case "sent" -> o -> o.sent;
      case "arrived" -> o -> o.arrived < 0 ? 0 : o.arrived + 1;
      case "ended" -> o -> o.ended < 0 ? 0 : o.ended + 1;
      case "steps" -> o -> o.steps;
      case "x" -> o -> o.x;
      case "y" -> o -> o.y;
      default -> null;
    };
    if (value == null) {
      t.fail(1);
    }
    t.at++;
    return value;
  }
}

import java.util.ArrayList;
import java.util.LinkedHashMap;
import java.util.List;
import java.util.Map;

/** "What is refused changes nothing": each call that is refused, on a new desk, a busy one, a full one and one behind its last hour. */
public final class Refusals {
  private static final int MIN = Integer.MIN_VALUE;
  private static final int MAX = Integer.MAX_VALUE;
  private static int wrong = 0;
  private static int tried = 0;

  private interface Call { long on(FloodCells x); }
  private interface Number { long of(FloodCells x, int n); }
  private interface Desk { FloodCells made(); }

  private final String state;
  private final Desk desk;
  private final Map<String, Call> refused = new LinkedHashMap<>();
  private final int bodies, dikes, now, inPit;
  /** A cell and a dike of the desk, or NONE. */
  private final int cell, otherCell, stretch, dike;

  private Refusals(String state, Desk desk) {
    this.state = state;
    this.desk = desk;
    FloodCells x = desk.made();
    now = x.count(0);
    bodies = x.count(1);
    dikes = x.count(2);
    inPit = x.count(4);
    List<Integer> cells = new ArrayList<>();
    int river = FloodCells.NONE;
    for (int b = 0; b < bodies; b++) if (x.told(b, 4) == FloodCells.NONE) cells.add(b); else river = b;
    stretch = river;
    cell = cells.size() > 1 ? cells.get(0) : FloodCells.NONE;
    otherCell = cells.size() > 1 ? cells.get(1) : FloodCells.NONE;
    dike = dikes - 1;
  }

  private void refuse(String name, Number call, int... numbers) {
    for (int n : numbers) refused.put(name + " with " + n, x -> call.of(x, n));
  }

  private static long of(boolean told) { return told ? 1 : FloodCells.NONE; }

  private void bodiesAndDikes() {
    refuse("stretch, AREA", (x, n) -> x.stretch(n, 1, 1), MIN, -1, 0, 1001, MAX);
    refuse("stretch, FLOOR", (x, n) -> x.stretch(1, n, 1), MIN, -1, 1001, MAX);
    refuse("stretch, PASSES", (x, n) -> x.stretch(1, 1, n), MIN, -1, 101, MAX);
    refuse("cell, AREA", (x, n) -> x.cell(n, 1, 1, 1), MIN, -1, 0, 1001, MAX);
    refuse("cell, FLOOR", (x, n) -> x.cell(1, n, 1, 1), MIN, -1, 1001, MAX);
    refuse("cell, PEOPLE", (x, n) -> x.cell(1, 1, n, 1), MIN, -1, 501, MAX);
    refuse("cell, WORTH", (x, n) -> x.cell(1, 1, 1, n), MIN, -1, 1000001, MAX);
    refuse("dike, first BODY", (x, n) -> x.dike(n, 0, 1, 1, 1), MIN, -1, 0, bodies, 10, MAX);
    refuse("dike, second BODY", (x, n) -> x.dike(0, n, 1, 1, 1), MIN, -1, 0, bodies, 10, MAX);
    refuse("dike, both are one", (x, n) -> x.dike(n, n, 1, 1, 1), -1, 0, 1, bodies - 1, bodies);
    refuse("dike, CREST", (x, n) -> x.dike(0, 1, n, 1, 1), MIN, -1, 2001, MAX);
    refuse("dike, WIDTH", (x, n) -> x.dike(0, 1, 1, n, 1), MIN, -1, 0, 1001, MAX);
    refuse("dike, HOURS", (x, n) -> x.dike(0, 1, 1, 1, n), MIN, -1, 21, MAX);
  }

  private void waterAndBags() {
    refuse("breach, DIKE", (x, n) -> of(x.breach(n, 99, 0)), MIN, -1, dikes, 12, MAX);
    refuse("breach, HOUR", (x, n) -> of(x.breach(dike, n, 0)), MIN, -1, now - 1, 100, 101, MAX);
    refuse("breach, SILL", (x, n) -> of(x.breach(dike, 99, n)), MIN, -1, 2001, MAX);
    refuse("flows, HOUR", (x, n) -> of(x.flows(n, 1)), MIN, -1, now - 1, 100, 101, MAX);
    refuse("flows, WATER", (x, n) -> of(x.flows(99, n)), MIN, -1, 1000001, MAX);
    refuse("pit", (x, n) -> x.pit(n), MIN, -1, 0, 10001, MAX);
    refuse("send, DIKE", (x, n) -> x.send(n, 1), MIN, -1, dikes, 12, MAX);
    refuse("send, n", (x, n) -> x.send(dike, n), MIN, -1, 0, inPit + 1, MAX);
    refuse("tell, DIKE", (x, n) -> of(x.tell(n, 1, 1)), MIN, -1, dikes, 12, MAX);
    refuse("tell, SEEP", (x, n) -> of(x.tell(dike, n, 1)), MIN, -1, 100, MAX);
    refuse("tell, HOURS", (x, n) -> of(x.tell(dike, 1, n)), MIN, -1, 21, MAX);
  }

  private void roadsAndPeople() {
    refuse("road, from", (x, n) -> x.road(n, cell, 1, 1), MIN, -1, cell, stretch, bodies, 10, MAX);
    refuse("road OUT, from", (x, n) -> x.road(n, FloodCells.NONE, 1, 1), MIN, -1, stretch, bodies, 10, MAX);
    refuse("road, to", (x, n) -> x.road(cell, n, 1, 1), MIN, -2, cell, bodies, 10, MAX);
    if (stretch != FloodCells.NONE) refuse("road, to a STRETCH", (x, n) -> x.road(cell, n, 1, 1), stretch);
    refuse("road, BEARS", (x, n) -> x.road(cell, otherCell, n, 1), MIN, -1, 0, 100, MAX);
    refuse("road, HOURS", (x, n) -> x.road(cell, otherCell, 1, n), MIN, -1, 0, 6, MAX);
    refuse("go", (x, n) -> x.go(n), MIN, -1, 101, MAX);
    refuse("people, CELL", (x, n) -> of(x.people(n, 1)), MIN, -1, stretch, bodies, 10, MAX);
    refuse("people, n", (x, n) -> of(x.people(cell, n)), MIN, -1, 501, MAX);
  }

  private void asked() {
    refuse("known", (x, n) -> x.known(n), MIN, -1, dikes, 12, MAX);
    refuse("told, BODY", (x, n) -> x.told(n, 0), MIN, -1, bodies, 10, MAX);
    refuse("told, what", (x, n) -> x.told(0, n), MIN, -1, 8, MAX);
    refuse("crest, DIKE", (x, n) -> x.crest(n, 0), MIN, -1, dikes, 12, MAX);
    refuse("crest, what", (x, n) -> x.crest(0, n), MIN, -1, 4, MAX);
    refuse("wet", (x, n) -> x.wet(n), MIN, -1, stretch, bodies, 10, MAX);
    refuse("foretold, BODY", (x, n) -> x.foretold(n, 100), MIN, -1, bodies, 10, MAX);
    refuse("foretold, HOUR", (x, n) -> x.foretold(0, n), MIN, -1, now - 1, 101, MAX);
    refuse("best", (x, n) -> x.best(n), MIN, -1, 0, inPit + 1, MAX);
    refuse("leave", (x, n) -> x.leave(n), MIN, -1, now - 1, 101, MAX);
    refuse("bars", (x, n) -> x.bars(n), MIN, -1, now - 1, 101, MAX);
    refuse("bar, HOUR", (x, n) -> x.bar(n, 0, 0), MIN, -1, now - 1, 101, MAX);
    refuse("bar, i", (x, n) -> x.bar(100, n, 0), MIN, -1, 1200, MAX);
    refuse("bar, what", (x, n) -> x.bar(100, 0, n), MIN, -1, 2, MAX);
    refuse("count", (x, n) -> x.count(n), MIN, -1, 10, MAX);
  }

  private void onFull() {
    refuse("stretch on a full desk", (x, n) -> x.stretch(n, 1, 1), 1, 1000);
    refuse("cell on a full desk", (x, n) -> x.cell(n, 1, 1, 1), 1, 1000);
    refuse("dike on a full desk", (x, n) -> x.dike(0, 1, n, 1, 1), 0, 2000);
    refuse("road on a full desk", (x, n) -> x.road(cell, otherCell, n, 1), 1, 99);
    refuse("road OUT on a full desk", (x, n) -> x.road(cell, FloodCells.NONE, n, 1), 1, 99);
    refuse("pit on a full desk", (x, n) -> x.pit(n), 1, 10000);
    refuse("tell on a full desk", (x, n) -> of(x.tell(dike, n, 0)), 0, 99);
  }

  private void onEnded() {
    refuse("breach behind the last HOUR", (x, n) -> of(x.breach(dike, n, 0)), 0, 99, 100);
    refuse("flows behind the last HOUR", (x, n) -> of(x.flows(n, 0)), 0, 99, 100);
    refuse("send behind the last HOUR", (x, n) -> x.send(dike, n), 1, inPit);
    refuse("best behind the last HOUR", (x, n) -> x.best(n), 1, inPit);
    refuse("soonest behind the last HOUR", (x, n) -> x.soonest(), 0);
  }

  private static String after(FloodCells x) {
    String s = Answers.all(x);
    x.go(2);
    return s + Answers.few(x);
  }

  private void tryAll() {
    String due = after(desk.made());
    for (Map.Entry<String, Call> r : refused.entrySet()) {
      tried++;
      FloodCells x = desk.made();
      long got = r.getValue().on(x);
      if (got != FloodCells.NONE) told(r.getKey(), "wasn't refused, it answered " + got);
      else if (!after(x).equals(due)) told(r.getKey(), "was refused, but changed something");
    }
  }

  private void told(String call, String what) {
    wrong++;
    System.out.println(state + ": " + call + " " + what);
  }

  private static FloodCells busy() {
    FloodCells x = new FloodCells();
    x.stretch(10, 0, 30);
    for (int c = 1; c <= 4; c++) x.cell(4 + c, c, 20 * c, 10 * c);
    for (int d = 0; d < 4; d++) x.dike(d, d + 1, 8 + d, 3, d);
    x.road(1, 2, 3, 1);
    x.road(2, FloodCells.NONE, 2, 2);
    x.road(4, FloodCells.NONE, 5, 1);
    for (int h = 0; h < 40; h += 3) x.flows(h, 100 + h);
    x.breach(1, 7, 2);
    x.pit(500);
    x.send(0, 60);
    x.send(2, 30);
    x.tell(0, 40, 2);
    x.tell(1, 30, 0);
    x.go(3);
    return x;
  }

  private static FloodCells full() {
    FloodCells x = new FloodCells();
    x.stretch(10, 0, 30);
    for (int c = 1; c <= 9; c++) x.cell(4 + c, c, 20 * c, 10 * c);
    for (int d = 0; d < 12; d++) x.dike(d % 10, (d + 1) % 10, 8 + d, 3, d);
    for (int r = 0; r < 12; r++) x.road(1 + r % 9, r % 4 == 0 ? FloodCells.NONE : 1 + (r + 1) % 9, 1 + r, 1 + r % 5);
    for (int t = 0; t < 100; t++) x.tell(t % 12, t, t % 21);
    for (int n = 0; n < 10; n++) x.pit(10000);
    for (int h = 0; h < 30; h += 3) x.flows(h, 200 + h);
    x.go(2);
    return x;
  }

  private static FloodCells ended() {
    FloodCells x = busy();
    x.go(100);
    return x;
  }

  private static void run(String state, Desk desk) {
    Refusals r = new Refusals(state, desk);
    r.bodiesAndDikes();
    r.waterAndBags();
    r.roadsAndPeople();
    r.asked();
    if (state.equals("full")) r.onFull();
    if (state.equals("ended")) r.onEnded();
    r.tryAll();
  }

  public static void main(String[] args) {
    run("new", FloodCells::new);
    run("busy", Refusals::busy);
    run("full", Refusals::full);
    run("ended", Refusals::ended);
    System.out.println(tried + " refused calls tried, " + wrong + " wrong");
    if (wrong != 0) System.exit(1);
  }
}

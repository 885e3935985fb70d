import java.util.List;
import java.util.Random;

/** Full desks with narrow roads and cells that get wet and dry again: LEAVE and BARS for many hours against the model. */
public final class FlightAgainstModel {
  private static int wrong = 0;
  private static long asked = 0;
  private static long barsSeen = 0;
  private static long byHeaps = 0;
  private static long wetHours = 0;
  private static long driedAgain = 0;

  private final long seed;
  private final Random chance;
  private final FloodCells desk = new FloodCells();
  private final Model model = new Model();

  private FlightAgainstModel(long seed) {
    this.seed = seed;
    chance = new Random(seed);
  }

  private int among(int lo, int hi) { return lo + chance.nextInt(hi - lo + 1); }

  private void due(String call, long got, long want) {
    asked++;
    if (got == want) return;
    wrong++;
    if (wrong < 10) System.out.println("seed " + seed + ": " + call + " answered " + got + ", due is " + want);
  }

  private void build() {
    int river = chance.nextInt(5) == 0 ? 0 : 1;
    int cells = chance.nextInt(3) == 0 ? among(1, 3) : among(2, 10 - river);
    int mostPeople = new int[] {2, 6, 40, 500}[chance.nextInt(4)];
    int mostBorne = new int[] {1, 2, 5, 99}[chance.nextInt(4)];
    int mostHours = among(1, 5);
    if (river == 1) both("stretch", 10, among(0, 3), among(20, 100), 0, 0);
    for (int c = 0; c < cells; c++) both("cell", among(1, 15), among(0, 6), chance.nextInt(3) == 0 ? 0 : among(0, mostPeople), c, 0);
    for (int d = 0; d < 12 && river == 1; d++) both("dike", chance.nextInt(3) == 0 ? among(0, cells) : 0, among(1, cells), among(0, 12), among(1, 9), among(0, 4));
    for (int r = 0; r < 30; r++) {
      int to = chance.nextInt(4) == 0 ? -1 : among(river, river + cells - 1);
      both("road", among(river, river + cells - 1), to, among(1, mostBorne), among(1, mostHours), 0);
    }
    for (int h = 0; h < 100; h++) if (chance.nextInt(9) == 0) both("flows", h, among(0, 250), 0, 0, 0);
  }

  private void both(String name, int a, int b, int c, int d, int e) {
    switch (name) {
      case "stretch" -> due(name, desk.stretch(a, b, c), model.stretch(a, b, c));
      case "cell" -> due(name, desk.cell(a, b, c, d), model.cell(a, b, c, d));
      case "dike" -> due(name, desk.dike(a, b, c, d, e), model.dike(a, b, c, d, e));
      case "road" -> due(name, desk.road(a, b, c, d), model.road(a, b, c, d));
      case "flows" -> due(name, desk.flows(a, b) ? 1 : 0, model.flows(a, b) ? 1 : 0);
      default -> throw new IllegalStateException(name);
    }
  }

  private void ask(int t) {
    due("leave(" + t + ")", desk.leave(t), model.leave(t));
    List<Model.Bar> bars = model.barsOf(t);
    due("bars(" + t + ")", desk.bars(t), bars.size());
    for (int i = 0; i < bars.size(); i++) {
      due("bar(" + t + ", " + i + ", 0)", desk.bar(t, i, 0), bars.get(i).road());
      due("bar(" + t + ", " + i + ", 1)", desk.bar(t, i, 1), bars.get(i).hour());
    }
    due("bar(" + t + ", " + bars.size() + ", 0)", desk.bar(t, bars.size(), 0), -1);
    barsSeen += bars.size();
    List<Model.Bar> tried = model.barsByHeaps(t, 11);
    if (tried == null) return;
    byHeaps++;
    due("bars by heaps for " + t + " are those by flow", tried.equals(bars) ? 1 : 0, 1);
  }

  private void noteWetness() {
    boolean[][] wet = model.wetByHour();
    for (int c = 0; c < model.bodies.size(); c++) {
      for (int h = model.now; h < 100; h++) {
        if (wet[h][c]) wetHours++;
        if (wet[h][c] && !wet[h + 1][c]) driedAgain++;
      }
    }
  }

  private void run() {
    build();
    noteWetness();
    for (int part = 0; part < 3; part++) {
      int now = model.now;
      for (int k = 0; k < 8; k++) ask(among(now, Math.min(100, now + (k < 6 ? 14 : 100))));
      due("soonest()", desk.soonest(), model.soonest());
      ask(100);
      int n = part == 0 ? among(0, 9) : among(0, 100);
      due("go(" + n + ")", desk.go(n), model.go(n));
      int cell = model.bodies.size() - 1;
      int people = among(0, 20);
      due("people", desk.people(cell, people) ? 1 : 0, model.people(cell, people) ? 1 : 0);
      for (int what = 0; what < 10; what++) due("count(" + what + ")", desk.count(what), model.count(what));
      for (int body = 0; body < 10; body++) due("told(" + body + ", 0)", desk.told(body, 0), model.told(body, 0));
    }
  }

  public static void main(String[] args) {
    int runs = args.length > 0 ? Integer.parseInt(args[0]) : 1000;
    for (int seed = 0; seed < runs && wrong == 0; seed++) new FlightAgainstModel(seed).run();
    System.out.println(asked + " answers compared, " + wrong + " wrong (" + barsSeen + " bars, " + byHeaps + " by heaps, "
        + wetHours + " wet hours, " + driedAgain + " dried again)");
    if (barsSeen == 0 || byHeaps == 0 || driedAgain == 0) {
      wrong++;
      System.out.println("these runs look at too little");
    }
    if (wrong != 0) System.exit(1);
  }
}

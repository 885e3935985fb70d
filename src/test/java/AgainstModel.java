import java.util.List;
import java.util.Random;

/** Runs of calls by chance (from fixed seeds, so always the same ones), each answer compared with the plain model's. */
public final class AgainstModel {
  private static int wrong = 0;
  private static long calls = 0;
  private static final long[] answered = new long[24];

  private final Random chance;
  private final int kind;
  private final StringBuilder told = new StringBuilder();
  private FloodCells desk;
  private Model model;
  private int made = 0;

  private AgainstModel(long seed) {
    chance = new Random(seed);
    kind = chance.nextInt(6);
  }

  private int among(int lo, int hi) { return lo + chance.nextInt(hi - lo + 1); }

  /** Mostly lo .. hi, now and then just beside it or far off. */
  private int about(int lo, int hi) {
    int x = chance.nextInt(60);
    if (x == 0) return lo - 1;
    if (x == 1) return hi + 1;
    if (x == 2) return Integer.MIN_VALUE;
    if (x == 3) return Integer.MAX_VALUE;
    if (x == 4) return lo;
    if (x == 5) return hi;
    return among(lo, hi);
  }

  private int body() { return about(0, Math.max(0, model.bodies.size() - 1)); }
  private int dikeNumber() { return about(0, Math.max(0, model.dikes.size() - 1)); }
  private int hourAhead() { return about(model.now, Math.min(100, model.now + (kind % 2 == 0 ? 100 : 12))); }

  private int flow() {
    if (kind == 0) return about(0, 1000000);
    return chance.nextInt(3) == 0 ? 0 : about(0, kind < 3 ? 3000 : 300);
  }

  private void due(int what, String call, long got, long want) {
    calls++;
    if (what < answered.length && want != -1) answered[what]++;
    told.append(call).append(" -> ").append(got).append('\n');
    if (got == want) return;
    wrong++;
    if (wrong < 4) System.out.println(told + "  due is " + want);
  }

  private static long of(boolean b) { return b ? 1 : 0; }

  private static String call(String name, int... args) {
    StringBuilder s = new StringBuilder(name).append('(');
    for (int i = 0; i < args.length; i++) s.append(i == 0 ? "" : ", ").append(args[i]);
    return s.append(')').toString();
  }

  private int area() { return kind == 0 ? about(1, 1000) : about(1, kind == 1 ? 3 : 20); }
  private int floor() { return kind == 0 ? about(0, 1000) : about(0, 20); }

  private void build() {
    switch (chance.nextInt(5)) {
      case 0 -> {
        int a = area(), f = floor(), p = about(0, 100);
        due(0, call("stretch", a, f, p), desk.stretch(a, f, p), model.stretch(a, f, p));
      }
      case 1 -> {
        int a = area(), f = floor(), p = about(0, kind < 4 ? 40 : 500), w = about(0, chance.nextBoolean() ? 1000000 : 5);
        due(1, call("cell", a, f, p, w), desk.cell(a, f, p, w), model.cell(a, f, p, w));
      }
      case 2 -> {
        int a = body(), b = body(), c = kind == 0 ? about(0, 2000) : about(0, 40), w = about(1, kind == 0 ? 1000 : 10), h = about(0, 20);
        due(2, call("dike", a, b, c, w, h), desk.dike(a, b, c, w, h), model.dike(a, b, c, w, h));
      }
      default -> {
        int a = body(), b = chance.nextInt(3) == 0 ? -1 : body(), c = about(1, kind < 4 ? 6 : 99), h = about(1, 5);
        due(11, call("road", a, b, c, h), desk.road(a, b, c, h), model.road(a, b, c, h));
      }
    }
  }

  private void change() {
    switch (chance.nextInt(8)) {
      case 0 -> {
        int d = dikeNumber(), h = hourAhead(), s = about(0, kind == 0 ? 2000 : 30);
        due(3, call("breach", d, h, s), of(desk.breach(d, h, s)), of(model.breach(d, h, s)));
      }
      case 1, 2, 3 -> {
        int h = hourAhead(), w = flow();
        due(4, call("flows", h, w), of(desk.flows(h, w)), of(model.flows(h, w)));
      }
      case 4 -> {
        int n = about(1, kind == 0 ? 10000 : 300);
        due(5, call("pit", n), desk.pit(n), model.pit(n));
      }
      case 5 -> {
        int d = dikeNumber(), n = about(1, Math.max(1, Math.min(model.inPit, 150)));
        due(6, call("send", d, n), desk.send(d, n), model.send(d, n));
      }
      case 6 -> {
        int d = dikeNumber(), s = about(0, 99), h = about(0, 20);
        due(7, call("tell", d, s, h), of(desk.tell(d, s, h)), of(model.tell(d, s, h)));
      }
      default -> {
        int c = body(), n = about(0, kind < 4 ? 40 : 500);
        due(12, call("people", c, n), of(desk.people(c, n)), of(model.people(c, n)));
      }
    }
  }

  private void ask() {
    int h = hourAhead();
    switch (chance.nextInt(13)) {
      case 0 -> { int d = dikeNumber(); due(8, call("known", d), desk.known(d), model.known(d)); }
      case 1 -> due(9, "worst()", desk.worst(), model.worst());
      case 2 -> { int b = body(), w = about(0, 7); due(13, call("told", b, w), desk.told(b, w), model.told(b, w)); }
      case 3 -> { int d = dikeNumber(), w = about(0, 3); due(14, call("crest", d, w), desk.crest(d, w), model.crest(d, w)); }
      case 4 -> { int c = body(); due(15, call("wet", c), desk.wet(c), model.wet(c)); }
      case 5 -> { int b = body(); due(16, call("foretold", b, h), desk.foretold(b, h), model.foretold(b, h)); }
      case 6 -> due(17, "loss()", desk.loss(), model.loss());
      case 7 -> { int n = about(1, Math.max(1, Math.min(model.inPit, 200))); due(18, call("best", n), desk.best(n), model.best(n)); }
      case 8 -> due(19, call("leave", h), desk.leave(h), model.leave(h));
      case 9 -> due(20, "soonest()", desk.soonest(), model.soonest());
      case 10 -> askBars(h);
      default -> { int w = about(0, 9); due(23, call("count", w), desk.count(w), model.count(w)); }
    }
  }

  private void askBars(int h) {
    due(21, call("bars", h), desk.bars(h), model.bars(h));
    int i = about(0, 12), w = about(0, 1);
    due(22, call("bar", h, i, w), desk.bar(h, i, w), model.bar(h, i, w));
    if (h < model.now || h > 100) return;
    List<Model.Bar> bars = model.barsOf(h);
    for (int k = 0; k < Math.min(8, bars.size()); k++) {
      due(22, call("bar", h, k, 0), desk.bar(h, k, 0), bars.get(k).road());
      due(22, call("bar", h, k, 1), desk.bar(h, k, 1), bars.get(k).hour());
    }
    List<Model.Bar> byHeaps = model.barsByHeaps(h, 12);
    if (byHeaps != null && !byHeaps.equals(bars)) {
      wrong++;
      System.out.println(told + "  bars by heaps are " + byHeaps + ", by flow " + bars);
    }
  }

  private void run() {
    desk = new FloodCells();
    model = new Model();
    int building = among(5, 60);
    int length = among(20, 300);
    while (made < length) {
      made++;
      int x = chance.nextInt(100);
      if (made < building ? x < 70 : x < 5) build();
      else if (x < 72) ask();
      else if (x < 94) change();
      else {
        int n = chance.nextInt(4) == 0 ? about(0, 100) : about(0, 4);
        due(10, call("go", n), desk.go(n), model.go(n));
      }
      if (wrong > 0) return;
    }
  }

  public static void main(String[] args) {
    int runs = args.length > 0 ? Integer.parseInt(args[0]) : 600;
    for (int seed = 0; seed < runs; seed++) {
      new AgainstModel(seed).run();
      if (wrong > 0) { System.out.println("seed " + seed); break; }
    }
    for (int i = 0; i < answered.length; i++) {
      if (answered[i] == 0) { wrong++; System.out.println("no call of promise " + (i + 2) + " had an answer"); }
    }
    System.out.println(calls + " calls compared, " + wrong + " wrong");
    if (wrong != 0) System.exit(1);
  }
}

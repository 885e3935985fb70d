import java.util.ArrayDeque;
import java.util.ArrayList;
import java.util.Arrays;
import java.util.List;
import java.util.TreeMap;

/** The document once more, written for plainness alone and with other means than FloodCells, to be compared with it. */
public final class Model {
  static final class Body {
    boolean cell;
    int area, floor, passes, people, worth;
    long water;
    long level() { return floor + water / area; }
    boolean wet() { return cell && water >= area; }
    Body copy() {
      Body c = new Body();
      c.cell = cell; c.area = area; c.floor = floor; c.passes = passes; c.people = people; c.worth = worth; c.water = water;
      return c;
    }
  }

  static final class Dike {
    int a, b, crest, width, hours, sill, breachHour;
    boolean breachTold;
    long bags;
    final TreeMap<Integer, Long> coming = new TreeMap<>();
    Dike copy() {
      Dike c = new Dike();
      c.a = a; c.b = b; c.crest = crest; c.width = width; c.hours = hours; c.sill = sill; c.breachHour = breachHour;
      c.breachTold = breachTold; c.bags = bags; c.coming.putAll(coming);
      return c;
    }
    long top(int hour) { return breachTold && breachHour <= hour ? sill : crest + bags / 10; }
    long underWay() { long s = 0; for (long n : coming.values()) s += n; return s; }
  }

  record Road(int from, int to, int bears, int hours) { }
  record Report(int dike, int seep, int knownFrom) { }
  record Bar(int road, int hour) { }

  final List<Body> bodies = new ArrayList<>();
  final List<Dike> dikes = new ArrayList<>();
  final List<Road> roads = new ArrayList<>();
  final List<Report> reports = new ArrayList<>();
  final TreeMap<Integer, Integer> flow = new TreeMap<>();
  int now, inPit;
  long washed, out, in;

  Model copy() {
    Model m = new Model();
    for (Body b : bodies) m.bodies.add(b.copy());
    for (Dike d : dikes) m.dikes.add(d.copy());
    m.roads.addAll(roads);
    m.reports.addAll(reports);
    m.flow.putAll(flow);
    m.now = now; m.inPit = inPit; m.washed = washed; m.out = out; m.in = in;
    return m;
  }

  static boolean in(int x, int lo, int hi) { return lo <= x && x <= hi; }
  boolean isBody(int i) { return in(i, 0, bodies.size() - 1); }
  boolean isCell(int i) { return isBody(i) && bodies.get(i).cell; }
  boolean isDike(int i) { return in(i, 0, dikes.size() - 1); }

  void hour() {
    List<Body> river = new ArrayList<>();
    for (Body b : bodies) if (!b.cell) river.add(b);
    if (!river.isEmpty()) {
      long w = flow.getOrDefault(now, 0);
      river.get(0).water += w;
      in += w;
    }
    for (int i = river.size() - 1; i >= 0; i--) {
      Body b = river.get(i);
      long w = b.water * b.passes / 100;
      b.water -= w;
      if (i + 1 < river.size()) river.get(i + 1).water += w; else out += w;
    }
    for (Dike d : dikes) {
      Long n = d.coming.remove(now);
      if (n != null) {
        if (d.breachTold && d.breachHour <= now) washed += n; else d.bags += n;
      }
      if (d.breachTold && d.breachHour == now) { washed += d.bags; d.bags = 0; }
    }
    for (Dike d : dikes) {
      Body a = bodies.get(d.a), b = bodies.get(d.b);
      if (a.level() == b.level()) continue;
      Body up = a.level() > b.level() ? a : b;
      Body lo = up == a ? b : a;
      long head = up.level() - Math.max(d.top(now), lo.level());
      if (head <= 0) continue;
      long w = d.width * head;
      if (w > head * up.area / 2) w = head * up.area / 2;
      if (w > up.water) w = up.water;
      up.water -= w;
      lo.water += w;
    }
    now++;
  }

  Model at(int hour) {
    Model m = copy();
    while (m.now < hour) m.hour();
    return m;
  }

  boolean[][] wetByHour() {
    boolean[][] wet = new boolean[101][bodies.size()];
    Model m = copy();
    while (true) {
      for (int i = 0; i < bodies.size(); i++) wet[m.now][i] = m.bodies.get(i).wet();
      if (m.now == 100) return wet;
      m.hour();
    }
  }

  int stretch(int area, int floor, int passes) {
    if (!in(area, 1, 1000) || !in(floor, 0, 1000) || !in(passes, 0, 100) || bodies.size() == 10) return -1;
    Body b = new Body();
    b.area = area; b.floor = floor; b.passes = passes;
    bodies.add(b);
    return bodies.size() - 1;
  }

  int cell(int area, int floor, int people, int worth) {
    if (!in(area, 1, 1000) || !in(floor, 0, 1000) || !in(people, 0, 500) || !in(worth, 0, 1000000) || bodies.size() == 10) return -1;
    Body b = new Body();
    b.cell = true; b.area = area; b.floor = floor; b.people = people; b.worth = worth;
    bodies.add(b);
    return bodies.size() - 1;
  }

  int dike(int a, int b, int crest, int width, int hours) {
    if (!isBody(a) || !isBody(b) || a == b || !in(crest, 0, 2000) || !in(width, 1, 1000) || !in(hours, 0, 20) || dikes.size() == 12) return -1;
    Dike d = new Dike();
    d.a = a; d.b = b; d.crest = crest; d.width = width; d.hours = hours;
    dikes.add(d);
    return dikes.size() - 1;
  }

  boolean breach(int dike, int hour, int sill) {
    if (!isDike(dike) || !in(hour, now, 99)) return false;
    Dike d = dikes.get(dike);
    if (!in(sill, 0, d.crest) || (d.breachTold && d.breachHour < now)) return false;
    d.breachTold = true; d.breachHour = hour; d.sill = sill;
    return true;
  }

  boolean flows(int hour, int water) {
    if (!in(hour, now, 99) || !in(water, 0, 1000000)) return false;
    flow.put(hour, water);
    return true;
  }

  int pit(int bags) {
    if (!in(bags, 1, 10000) || inPit + bags > 100000) return -1;
    inPit += bags;
    return inPit;
  }

  int send(int dike, int n) {
    if (!isDike(dike) || n < 1 || n > inPit || now + dikes.get(dike).hours > 99) return -1;
    int hour = now + dikes.get(dike).hours;
    inPit -= n;
    dikes.get(dike).coming.merge(hour, (long) n, Long::sum);
    return hour;
  }

  boolean tell(int dike, int seep, int hours) {
    if (!isDike(dike) || !in(seep, 0, 99) || !in(hours, 0, 20) || reports.size() == 100) return false;
    reports.add(new Report(dike, seep, now + hours));
    return true;
  }

  int known(int dike) {
    int seep = -1;
    for (Report r : reports) if (r.dike == dike && r.knownFrom <= now) seep = r.seep;
    return seep;
  }

  int worst() {
    int worst = -1;
    for (int i = 0; i < dikes.size(); i++) if (known(i) >= 0 && (worst < 0 || known(i) > known(worst))) worst = i;
    return worst;
  }

  int road(int from, int to, int bears, int hours) {
    if (!isCell(from) || (to != -1 && !isCell(to)) || from == to || !in(bears, 1, 99) || !in(hours, 1, 5) || roads.size() == 12) return -1;
    roads.add(new Road(from, to, bears, hours));
    return roads.size() - 1;
  }

  int go(int n) {
    if (!in(n, 0, 100)) return -1;
    for (int i = 0; i < n && now < 100; i++) hour();
    return now;
  }

  boolean people(int cell, int n) {
    if (!isCell(cell) || !in(n, 0, 500)) return false;
    bodies.get(cell).people = n;
    return true;
  }

  int told(int body, int what) {
    if (!isBody(body)) return -1;
    Body b = bodies.get(body);
    return (int) switch (what) {
      case 0 -> b.water;
      case 1 -> b.level();
      case 2 -> b.area;
      case 3 -> b.floor;
      case 4 -> b.cell ? -1 : b.passes;
      case 5 -> b.cell ? b.people : -1;
      case 6 -> b.cell ? b.worth : -1;
      case 7 -> b.wet() ? 1 : 0;
      default -> -1;
    };
  }

  int crest(int dike, int what) {
    if (!isDike(dike)) return -1;
    Dike d = dikes.get(dike);
    return (int) switch (what) {
      case 0 -> d.top(now);
      case 1 -> d.bags;
      case 2 -> d.underWay();
      case 3 -> d.breachTold && d.breachHour < now ? 1 : 0;
      default -> -1;
    };
  }

  int wet(int cell) {
    if (!isCell(cell)) return -1;
    boolean[][] wet = wetByHour();
    for (int h = now; h <= 100; h++) if (wet[h][cell]) return h;
    return -1;
  }

  int foretold(int body, int hour) {
    if (!isBody(body) || !in(hour, now, 100)) return -1;
    return (int) at(hour).bodies.get(body).water;
  }

  int loss() {
    int sum = 0;
    boolean[][] wet = wetByHour();
    for (int c = 0; c < bodies.size(); c++) {
      boolean ever = false;
      for (int h = now; h <= 100; h++) ever |= wet[h][c];
      if (ever) sum += bodies.get(c).worth;
    }
    return sum;
  }

  int best(int n) {
    int best = -1, least = 0;
    for (int i = 0; i < dikes.size(); i++) {
      Model m = copy();
      if (m.send(i, n) < 0) continue;
      int lost = m.loss();
      if (best < 0 || lost < least) { best = i; least = lost; }
    }
    return best;
  }

  /** A graph of places, the source last but one, OUT last; capacities in a square are too many, so arcs stand in lists. */
  static final class Graph {
    final List<int[]> arcs = new ArrayList<>();
    final List<List<Integer>> from = new ArrayList<>();
    Graph(int n) { for (int i = 0; i < n; i++) from.add(new ArrayList<>()); }
    void arc(int a, int b, int cap) {
      from.get(a).add(arcs.size()); arcs.add(new int[] {b, cap});
      from.get(b).add(arcs.size()); arcs.add(new int[] {a, 0});
    }
    int[] reach(int s) {
      int[] by = new int[from.size()];
      Arrays.fill(by, -1);
      by[s] = -2;
      ArrayDeque<Integer> q = new ArrayDeque<>();
      q.add(s);
      while (!q.isEmpty()) {
        int u = q.poll();
        for (int e : from.get(u)) {
          int v = arcs.get(e)[0];
          if (arcs.get(e)[1] > 0 && by[v] == -1) { by[v] = e; q.add(v); }
        }
      }
      return by;
    }
    int most(int s, int t) {
      int sum = 0;
      while (true) {
        int[] by = reach(s);
        if (by[t] == -1) return sum;
        int n = Integer.MAX_VALUE;
        for (int v = t; v != s; v = arcs.get(by[v] ^ 1)[0]) n = Math.min(n, arcs.get(by[v])[1]);
        for (int v = t; v != s; v = arcs.get(by[v] ^ 1)[0]) { arcs.get(by[v])[1] -= n; arcs.get(by[v] ^ 1)[1] += n; }
        sum += n;
      }
    }
  }

  Graph graph(int t, boolean[][] wet) {
    int n = bodies.size();
    Graph g = new Graph(101 * n + 2);
    int source = 101 * n, out = source + 1;
    for (int c = 0; c < n; c++) {
      if (!bodies.get(c).cell) continue;
      if (!wet[now][c]) g.arc(source, now * n + c, bodies.get(c).people);
      for (int h = now; h < t; h++) if (!wet[h][c] && !wet[h + 1][c]) g.arc(h * n + c, (h + 1) * n + c, 1000000);
    }
    for (Road r : roads) {
      for (int h = now; h + r.hours <= t; h++) {
        if (wet[h][r.from]) continue;
        if (r.to == -1) g.arc(h * n + r.from, out, r.bears);
        else if (!wet[h + r.hours][r.to]) g.arc(h * n + r.from, (h + r.hours) * n + r.to, r.bears);
      }
    }
    return g;
  }

  int leave(int t) {
    if (!in(t, now, 100)) return -1;
    int n = bodies.size();
    return graph(t, wetByHour()).most(101 * n, 101 * n + 1);
  }

  int soonest() {
    int most = leave(100);
    if (most == 0) return -1;
    int lo = now, hi = 100;
    while (lo < hi) {
      int mid = (lo + hi) / 2;
      if (leave(mid) == most) hi = mid; else lo = mid + 1;
    }
    return lo;
  }

  List<Bar> barsOf(int t) {
    int n = bodies.size();
    boolean[][] wet = wetByHour();
    Graph g = graph(t, wet);
    g.most(101 * n, 101 * n + 1);
    int[] by = g.reach(101 * n);
    List<Bar> bars = new ArrayList<>();
    for (int h = now; h < t; h++) {
      for (int r = 0; r < roads.size(); r++) {
        Road road = roads.get(r);
        int end = h + road.hours;
        if (end > t || by[h * n + road.from] == -1) continue;
        if (road.to == -1 || (!wet[end][road.to] && by[end * n + road.to] == -1)) bars.add(new Bar(r, h));
      }
    }
    return bars;
  }

  /** The document's own words on BARS, by trying all heaps; for few places only. Null if there are too many. */
  List<Bar> barsByHeaps(int t, int mostPlaces) {
    boolean[][] wet = wetByHour();
    List<int[]> places = new ArrayList<>();
    for (int h = now; h <= t; h++) for (int c = 0; c < bodies.size(); c++) if (isCell(c) && !wet[h][c]) places.add(new int[] {c, h});
    if (places.size() > mostPlaces) return null;
    int[][] number = new int[101][bodies.size()];
    for (int[] row : number) Arrays.fill(row, -1);
    for (int i = 0; i < places.size(); i++) number[places.get(i)[1]][places.get(i)[0]] = i;
    int cheapest = Integer.MAX_VALUE, least = 0, within = 0;
    for (int heap = 0; heap < 1 << places.size(); heap++) {
      if (!shut(heap, places, number, t)) continue;
      int cost = 0;
      for (int c = 0; c < bodies.size(); c++) {
        int p = number[now][c];
        if (p >= 0 && (heap >> p & 1) == 0) cost += bodies.get(c).people;
      }
      for (Bar b : counted(heap, number, t)) cost += roads.get(b.road).bears;
      if (cost < cheapest) { cheapest = cost; least = heap; within = heap; }
      else if (cost == cheapest) { within &= heap; if (Integer.bitCount(heap) < Integer.bitCount(least)) least = heap; }
    }
    if (least != within) throw new IllegalStateException("no cheapest heap is within all others");
    if (cheapest != leave(t)) throw new IllegalStateException("the cheapest heap doesn't cost what leaves");
    return counted(least, number, t);
  }

  private static boolean shut(int heap, List<int[]> places, int[][] number, int t) {
    for (int i = 0; i < places.size(); i++) {
      if ((heap >> i & 1) == 0 || places.get(i)[1] == t) continue;
      int next = number[places.get(i)[1] + 1][places.get(i)[0]];
      if (next >= 0 && (heap >> next & 1) == 0) return false;
    }
    return true;
  }

  private List<Bar> counted(int heap, int[][] number, int t) {
    List<Bar> bars = new ArrayList<>();
    for (int h = now; h < t; h++) {
      for (int r = 0; r < roads.size(); r++) {
        Road road = roads.get(r);
        int p = number[h][road.from];
        if (p < 0 || (heap >> p & 1) == 0 || h + road.hours > t) continue;
        if (road.to == -1) { bars.add(new Bar(r, h)); continue; }
        int e = number[h + road.hours][road.to];
        if (e >= 0 && (heap >> e & 1) == 0) bars.add(new Bar(r, h));
      }
    }
    return bars;
  }

  int bars(int t) { return in(t, now, 100) ? barsOf(t).size() : -1; }

  int bar(int t, int i, int what) {
    if (!in(t, now, 100) || !in(what, 0, 1)) return -1;
    List<Bar> bars = barsOf(t);
    if (!in(i, 0, bars.size() - 1)) return -1;
    return what == 0 ? bars.get(i).road : bars.get(i).hour;
  }

  int count(int what) {
    long way = 0, on = 0;
    for (Dike d : dikes) { way += d.underWay(); on += d.bags; }
    return (int) switch (what) {
      case 0 -> now;
      case 1 -> bodies.size();
      case 2 -> dikes.size();
      case 3 -> roads.size();
      case 4 -> inPit;
      case 5 -> way;
      case 6 -> on;
      case 7 -> washed;
      case 8 -> out;
      case 9 -> in;
      default -> -1;
    };
  }
}

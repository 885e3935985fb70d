/** Desks with as much on them as the document lets come, and with the greatest numbers, each answer compared with the model's. */
public final class FullDesk {
  private static int wrong = 0;
  private static int asked = 0;

  private final String name;
  private final FloodCells desk = new FloodCells();
  private final Model model = new Model();
  private int calls = 0;

  private FullDesk(String name) { this.name = name; }

  private void due(String call, long got, long want) {
    asked++;
    calls++;
    if (calls > 512) throw new IllegalStateException("a desk is used for 512 calls");
    if (got == want) return;
    wrong++;
    if (wrong < 20) System.out.println(name + ": " + call + " answered " + got + ", due is " + want);
  }

  private static long of(boolean told) { return told ? 1 : 0; }

  private void stretch(int a, int f, int p) { due("stretch", desk.stretch(a, f, p), model.stretch(a, f, p)); }
  private void cell(int a, int f, int p, int w) { due("cell", desk.cell(a, f, p, w), model.cell(a, f, p, w)); }
  private void dike(int a, int b, int c, int w, int h) { due("dike", desk.dike(a, b, c, w, h), model.dike(a, b, c, w, h)); }
  private void breach(int d, int h, int s) { due("breach", of(desk.breach(d, h, s)), of(model.breach(d, h, s))); }
  private void flows(int h, int w) { due("flows", of(desk.flows(h, w)), of(model.flows(h, w))); }
  private void pit(int n) { due("pit", desk.pit(n), model.pit(n)); }
  private void send(int d, int n) { due("send", desk.send(d, n), model.send(d, n)); }
  private void tell(int d, int s, int h) { due("tell", of(desk.tell(d, s, h)), of(model.tell(d, s, h))); }
  private void road(int f, int t, int b, int h) { due("road", desk.road(f, t, b, h), model.road(f, t, b, h)); }
  private void go(int n) { due("go(" + n + ")", desk.go(n), model.go(n)); }

  private void askOfAll() {
    for (int w = 0; w <= 9; w++) due("count(" + w + ")", desk.count(w), model.count(w));
    for (int b = 0; b < 10; b++) {
      due("told(" + b + ", 0)", desk.told(b, 0), model.told(b, 0));
      due("told(" + b + ", 1)", desk.told(b, 1), model.told(b, 1));
      due("wet(" + b + ")", desk.wet(b), model.wet(b));
      due("foretold(" + b + ", 100)", desk.foretold(b, 100), model.foretold(b, 100));
    }
    for (int d = 0; d < 12; d++) {
      due("crest(" + d + ", 0)", desk.crest(d, 0), model.crest(d, 0));
      due("crest(" + d + ", 2)", desk.crest(d, 2), model.crest(d, 2));
      due("known(" + d + ")", desk.known(d), model.known(d));
    }
    due("worst()", desk.worst(), model.worst());
    due("loss()", desk.loss(), model.loss());
    due("best(1)", desk.best(1), model.best(1));
    due("best(10000)", desk.best(10000), model.best(10000));
    due("soonest()", desk.soonest(), model.soonest());
    for (int t = model.now; t <= 100; t += 1 + (100 - model.now) / 3) {
      due("leave(" + t + ")", desk.leave(t), model.leave(t));
      due("bars(" + t + ")", desk.bars(t), model.bars(t));
      due("bar(" + t + ", 0, 0)", desk.bar(t, 0, 0), model.bar(t, 0, 0));
    }
  }

  private void fillPitAndReports() {
    for (int i = 0; i < 11; i++) pit(10000);
    for (int i = 0; i < 101; i++) tell(i * 5 % 12, i * 37 % 100, i % 21);
  }

  /** 13 of each are tried, so that the refused ones are seen, too. */
  private void greatest() {
    for (int i = 0; i < 11; i++) if (i < 2) stretch(1000 - 999 * i, 1000 * i, 100 * i); else cell(1000, 500 + i, 500, 1000000);
    for (int i = 0; i < 13; i++) dike(i % 10, (i + 3) % 10, 2000 - i, 1000, 20 - i);
    for (int i = 0; i < 13; i++) road(2 + i % 8, i % 3 == 0 ? -1 : 2 + (i + 3) % 8, 99, 5 - i % 2);
    for (int h = 0; h < 101; h += 4) flows(h, 1000000);
    fillPitAndReports();
    askOfAll();
    for (int i = 0; i < 9; i++) send(i, 10000);
    for (int i = 0; i < 3; i++) breach(i * 4, 30 + i, 2000 - 4 * i);
    go(29);
    askOfAll();
    go(100);
    askOfAll();
  }

  private void least() {
    for (int i = 0; i < 11; i++) if (i < 3) stretch(1, i, 1); else cell(1, 0, 1, 0);
    for (int i = 0; i < 13; i++) dike(i % 10, (i + 1) % 10, 0, 1, 0);
    for (int i = 0; i < 13; i++) road(3 + i % 7, i % 6 == 0 ? -1 : 3 + (i + 1) % 7, 1, 1);
    for (int h = 0; h < 101; h += 4) flows(h, 1 + h % 3);
    fillPitAndReports();
    askOfAll();
    for (int i = 0; i < 9; i++) send(i, 1);
    for (int i = 0; i < 3; i++) breach(i * 4, 1 + i, 0);
    go(2);
    askOfAll();
    go(1);
    askOfAll();
  }

  private void tenCells() {
    for (int i = 0; i < 11; i++) cell(1 + i, i, 50 * i, 10 * i);
    for (int i = 0; i < 13; i++) dike(i % 10, (i + 7) % 10, i, 1 + i, i);
    for (int i = 0; i < 13; i++) road(i % 10, i % 4 == 1 ? -1 : (i + 7) % 10, 1 + i % 7, 1 + i % 5);
    for (int h = 0; h < 101; h += 4) flows(h, 1000);
    fillPitAndReports();
    askOfAll();
    go(55);
    askOfAll();
    go(45);
    askOfAll();
  }

  private void tenStretches() {
    for (int i = 0; i < 11; i++) stretch(1 + i, 10 - i, 10 * i);
    for (int i = 0; i < 13; i++) dike(i % 10, (i + 9) % 10, i, 1 + i, i);
    for (int i = 0; i < 13; i++) road(i % 10, -1, 1 + i % 7, 1 + i % 5);
    for (int h = 0; h < 101; h += 4) flows(h, 1000 * h);
    fillPitAndReports();
    askOfAll();
    go(99);
    askOfAll();
    go(1);
    askOfAll();
  }

  public static void main(String[] args) {
    new FullDesk("greatest").greatest();
    new FullDesk("least").least();
    new FullDesk("ten cells").tenCells();
    new FullDesk("ten stretches").tenStretches();
    System.out.println(asked + " answers compared, " + wrong + " wrong");
    if (wrong != 0) System.exit(1);
  }
}

/** Each promise of the document by its number: ordinary inputs, the edges that the document names, and wrong inputs. */
public final class Promises {
  private static final int NONE = FloodCells.NONE;
  private static int wrong = 0;
  private static int asked = 0;
  private static int promise = 0;

  private static void due(String call, long got, long want) {
    asked++;
    if (got != want) {
      wrong++;
      System.out.println("promise " + promise + ": " + call + " answered " + got + ", due is " + want);
    }
  }

  private static void due(String call, boolean got, boolean want) { due(call, got ? 1 : 0, want ? 1 : 0); }

  private static void newObject() {
    promise = 1;
    FloodCells x = new FloodCells();
    for (int i = 0; i <= 9; i++) due("count(" + i + ")", x.count(i), 0);
    due("told(0, 0)", x.told(0, 0), NONE);
    due("crest(0, 0)", x.crest(0, 0), NONE);
    due("loss()", x.loss(), 0);
    due("leave(0)", x.leave(0), 0);
    due("NONE", FloodCells.NONE, -1);
    due("go(0)", x.go(0), 0);
    FloodCells y = new FloodCells();
    due("cell on another object", x.cell(1, 1, 1, 1), 0);
    due("count(1)", y.count(1), 0);
  }

  private static void stretches() {
    promise = 2;
    FloodCells x = new FloodCells();
    int[][] refused = {{0, 0, 0}, {1001, 0, 0}, {-1, 0, 0}, {1, -1, 0}, {1, 1001, 0}, {1, 0, -1}, {1, 0, 101},
        {Integer.MIN_VALUE, 0, 0}, {Integer.MAX_VALUE, 0, 0}, {1, Integer.MAX_VALUE, 0}, {1, 0, Integer.MIN_VALUE}};
    for (int[] r : refused) due("stretch" + java.util.Arrays.toString(r), x.stretch(r[0], r[1], r[2]), NONE);
    due("count(1)", x.count(1), 0);
    due("stretch(1, 0, 0)", x.stretch(1, 0, 0), 0);
    due("stretch(1000, 1000, 100)", x.stretch(1000, 1000, 100), 1);
    due("told(1, 2)", x.told(1, 2), 1000);
    due("told(1, 3)", x.told(1, 3), 1000);
    due("told(1, 4)", x.told(1, 4), 100);
    due("told(1, 0)", x.told(1, 0), 0);
    for (int i = 2; i < 10; i++) due("stretch " + i, x.stretch(5, 5, 5), i);
    due("an eleventh", x.stretch(5, 5, 5), NONE);
    due("an eleventh", x.cell(5, 5, 5, 5), NONE);
    due("count(1)", x.count(1), 10);
  }

  private static void cells() {
    promise = 3;
    FloodCells x = new FloodCells();
    int[][] refused = {{0, 0, 0, 0}, {1001, 0, 0, 0}, {1, -1, 0, 0}, {1, 1001, 0, 0}, {1, 0, -1, 0}, {1, 0, 501, 0},
        {1, 0, 0, -1}, {1, 0, 0, 1000001}, {1, 0, Integer.MAX_VALUE, 0}, {1, 0, 0, Integer.MIN_VALUE}};
    for (int[] r : refused) due("cell" + java.util.Arrays.toString(r), x.cell(r[0], r[1], r[2], r[3]), NONE);
    due("count(1)", x.count(1), 0);
    due("cell(1000, 1000, 500, 1000000)", x.cell(1000, 1000, 500, 1000000), 0);
    due("cell(1, 0, 0, 0)", x.cell(1, 0, 0, 0), 1);
    due("told(0, 5)", x.told(0, 5), 500);
    due("told(0, 6)", x.told(0, 6), 1000000);
    for (int i = 2; i < 10; i++) due("cell " + i, x.cell(5, 5, 5, 5), i);
    due("an eleventh", x.cell(5, 5, 5, 5), NONE);
  }

  private static void dikes() {
    promise = 4;
    FloodCells x = new FloodCells();
    due("dike without bodies", x.dike(0, 1, 1, 1, 1), NONE);
    x.stretch(1, 0, 0);
    x.cell(1, 0, 0, 0);
    int[][] refused = {{-1, 1, 1, 1, 1}, {0, 2, 1, 1, 1}, {2, 0, 1, 1, 1}, {0, -1, 1, 1, 1}, {0, 0, 1, 1, 1}, {1, 1, 1, 1, 1},
        {0, 1, -1, 1, 1}, {0, 1, 2001, 1, 1}, {0, 1, 1, 0, 1}, {0, 1, 1, 1001, 1}, {0, 1, 1, 1, -1}, {0, 1, 1, 1, 21},
        {Integer.MIN_VALUE, 1, 1, 1, 1}, {0, Integer.MAX_VALUE, 1, 1, 1}};
    for (int[] r : refused) due("dike" + java.util.Arrays.toString(r), x.dike(r[0], r[1], r[2], r[3], r[4]), NONE);
    due("count(2)", x.count(2), 0);
    due("dike(0, 1, 0, 1, 0)", x.dike(0, 1, 0, 1, 0), 0);
    due("dike(1, 0, 2000, 1000, 20)", x.dike(1, 0, 2000, 1000, 20), 1);
    due("crest(1, 0)", x.crest(1, 0), 2000);
    for (int i = 2; i < 12; i++) due("dike " + i, x.dike(0, 1, 2000, 1, 0), i);
    due("a thirteenth", x.dike(0, 1, 2000, 1, 0), NONE);
    due("count(2)", x.count(2), 12);
  }

  private static void breaches() {
    promise = 5;
    FloodCells x = new FloodCells();
    x.stretch(10, 0, 0);
    x.cell(10, 0, 0, 0);
    x.dike(0, 1, 20, 1, 0);
    x.go(2);
    due("breach(-1, 5, 5)", x.breach(-1, 5, 5), false);
    due("breach(1, 5, 5)", x.breach(1, 5, 5), false);
    due("breach(0, 1, 5)", x.breach(0, 1, 5), false);
    due("breach(0, 100, 5)", x.breach(0, 100, 5), false);
    due("breach(0, 5, -1)", x.breach(0, 5, -1), false);
    due("breach(0, 5, 21)", x.breach(0, 5, 21), false);
    due("crest(0, 0)", x.crest(0, 0), 20);
    due("breach(0, 99, 20)", x.breach(0, 99, 20), true);
    due("breach(0, 2, 0)", x.breach(0, 2, 0), true);
    due("crest(0, 0) in the hour of it", x.crest(0, 0), 0);
    due("crest(0, 3) in the hour of it", x.crest(0, 3), 0);
    due("breach(0, 3, 7) in place of it", x.breach(0, 3, 7), true);
    due("crest(0, 0)", x.crest(0, 0), 20);
    due("go(1)", x.go(1), 3);
    due("crest(0, 0)", x.crest(0, 0), 7);
    due("crest(0, 3)", x.crest(0, 3), 0);
    due("go(1)", x.go(1), 4);
    due("crest(0, 3)", x.crest(0, 3), 1);
    due("breach(0, 5, 3) behind it", x.breach(0, 5, 3), false);
    due("crest(0, 0)", x.crest(0, 0), 7);
    x.dike(0, 1, 20, 1, 0);
    x.go(96);
    due("breach(1, 100, 3)", x.breach(1, 100, 3), false);
    due("breach(1, 99, 3)", x.breach(1, 99, 3), false);
  }

  /** Water goes through a breach from its hour on, not before. */
  private static void breachLetsThrough() {
    promise = 5;
    FloodCells x = new FloodCells();
    x.stretch(10, 0, 0);
    x.cell(10, 0, 0, 0);
    x.dike(0, 1, 50, 100, 0);
    x.flows(0, 300);
    x.breach(0, 4, 5);
    due("foretold(1, 4)", x.foretold(1, 4), 0);
    due("foretold(1, 5)", x.foretold(1, 5), 125);
    due("go(4)", x.go(4), 4);
    due("told(1, 0)", x.told(1, 0), 0);
    due("go(1)", x.go(1), 5);
    due("told(1, 0)", x.told(1, 0), 125);
  }

  private static void inflow() {
    promise = 6;
    FloodCells x = new FloodCells();
    due("flows(3, 500) without a stretch", x.flows(3, 500), true);
    due("flows(4, 7)", x.flows(4, 7), true);
    due("flows(4, 9) in place of it", x.flows(4, 9), true);
    due("flows(-1, 1)", x.flows(-1, 1), false);
    due("flows(100, 1)", x.flows(100, 1), false);
    due("flows(0, -1)", x.flows(0, -1), false);
    due("flows(0, 1000001)", x.flows(0, 1000001), false);
    x.go(4);
    due("flows(3, 1) too late", x.flows(3, 1), false);
    due("count(9) without a stretch", x.count(9), 0);
    x.cell(1, 0, 0, 0);
    x.stretch(10, 0, 0);
    x.stretch(10, 0, 0);
    due("go(1)", x.go(1), 5);
    due("count(9)", x.count(9), 9);
    due("told(1, 0)", x.told(1, 0), 9);
    due("told(2, 0)", x.told(2, 0), 0);
    due("told(0, 0)", x.told(0, 0), 0);
    due("flows(5, 1000000)", x.flows(5, 1000000), true);
    due("flows(5, 0)", x.flows(5, 0), true);
    due("flows(99, 1000000)", x.flows(99, 1000000), true);
    due("go(100)", x.go(100), 100);
    due("told(1, 0)", x.told(1, 0), 1000009);
    due("flows(100, 0)", x.flows(100, 0), false);
    due("flows(99, 0)", x.flows(99, 0), false);
  }

  private static void passingDown() {
    promise = 6;
    FloodCells x = new FloodCells();
    x.stretch(10, 0, 50);
    x.cell(5, 0, 0, 0);
    x.stretch(10, 0, 50);
    x.flows(0, 101);
    x.go(1);
    due("told(0, 0)", x.told(0, 0), 51);
    due("told(2, 0)", x.told(2, 0), 50);
    due("count(8)", x.count(8), 0);
    x.go(1);
    due("told(0, 0)", x.told(0, 0), 26);
    due("told(2, 0)", x.told(2, 0), 50);
    due("count(8)", x.count(8), 25);
    due("told(1, 0)", x.told(1, 0), 0);
  }

  /** Numbers beyond an int on the way: water that passes, and width times head. */
  private static void muchWater() {
    promise = 13;
    FloodCells x = new FloodCells();
    x.stretch(1, 0, 0);
    x.stretch(1, 0, 100);
    for (int h = 0; h < 100; h++) x.flows(h, 1000000);
    x.go(98);
    due("told(0, 1)", x.told(0, 1), 98000000);
    x.dike(0, 1, 0, 1000, 0);
    x.go(1);
    due("told(0, 0)", x.told(0, 0), 49500000);
    due("told(1, 0)", x.told(1, 0), 49500000);
    x.go(1);
    due("told(0, 0)", x.told(0, 0), 25250000);
    due("told(1, 0)", x.told(1, 0), 25250000);
    due("count(8)", x.count(8), 49500000);
    due("count(9)", x.count(9), 100000000);
  }

  private static void pit() {
    promise = 7;
    FloodCells x = new FloodCells();
    due("pit(0)", x.pit(0), NONE);
    due("pit(-5)", x.pit(-5), NONE);
    due("pit(10001)", x.pit(10001), NONE);
    due("pit(Integer.MAX_VALUE)", x.pit(Integer.MAX_VALUE), NONE);
    due("pit(1)", x.pit(1), 1);
    for (int i = 1; i <= 9; i++) due("pit(10000)", x.pit(10000), 10000 * i + 1);
    due("pit(10000) beyond", x.pit(10000), NONE);
    due("pit(9999)", x.pit(9999), 100000);
    due("pit(1) beyond", x.pit(1), NONE);
    due("count(4)", x.count(4), 100000);
  }

  private static void sending() {
    promise = 8;
    FloodCells x = new FloodCells();
    x.stretch(10, 0, 0);
    x.cell(10, 0, 0, 0);
    x.dike(0, 1, 20, 1, 0);
    x.dike(0, 1, 20, 1, 20);
    due("send(0, 1) from an empty pit", x.send(0, 1), NONE);
    x.pit(100);
    due("send(-1, 1)", x.send(-1, 1), NONE);
    due("send(2, 1)", x.send(2, 1), NONE);
    due("send(0, 0)", x.send(0, 0), NONE);
    due("send(0, -1)", x.send(0, -1), NONE);
    due("send(0, 101)", x.send(0, 101), NONE);
    due("count(4)", x.count(4), 100);
    due("send(0, 9)", x.send(0, 9), 0);
    due("send(0, 10)", x.send(0, 10), 0);
    due("send(1, 30)", x.send(1, 30), 20);
    due("count(4)", x.count(4), 51);
    due("count(5)", x.count(5), 49);
    due("crest(0, 2)", x.crest(0, 2), 19);
    due("crest(0, 1)", x.crest(0, 1), 0);
    due("crest(0, 0)", x.crest(0, 0), 20);
    x.go(1);
    due("crest(0, 1)", x.crest(0, 1), 19);
    due("crest(0, 2)", x.crest(0, 2), 0);
    due("crest(0, 0), cut", x.crest(0, 0), 21);
    due("count(6)", x.count(6), 19);
    x.go(19);
    due("crest(1, 1) as hour 20 begins", x.crest(1, 1), 0);
    x.go(1);
    due("crest(1, 1) as hour 21 begins", x.crest(1, 1), 30);
    due("count(6)", x.count(6), 49);
    x.go(58);
    due("send(1, 1) at 79", x.send(1, 1), 99);
    x.go(1);
    due("send(1, 1) at 80", x.send(1, 1), NONE);
    x.go(19);
    due("send(0, 50) at 99", x.send(0, 50), 99);
    due("count(4)", x.count(4), 0);
    x.pit(1);
    x.go(1);
    due("send(0, 1) at 100", x.send(0, 1), NONE);
    due("crest(0, 1)", x.crest(0, 1), 69);
    due("crest(1, 1)", x.crest(1, 1), 31);
  }

  private static void washing() {
    promise = 8;
    FloodCells x = new FloodCells();
    x.cell(10, 0, 0, 0);
    x.cell(10, 0, 0, 0);
    x.dike(0, 1, 20, 1, 0);
    x.dike(0, 1, 20, 1, 3);
    x.pit(1000);
    x.send(0, 100);
    x.go(1);
    x.breach(0, 3, 4);
    x.send(1, 5);
    x.go(1);
    x.send(0, 20);
    due("crest(0, 1)", x.crest(0, 1), 100);
    x.go(1);
    due("crest(0, 1) as the hour begins", x.crest(0, 1), 120);
    due("crest(0, 0) as the hour begins", x.crest(0, 0), 4);
    due("count(7)", x.count(7), 0);
    x.send(0, 3);
    x.go(1);
    due("crest(0, 1)", x.crest(0, 1), 0);
    due("count(7)", x.count(7), 123);
    x.send(0, 40);
    x.go(1);
    due("count(7)", x.count(7), 163);
    due("crest(0, 1)", x.crest(0, 1), 0);
    due("crest(0, 2)", x.crest(0, 2), 0);
    due("crest(1, 1)", x.crest(1, 1), 5);
    due("count(6)", x.count(6), 5);
  }

  private static void telling() {
    promise = 9;
    FloodCells x = new FloodCells();
    due("tell(0, 1, 1) without dikes", x.tell(0, 1, 1), false);
    x.cell(10, 0, 0, 0);
    x.cell(10, 0, 0, 0);
    x.dike(0, 1, 20, 1, 0);
    x.dike(0, 1, 20, 1, 0);
    due("tell(-1, 1, 1)", x.tell(-1, 1, 1), false);
    due("tell(2, 1, 1)", x.tell(2, 1, 1), false);
    due("tell(0, -1, 1)", x.tell(0, -1, 1), false);
    due("tell(0, 100, 1)", x.tell(0, 100, 1), false);
    due("tell(0, 1, -1)", x.tell(0, 1, -1), false);
    due("tell(0, 1, 21)", x.tell(0, 1, 21), false);
    due("known(0)", x.known(0), NONE);
    for (int i = 0; i < 99; i++) due("tell", x.tell(i % 2, i, i % 21), true);
    due("tell(0, 99, 20), the hundredth", x.tell(0, 99, 20), true);
    due("tell, one more", x.tell(1, 0, 0), false);
    due("tell, one more of another", x.tell(0, 0, 0), false);
  }

  private static void knowing() {
    promise = 10;
    FloodCells x = new FloodCells();
    x.cell(10, 0, 0, 0);
    x.cell(10, 0, 0, 0);
    for (int i = 0; i < 3; i++) x.dike(0, 1, 20, 1, 0);
    due("worst() of nothing", x.worst(), NONE);
    x.tell(0, 30, 2);
    x.tell(0, 10, 1);
    x.tell(1, 0, 0);
    due("known(0)", x.known(0), NONE);
    due("known(1)", x.known(1), 0);
    due("known(2)", x.known(2), NONE);
    due("known(3)", x.known(3), NONE);
    due("known(-1)", x.known(-1), NONE);
    promise = 11;
    due("worst() of no seep at all", x.worst(), 1);
    x.go(1);
    due("known(0)", x.known(0), 10);
    due("worst()", x.worst(), 0);
    x.tell(2, 10, 0);
    due("worst() of like ones", x.worst(), 0);
    x.tell(2, 11, 0);
    due("worst()", x.worst(), 2);
    x.go(1);
    promise = 10;
    due("known(0), told last though known sooner", x.known(0), 10);
    x.tell(0, 50, 20);
    due("known(0), the last one not known yet", x.known(0), 10);
    x.go(19);
    due("known(0) at 21", x.known(0), 10);
    x.go(1);
    due("known(0) at 22", x.known(0), 50);
    promise = 11;
    due("worst()", x.worst(), 0);
    x.tell(0, 0, 0);
    due("worst()", x.worst(), 2);
    promise = 10;
    x.go(100);
    due("tell at 100", x.tell(1, 77, 0), true);
    due("known at 100", x.known(1), 77);
    due("tell at 100, later", x.tell(1, 78, 1), true);
    due("known at 100", x.known(1), 77);
  }

  private static void roads() {
    promise = 12;
    FloodCells x = new FloodCells();
    due("road(0, -1, 1, 1)", x.road(0, -1, 1, 1), NONE);
    x.stretch(10, 0, 0);
    x.cell(10, 0, 5, 0);
    x.cell(10, 0, 5, 0);
    int[][] refused = {{0, -1, 1, 1}, {0, 1, 1, 1}, {1, 0, 1, 1}, {3, -1, 1, 1}, {1, 3, 1, 1}, {1, -2, 1, 1}, {-1, 1, 1, 1},
        {-1, -1, 1, 1}, {1, 1, 1, 1}, {1, 2, 0, 1}, {1, 2, 100, 1}, {1, 2, 1, 0}, {1, 2, 1, 6}, {1, Integer.MIN_VALUE, 1, 1},
        {Integer.MAX_VALUE, 1, 1, 1}};
    for (int[] r : refused) due("road" + java.util.Arrays.toString(r), x.road(r[0], r[1], r[2], r[3]), NONE);
    due("count(3)", x.count(3), 0);
    due("road(1, 2, 99, 5)", x.road(1, 2, 99, 5), 0);
    due("road(2, -1, 1, 1)", x.road(2, -1, 1, 1), 1);
    for (int i = 2; i < 12; i++) due("road " + i, x.road(1, -1, 1, 1), i);
    due("a thirteenth", x.road(1, -1, 1, 1), NONE);
    due("count(3)", x.count(3), 12);
  }

  private static void going() {
    promise = 13;
    FloodCells x = new FloodCells();
    x.cell(1, 0, 5, 0);
    x.road(0, -1, 5, 1);
    due("go(-1)", x.go(-1), NONE);
    due("go(101)", x.go(101), NONE);
    due("go(Integer.MAX_VALUE)", x.go(Integer.MAX_VALUE), NONE);
    due("count(0)", x.count(0), 0);
    due("go(0)", x.go(0), 0);
    due("go(1)", x.go(1), 1);
    due("go(98)", x.go(98), 99);
    due("told(0, 5): they stay", x.told(0, 5), 5);
    due("go(100)", x.go(100), 100);
    due("go(1)", x.go(1), 100);
    due("go(0)", x.go(0), 100);
    due("go(-1)", x.go(-1), NONE);
  }

  /** Step (4) of an hour: what holds the water back, and what is the most that goes over. */
  private static void goingOver() {
    promise = 13;
    due("like levels", overOf(new int[] {10, 5}, 0, new int[] {10, 5}, 0, 1000), 0);
    due("up to the top", overOf(new int[] {10, 0}, 55, new int[] {10, 0}, 5, 1000), 0);
    due("width times head", overOf(new int[] {10, 0}, 85, new int[] {10, 0}, 5, 2), 6);
    due("head times area by 2, cut", overOf(new int[] {3, 0}, 20, new int[] {10, 0}, 5, 1000), 1);
    due("head times area by 2", overOf(new int[] {3, 0}, 25, new int[] {10, 0}, 5, 1000), 4);
    due("no more than its water", overOf(new int[] {10, 100}, 4, new int[] {10, 0}, 0, 1000), 4);
    due("over the other's level", overOf(new int[] {10, 0}, 85, new int[] {10, 6}, 5, 1), 2);
    due("the other one is upper, but has none", overOf(new int[] {10, 0}, 85, new int[] {10, 20}, 5, 1), 0);
    FloodCells x = new FloodCells();
    x.cell(10, 0, 0, 0);
    x.stretch(10, 0, 0);
    x.dike(0, 1, 5, 2, 0);
    x.flows(0, 85);
    x.go(1);
    due("from the second of the two", x.told(0, 0), 6);
  }

  private static int overOf(int[] upper, int water, int[] lower, int crest, int width) {
    FloodCells x = new FloodCells();
    x.stretch(upper[0], upper[1], 0);
    x.cell(lower[0], lower[1], 0, 0);
    x.dike(0, 1, crest, width, 0);
    x.flows(0, water);
    x.go(1);
    return x.told(1, 0);
  }

  /** Dikes by numbers: the second one sees what the first one did. */
  private static void dikesInOrder() {
    promise = 13;
    FloodCells x = new FloodCells();
    x.stretch(10, 0, 0);
    x.cell(10, 0, 0, 0);
    x.cell(10, 0, 0, 0);
    x.dike(0, 1, 0, 5, 0);
    x.dike(1, 2, 0, 5, 0);
    x.flows(0, 100);
    x.go(1);
    due("told(0, 0)", x.told(0, 0), 50);
    due("told(1, 0)", x.told(1, 0), 25);
    due("told(2, 0)", x.told(2, 0), 25);
    FloodCells y = new FloodCells();
    y.stretch(10, 0, 0);
    y.cell(10, 0, 0, 0);
    y.cell(10, 0, 0, 0);
    y.dike(1, 2, 0, 5, 0);
    y.dike(0, 1, 0, 5, 0);
    y.flows(0, 100);
    y.go(1);
    due("told(1, 0), the other way", y.told(1, 0), 50);
    due("told(2, 0), the other way", y.told(2, 0), 0);
  }

  private static void movingPeople() {
    promise = 14;
    FloodCells x = new FloodCells();
    x.stretch(10, 0, 0);
    x.cell(10, 0, 5, 0);
    x.road(1, -1, 99, 1);
    due("people(0, 1)", x.people(0, 1), false);
    due("people(2, 1)", x.people(2, 1), false);
    due("people(-1, 1)", x.people(-1, 1), false);
    due("people(1, -1)", x.people(1, -1), false);
    due("people(1, 501)", x.people(1, 501), false);
    due("told(1, 5)", x.told(1, 5), 5);
    due("leave(9)", x.leave(9), 5);
    due("people(1, 500)", x.people(1, 500), true);
    due("told(1, 5)", x.told(1, 5), 500);
    due("leave(9)", x.leave(9), 500);
    due("people(1, 0)", x.people(1, 0), true);
    due("leave(9)", x.leave(9), 0);
    due("told(0, 5)", x.told(0, 5), NONE);
  }

  private static void tellingOfBodies() {
    promise = 15;
    FloodCells x = new FloodCells();
    x.stretch(10, 3, 4);
    x.cell(7, 2, 30, 99);
    x.dike(0, 1, 3, 1, 0);
    x.flows(0, 100);
    x.go(1);
    // 96 stay, level 12, head 9, width 1: 9 go over.
    int[] stretch = {87, 11, 10, 3, 4, NONE, NONE, 0, NONE};
    int[] cell = {9, 3, 7, 2, NONE, 30, 99, 1, NONE};
    for (int w = 0; w <= 8; w++) {
      due("told(0, " + w + ")", x.told(0, w), stretch[w]);
      due("told(1, " + w + ")", x.told(1, w), cell[w]);
    }
    due("told(0, -1)", x.told(0, -1), NONE);
    due("told(2, 0)", x.told(2, 0), NONE);
    due("told(-1, 0)", x.told(-1, 0), NONE);
    due("told(MIN, MIN)", x.told(Integer.MIN_VALUE, Integer.MIN_VALUE), NONE);
    FloodCells y = new FloodCells();
    y.stretch(10, 0, 0);
    y.cell(9, 0, 0, 0);
    y.dike(0, 1, 0, 1, 0);
    y.flows(0, 89);
    y.go(1);
    due("told(1, 7), one short", y.told(1, 7), 0);
    y.flows(1, 10);
    y.go(1);
    due("told(1, 7)", y.told(1, 7), 1);
  }

  private static void tellingOfDikes() {
    promise = 16;
    FloodCells x = new FloodCells();
    x.cell(10, 0, 0, 0);
    x.cell(10, 0, 0, 0);
    x.dike(0, 1, 30, 1, 2);
    x.pit(500);
    x.send(0, 99);
    x.go(1);
    x.send(0, 100);
    due("crest(0, 2)", x.crest(0, 2), 199);
    x.go(2);
    due("crest(0, 0)", x.crest(0, 0), 39);
    due("crest(0, 1)", x.crest(0, 1), 99);
    due("crest(0, 2)", x.crest(0, 2), 100);
    due("crest(0, 3)", x.crest(0, 3), 0);
    due("crest(0, 4)", x.crest(0, 4), NONE);
    due("crest(0, -1)", x.crest(0, -1), NONE);
    due("crest(1, 0)", x.crest(1, 0), NONE);
    due("crest(-1, 0)", x.crest(-1, 0), NONE);
    x.breach(0, 4, 1);
    due("crest(0, 0) ahead of the breach", x.crest(0, 0), 39);
    x.go(1);
    due("crest(0, 0) in its hour", x.crest(0, 0), 1);
    due("crest(0, 3) in its hour", x.crest(0, 3), 0);
    x.go(1);
    due("crest(0, 0) behind it", x.crest(0, 0), 1);
    due("crest(0, 1) behind it", x.crest(0, 1), 0);
    due("crest(0, 3) behind it", x.crest(0, 3), 1);
  }

  /** A stretch that fills a cell late, in hour 99: the cell is wet as hour 100 begins. */
  private static FloodCells lateFlood() {
    FloodCells x = new FloodCells();
    x.stretch(10, 0, 0);
    x.cell(10, 0, 8, 7);
    x.cell(10, 0, 3, 5);
    x.dike(0, 1, 0, 1000, 0);
    x.flows(99, 40);
    return x;
  }

  private static void wetness() {
    promise = 17;
    FloodCells x = lateFlood();
    due("wet(1)", x.wet(1), 100);
    due("wet(2)", x.wet(2), NONE);
    due("wet(0)", x.wet(0), NONE);
    due("wet(3)", x.wet(3), NONE);
    due("wet(-1)", x.wet(-1), NONE);
    x.go(100);
    due("wet(1) at 100", x.wet(1), 100);
    FloodCells y = new FloodCells();
    y.stretch(10, 0, 50);
    y.cell(10, 0, 0, 1);
    y.dike(0, 1, 0, 100, 0);
    y.flows(0, 80);
    // hour 0: 40 pass, 20 go over; then the cell drains again as the stretch falls.
    due("wet(1)", y.wet(1), 1);
    y.go(1);
    due("told(1, 0)", y.told(1, 0), 20);
    due("wet(1) now", y.wet(1), 1);
    y.go(99);
    due("wet(1), dry again", y.wet(1), NONE);
    due("loss(), dry again", y.loss(), 0);
    promise = 18;
    x = lateFlood();
    due("foretold(1, 99)", x.foretold(1, 99), 0);
    due("foretold(1, 100)", x.foretold(1, 100), 20);
    due("foretold(0, 100)", x.foretold(0, 100), 20);
    due("foretold(0, 0)", x.foretold(0, 0), 0);
    due("foretold(0, 101)", x.foretold(0, 101), NONE);
    due("foretold(0, -1)", x.foretold(0, -1), NONE);
    due("foretold(3, 50)", x.foretold(3, 50), NONE);
    due("foretold(-1, 50)", x.foretold(-1, 50), NONE);
    x.go(50);
    due("foretold(0, 49)", x.foretold(0, 49), NONE);
    due("foretold(0, 50)", x.foretold(0, 50), 0);
    x.pit(10000);
    x.send(0, 10000);
    due("foretold(1, 100), bags under way", x.foretold(1, 100), 0);
    due("wet(1), bags under way", x.wet(1), NONE);
    x.breach(0, 99, 0);
    due("foretold(1, 100), a breach to come", x.foretold(1, 100), 20);
  }

  private static void losing() {
    promise = 19;
    FloodCells x = lateFlood();
    due("loss()", x.loss(), 7);
    x.dike(1, 2, 0, 1000, 0);
    due("loss(), the next one too", x.loss(), 12);
    x.flows(99, 39);
    due("loss(), a little less", x.loss(), 7);
    x.go(100);
    due("loss() as 100 begins", x.loss(), 7);
  }

  private static void bestDike() {
    promise = 20;
    FloodCells x = new FloodCells();
    due("best(1) without dikes", x.best(1), NONE);
    x.stretch(100, 0, 0);
    x.cell(10, 0, 0, 10);
    x.cell(10, 0, 0, 20);
    x.cell(10, 0, 0, 20);
    for (int c = 1; c <= 3; c++) x.dike(0, c, 10, 5, c == 1 ? 0 : 5);
    x.flows(50, 1400);
    x.pit(1000);
    due("best(0)", x.best(0), NONE);
    due("best(-1)", x.best(-1), NONE);
    due("best(1001)", x.best(1001), NONE);
    due("best(1), of like ones the least", x.best(1), 0);
    due("best(1000)", x.best(1000), 1);
    due("count(4)", x.count(4), 1000);
    due("count(5)", x.count(5), 0);
    due("loss()", x.loss(), 50);
    x.go(46);
    due("best(1000), too late for two", x.best(1000), 0);
    x.go(49);
    due("best(5) at 95", x.best(5), 0);
    x.go(4);
    due("best(5) at 99", x.best(5), 0);
    x.go(1);
    due("best(5) at 100", x.best(5), NONE);
  }

  private static void leaving() {
    promise = 21;
    FloodCells x = new FloodCells();
    x.cell(10, 0, 20, 5);
    x.cell(10, 0, 7, 5);
    x.road(0, -1, 3, 2);
    x.road(0, 1, 4, 1);
    x.road(1, -1, 2, 1);
    int[] due = {0, 2, 7, 12, 17, 22, 27, 27};
    for (int t = 7; t >= 0; t--) due("leave(" + t + ")", x.leave(t), due[t]);
    for (int t = 0; t <= 7; t++) due("leave(" + t + ") again", x.leave(t), due[t]);
    due("leave(-1)", x.leave(-1), NONE);
    due("leave(101)", x.leave(101), NONE);
    promise = 22;
    due("soonest()", x.soonest(), 6);
    x.go(96);
    due("soonest() at 96", x.soonest(), 100);
    promise = 21;
    due("leave(100) at 96", x.leave(100), 17);
    due("leave(95) at 96", x.leave(95), NONE);
    due("leave(96) at 96", x.leave(96), 0);
    x.go(4);
    due("leave(100) at 100", x.leave(100), 0);
    promise = 22;
    due("soonest() at 100", x.soonest(), NONE);
  }

  /** Cell 1 is wet from hour 5 on. Who comes to it then, or sets out from it, doesn't get away. */
  private static FloodCells shutByWater() {
    FloodCells x = new FloodCells();
    x.stretch(10, 0, 0);
    x.cell(10, 0, 40, 9);
    x.cell(10, 20, 12, 3);
    x.dike(0, 1, 50, 100, 3);
    x.flows(0, 300);
    x.breach(0, 4, 5);
    return x;
  }

  private static void leavingBeforeWater() {
    promise = 21;
    FloodCells x = shutByWater();
    x.road(1, -1, 2, 1);
    due("leave(5)", x.leave(5), 10);
    due("leave(100): none sets out in hour 5", x.leave(100), 10);
    due("soonest()", x.soonest(), 5);
    FloodCells y = shutByWater();
    y.road(1, -1, 2, 5);
    due("leave(100): under way it doesn't matter", y.leave(100), 10);
    due("leave(8)", y.leave(8), 8);
    FloodCells z = shutByWater();
    z.people(1, 0);
    z.road(2, 1, 2, 1);
    z.road(1, -1, 99, 1);
    due("leave(100): none comes to it in hour 5", z.leave(100), 8);
    due("leave(4)", z.leave(4), 6);
    z.go(5);
    due("leave(100) at 5", z.leave(100), 0);
    y.go(5);
    due("leave(100) where it is wet now", y.leave(100), 0);
    due("soonest()", y.soonest(), NONE);
    promise = 23;
    due("bars(100) where it is wet now", y.bars(100), 0);
  }

  /** Cell 1 is wet in hours 1 to some later one, then dry: nobody waits through that, but one can come behind it. */
  private static void dryAgain() {
    promise = 21;
    FloodCells x = new FloodCells();
    x.stretch(10, 0, 50);
    x.cell(10, 0, 30, 1);
    x.cell(10, 500, 4, 1);
    x.dike(0, 1, 0, 100, 0);
    x.flows(0, 80);
    x.road(1, -1, 7, 1);
    x.road(2, 1, 3, 1);
    int dry = 1;
    while (x.foretold(1, dry) >= 10) dry++;
    due("it is dry again some day", dry > 1 && dry < 50, true);
    due("leave(1)", x.leave(1), 7);
    due("leave, as it is dry", x.leave(dry), 7);
    due("leave, an hour later", x.leave(dry + 1), 10);
    due("leave(100)", x.leave(100), 11);
    due("soonest()", x.soonest(), dry + 2);
    promise = 23;
    due("bars(100)", x.bars(100), 1);
    due("bar(100, 0, 0)", x.bar(100, 0, 0), 0);
    due("bar(100, 0, 1)", x.bar(100, 0, 1), 0);
  }

  /** One of two ways is taken by those who could take the other one, too. */
  private static void twoWays() {
    promise = 21;
    FloodCells x = new FloodCells();
    x.cell(10, 0, 10, 0);
    x.cell(10, 0, 0, 0);
    x.cell(10, 0, 0, 0);
    x.road(0, 1, 5, 1);
    x.road(0, 2, 5, 1);
    x.road(1, -1, 3, 1);
    x.road(2, -1, 4, 1);
    x.road(1, 2, 9, 1);
    due("leave(1)", x.leave(1), 0);
    due("leave(2)", x.leave(2), 7);
    due("leave(3)", x.leave(3), 10);
    promise = 23;
    due("bars(2)", x.bars(2), 2);
    due("bars(1)", x.bars(1), 0);
    due("bars(3)", x.bars(3), 0);
    promise = 24;
    due("bar(2, 0, 0)", x.bar(2, 0, 0), 2);
    due("bar(2, 0, 1)", x.bar(2, 0, 1), 1);
    due("bar(2, 1, 0)", x.bar(2, 1, 0), 3);
    due("bar(2, 1, 1)", x.bar(2, 1, 1), 1);
  }

  private static void theBars() {
    promise = 23;
    FloodCells x = new FloodCells();
    x.cell(10, 0, 20, 5);
    x.cell(10, 0, 7, 5);
    x.road(0, -1, 3, 2);
    x.road(0, 1, 4, 1);
    x.road(1, -1, 2, 1);
    due("bars(0)", x.bars(0), 0);
    due("bars(1)", x.bars(1), 1);
    due("bars(3)", x.bars(3), 5);
    due("bars(100)", x.bars(100), 0);
    due("bars(3) behind it", x.bars(3), 5);
    due("bars(-1)", x.bars(-1), NONE);
    due("bars(101)", x.bars(101), NONE);
    promise = 24;
    int[][] due = {{0, 0}, {2, 0}, {0, 1}, {2, 1}, {2, 2}};
    for (int i = 0; i < 5; i++) {
      due("bar(3, " + i + ", 0)", x.bar(3, i, 0), due[i][0]);
      due("bar(3, " + i + ", 1)", x.bar(3, i, 1), due[i][1]);
    }
    due("bar(3, 5, 0)", x.bar(3, 5, 0), NONE);
    due("bar(3, -1, 0)", x.bar(3, -1, 0), NONE);
    due("bar(3, 0, 2)", x.bar(3, 0, 2), NONE);
    due("bar(3, 0, -1)", x.bar(3, 0, -1), NONE);
    due("bar(-1, 0, 0)", x.bar(-1, 0, 0), NONE);
    due("bar(101, 0, 0)", x.bar(101, 0, 0), NONE);
    due("bar(100, 0, 0)", x.bar(100, 0, 0), NONE);
    x.go(1);
    promise = 23;
    due("bars(0) at 1", x.bars(0), NONE);
    due("bars(3) at 1", x.bars(3), 3);
    promise = 24;
    due("bar(3, 0, 1) at 1", x.bar(3, 0, 1), 1);
    due("bar(0, 0, 0) at 1", x.bar(0, 0, 0), NONE);
  }

  /** Of cheapest heaps the least counts: the first of two roads that bear the same, not the second. */
  private static void leastHeap() {
    promise = 23;
    FloodCells x = new FloodCells();
    x.cell(10, 0, 9, 0);
    x.cell(10, 0, 0, 0);
    x.road(0, 1, 4, 1);
    x.road(1, -1, 4, 1);
    due("leave(2)", x.leave(2), 4);
    due("bars(2)", x.bars(2), 1);
    promise = 24;
    due("bar(2, 0, 0)", x.bar(2, 0, 0), 0);
    due("bar(2, 0, 1)", x.bar(2, 0, 1), 0);
    x.people(0, 4);
    promise = 23;
    due("bars(2): those of the cell bar no less", x.bars(2), 0);
    FloodCells y = shutByWater();
    y.road(2, 1, 2, 1);
    y.road(1, -1, 50, 1);
    // The road to cell 1 is no bar in hours where it would end under water.
    due("leave(100)", y.leave(100), 48);
    due("bars(100)", y.bars(100), 4);
    promise = 24;
    due("bar(100, 3, 0)", y.bar(100, 3, 0), 0);
    due("bar(100, 3, 1)", y.bar(100, 3, 1), 3);
  }

  private static void counting() {
    promise = 25;
    FloodCells x = new FloodCells();
    x.stretch(10, 0, 50);
    x.cell(10, 0, 5, 0);
    x.cell(10, 0, 5, 0);
    x.dike(0, 1, 0, 1, 0);
    x.dike(0, 1, 9, 1, 5);
    x.road(1, -1, 1, 1);
    x.road(1, -1, 1, 1);
    x.road(1, 2, 1, 1);
    x.road(2, 1, 1, 1);
    x.flows(0, 100);
    x.pit(100);
    x.send(0, 10);
    x.send(1, 20);
    x.breach(0, 1, 0);
    x.go(1);
    int[] first = {1, 3, 2, 4, 70, 20, 10, 0, 50, 100};
    for (int w = 0; w < 10; w++) due("count(" + w + ")", x.count(w), first[w]);
    x.go(1);
    int[] second = {2, 3, 2, 4, 70, 20, 0, 10, 73, 100};
    for (int w = 0; w < 10; w++) due("count(" + w + ")", x.count(w), second[w]);
    due("count(-1)", x.count(-1), NONE);
    due("count(10)", x.count(10), NONE);
    due("count(MIN)", x.count(Integer.MIN_VALUE), NONE);
  }

  /** What is asked changes nothing; that what is refused doesn't either is looked at in Refusals. */
  private static void askingChangesNothing() {
    promise = 0;
    FloodCells x = shutByWater();
    x.road(1, -1, 2, 2);
    x.road(1, 2, 3, 1);
    x.road(2, -1, 2, 1);
    x.pit(400);
    x.send(0, 150);
    x.tell(0, 5, 0);
    x.go(1);
    String before = Answers.all(x);
    due("asked twice", Answers.all(x).equals(before), true);
  }

  public static void main(String[] args) {
    newObject();
    stretches();
    cells();
    dikes();
    breaches();
    breachLetsThrough();
    inflow();
    passingDown();
    muchWater();
    pit();
    sending();
    washing();
    telling();
    knowing();
    roads();
    going();
    goingOver();
    dikesInOrder();
    movingPeople();
    tellingOfBodies();
    tellingOfDikes();
    wetness();
    losing();
    bestDike();
    leaving();
    leavingBeforeWater();
    dryAgain();
    twoWays();
    theBars();
    leastHeap();
    counting();
    askingChangesNothing();
    System.out.println(asked + " answers looked at, " + wrong + " wrong");
    if (wrong != 0) System.exit(1);
  }
}

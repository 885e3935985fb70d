/** Each sentence of the document that names an edge has a test of its own here: just inside the edge, on it, and just outside. */
public final class Edges {
  private static final int NONE = FloodCells.NONE;
  private static final int MIN = Integer.MIN_VALUE;
  private static final int MAX = Integer.MAX_VALUE;
  private static int wrong = 0;
  private static int asked = 0;
  private static int sentences = 0;
  private static String where = "";
  private static FloodCells x;

  /** A new sentence, tested on a new desk. */
  private static void sentence(String place, String words) {
    sentences++;
    where = place + ", \"" + words + "\"";
    x = new FloodCells();
  }

  private static void due(String call, long got, long want) {
    asked++;
    if (got == want) return;
    wrong++;
    System.out.println(where + ": " + call + " answered " + got + ", due is " + want);
  }

  private static void due(String call, boolean got, boolean want) { due(call, got ? 1 : 0, want ? 1 : 0); }

  /** A stretch that holds its water (0) and a cell (1), both of area 10 and floor 0, with a dike between them. */
  private static void riverAndCell(int crest, int width, int hours) {
    x = new FloodCells();
    x.stretch(10, 0, 0);
    x.cell(10, 0, 0, 1);
    x.dike(0, 1, crest, width, hours);
  }

  // ---- Terms 1

  private static void hours() {
    sentence("Terms 1", "HOURS are 0 .. 99; NOW is one (0 at first; 100 behind the last one)");
    x.stretch(1, 0, 0);
    due("count(0)", x.count(0), 0);
    due("flows(0, 1)", x.flows(0, 1), true);
    due("flows(-1, 1)", x.flows(-1, 1), false);
    due("flows(99, 2)", x.flows(99, 2), true);
    due("flows(100, 4)", x.flows(100, 4), false);
    due("go(99)", x.go(99), 99);
    due("told(0, 0) at 99", x.told(0, 0), 1);
    due("go(1)", x.go(1), 100);
    due("told(0, 0) at 100", x.told(0, 0), 3);
    due("go(1) at 100", x.go(1), 100);
    due("told(0, 0) still", x.told(0, 0), 3);
    due("count(9)", x.count(9), 3);
  }

  private static void atMostTenBodies() {
    sentence("Terms 1", "BODIES have numbers as they come, at most 10: STRETCHES and CELLS");
    for (int i = 0; i < 10; i++) due("body " + i, i % 2 == 0 ? x.cell(1, 0, 0, 0) : x.stretch(1, 0, 0), i);
    due("an eleventh, a cell", x.cell(1, 0, 0, 0), NONE);
    due("an eleventh, a stretch", x.stretch(1, 0, 0), NONE);
    due("count(1)", x.count(1), 10);
    due("told(9, 2)", x.told(9, 2), 1);
    due("told(10, 2)", x.told(10, 2), NONE);
    sentence("Terms 1", "BODIES have numbers as they come (a refused one has none)");
    due("stretch(0, 0, 0)", x.stretch(0, 0, 0), NONE);
    due("cell(1, 0, 0, 0)", x.cell(1, 0, 0, 0), 0);
    due("cell(1, 0, 501, 0)", x.cell(1, 0, 501, 0), NONE);
    due("stretch(1, 0, 0)", x.stretch(1, 0, 0), 1);
  }

  private static void areaAndFloor() {
    sentence("Terms 1", "each with an AREA (1 .. 1000), a FLOOR (0 .. 1000) and WATER (0 at first)");
    due("stretch(1, 0, 0)", x.stretch(1, 0, 0), 0);
    due("stretch(1000, 1000, 0)", x.stretch(1000, 1000, 0), 1);
    due("cell(1, 0, 0, 0)", x.cell(1, 0, 0, 0), 2);
    due("cell(1000, 1000, 0, 0)", x.cell(1000, 1000, 0, 0), 3);
    for (int area : new int[] {MIN, -1, 0, 1001, MAX}) {
      due("stretch, area " + area, x.stretch(area, 0, 0), NONE);
      due("cell, area " + area, x.cell(area, 0, 0, 0), NONE);
    }
    for (int floor : new int[] {MIN, -1, 1001, MAX}) {
      due("stretch, floor " + floor, x.stretch(1, floor, 0), NONE);
      due("cell, floor " + floor, x.cell(1, floor, 0, 0), NONE);
    }
    for (int b = 0; b < 4; b++) {
      due("water of " + b, x.told(b, 0), 0);
      due("level of " + b, x.told(b, 1), b % 2 == 0 ? 0 : 1000);
      due("area of " + b, x.told(b, 2), b % 2 == 0 ? 1 : 1000);
      due("floor of " + b, x.told(b, 3), b % 2 == 0 ? 0 : 1000);
    }
  }

  private static void levelIsCut() {
    sentence("Terms 1", "LEVEL is FLOOR and WATER by AREA (cut)");
    int[][] areaWaterLevel = {{7, 6, 3}, {7, 7, 4}, {7, 13, 4}, {7, 14, 5}, {1, 1, 4}, {1000, 999, 3}, {1000, 1000, 4}, {1, 1000000, 1000003}};
    for (int[] r : areaWaterLevel) {
      x = new FloodCells();
      x.stretch(r[0], 3, 0);
      x.flows(0, r[1]);
      x.go(1);
      due("level of " + r[1] + " on " + r[0], x.told(0, 1), r[2]);
    }
  }

  private static void stretchesInOrder() {
    sentence("Terms 1", "STRETCHES are below one another in the order in which they came");
    x.cell(1, 0, 0, 0);
    x.stretch(1, 0, 100);
    x.cell(1, 0, 0, 0);
    x.stretch(1, 1000, 100);
    x.flows(0, 10);
    x.go(1);
    due("told(3, 0) though its floor is higher", x.told(3, 0), 10);
    due("stretch(1, 0, 0) comes later", x.stretch(1, 0, 0), 4);
    x.go(1);
    due("told(4, 0)", x.told(4, 0), 10);
    due("count(8)", x.count(8), 0);
    due("the cells", x.told(0, 0) + x.told(2, 0), 0);
  }

  private static void passesAPart() {
    sentence("Terms 1", "each PASSES a part of 100");
    int[][] passesWaterOut = {{0, 1000000, 0}, {1, 99, 0}, {1, 100, 1}, {1, 199, 1}, {99, 1, 0}, {99, 100, 99}, {100, 1, 1}, {100, 1000000, 1000000}};
    for (int[] r : passesWaterOut) {
      x = new FloodCells();
      x.stretch(1, 0, r[0]);
      x.flows(0, r[1]);
      x.go(1);
      due("OUT of " + r[1] + " by " + r[0], x.count(8), r[2]);
      due("left of " + r[1] + " by " + r[0], x.told(0, 0), r[1] - r[2]);
    }
  }

  private static void topByBags() {
    sentence("Terms 1", "The TOP is .. else the CREST and BAGS by 10 (cut)");
    int[][] bagsTop = {{1, 50}, {9, 50}, {10, 51}, {19, 51}, {20, 52}, {10000, 1050}};
    for (int[] r : bagsTop) {
      riverAndCell(50, 1, 0);
      due("BAGS at first", x.crest(0, 1), 0);
      x.pit(10000);
      x.send(0, r[0]);
      due("TOP ahead of them", x.crest(0, 0), 50);
      x.go(1);
      due("TOP with " + r[0], x.crest(0, 0), r[1]);
    }
  }

  private static void topOfABreach() {
    sentence("Terms 1", "The TOP is the SILL from that HOUR on");
    riverAndCell(50, 1, 0);
    x.pit(100);
    x.send(0, 100);
    x.breach(0, 2, 0);
    x.go(1);
    due("TOP at 1", x.crest(0, 0), 60);
    x.go(1);
    due("TOP at 2", x.crest(0, 0), 0);
    x.go(1);
    due("TOP at 3", x.crest(0, 0), 0);
    x.go(97);
    due("TOP at 100", x.crest(0, 0), 0);
  }

  // ---- Terms 2

  private static void lostWithoutAStretch() {
    sentence("Terms 2", "what FLOWS .. comes to the first STRETCH (without one it is lost: it doesn't come)");
    x.cell(10, 0, 0, 0);
    x.flows(0, 30);
    x.flows(1, 40);
    x.flows(2, 50);
    x.go(1);
    due("count(9)", x.count(9), 0);
    x.stretch(10, 0, 0);
    due("told(1, 0): what was lost stays lost", x.told(1, 0), 0);
    x.go(1);
    due("told(1, 0)", x.told(1, 0), 40);
    x.stretch(10, 0, 0);
    x.go(1);
    due("told(1, 0): to the first", x.told(1, 0), 90);
    due("told(2, 0)", x.told(2, 0), 0);
    due("count(9)", x.count(9), 90);
  }

  private static void fromTheLastOneUp() {
    sentence("Terms 2", "STRETCHES from the last one up .. goes to the next one below, from the last one OUT");
    for (int i = 0; i < 10; i++) x.stretch(1, 0, 100);
    x.flows(0, 5);
    for (int h = 1; h <= 9; h++) {
      x.go(1);
      due("told(" + h + ", 0) at " + h, x.told(h, 0), 5);
      due("count(8) at " + h, x.count(8), 0);
    }
    x.go(1);
    due("told(9, 0)", x.told(9, 0), 0);
    due("count(8)", x.count(8), 5);
  }

  private static void muchPasses() {
    sentence("Terms 2", "WATER times what it PASSES by 100 (no wrap-around)");
    x.stretch(1, 0, 0);
    for (int h = 0; h < 100; h++) x.flows(h, 1000000);
    x.stretch(1, 0, 99);
    x.dike(0, 1, 0, 1000, 0);
    x.go(100);
    due("all that came is somewhere", x.told(0, 0) + x.told(1, 0) + x.count(8), 100000000);
    due("count(9)", x.count(9), 100000000);
    due("none is below nothing", x.told(0, 0) >= 0 && x.told(1, 0) >= 0 && x.count(8) > 0, true);
  }

  private static void bagsOfThisHourHold() {
    sentence("Terms 2", "BAGS that come in this HOUR are on their DIKE (ahead of what goes over)");
    int[][] bagsOver = {{39, 10}, {40, 5}, {49, 5}, {50, 0}};
    for (int[] r : bagsOver) {
      riverAndCell(5, 100, 0);
      x.flows(0, 100);
      x.pit(100);
      x.send(0, r[0]);
      x.go(1);
      due("over " + r[0] + " bags", x.told(1, 0), r[1]);
    }
    riverAndCell(5, 100, 1);
    x.flows(0, 100);
    x.pit(100);
    x.send(0, 100);
    x.go(1);
    due("an hour too late", x.told(1, 0), 25);
  }

  private static void bagsThatComeToABreach() {
    sentence("Terms 2", "if that is breached (its HOUR is this one or was), they are WASHED");
    riverAndCell(50, 1, 2);
    x.pit(1000);
    x.send(0, 1);
    x.breach(0, 3, 0);
    x.go(1);
    x.send(0, 20);
    x.go(1);
    x.send(0, 300);
    x.go(1);
    due("BAGS at 3: those of hour 2 are on it", x.crest(0, 1), 1);
    due("WASHED at 3", x.count(7), 0);
    x.go(1);
    due("BAGS at 4", x.crest(0, 1), 0);
    due("WASHED at 4: those on it and those of hour 3", x.count(7), 21);
    due("under way at 4", x.crest(0, 2), 300);
    x.go(1);
    due("WASHED at 5", x.count(7), 321);
    due("under way at 5", x.crest(0, 2), 0);
    due("on DIKES", x.count(6), 0);
  }

  private static void bagsOfOtherDikesStay() {
    sentence("Terms 2", "BAGS on a DIKE whose BREACH is this HOUR are WASHED");
    riverAndCell(50, 1, 0);
    x.dike(0, 1, 50, 1, 0);
    x.pit(100);
    x.send(0, 30);
    x.send(1, 40);
    x.go(1);
    x.breach(0, 1, 50);
    due("BAGS as that HOUR begins", x.crest(0, 1), 30);
    x.go(1);
    due("BAGS behind it", x.crest(0, 1), 0);
    due("BAGS of the other one", x.crest(1, 1), 40);
    due("WASHED", x.count(7), 30);
    x.go(98);
    due("WASHED once", x.count(7), 30);
  }

  /** Water that goes from a stretch over a dike in one hour. */
  private static int over(int area, int water, int cellFloor, int crest, int width) {
    x = new FloodCells();
    x.stretch(area, 0, 0);
    x.cell(10, cellFloor, 0, 0);
    x.dike(1, 0, crest, width, 0);
    x.flows(0, water);
    x.go(1);
    due("none is lost", x.told(0, 0) + x.told(1, 0), water);
    return x.told(1, 0);
  }

  private static void whatGoesOver() {
    sentence("Terms 2", "the one with the higher LEVEL (none if they are like) is the UPPER one");
    due("like levels", over(10, 59, 5, 0, 1000), 0);
    due("one more", over(10, 60, 5, 0, 1), 1);
    due("the cell is higher and has none", over(10, 60, 7, 0, 1000), 0);
    sentence("Terms 2", "HEAD is that LEVEL less the greater of TOP and the other LEVEL; if it is above 0");
    due("level one below the top", over(10, 49, 0, 5, 1), 0);
    due("level at the top", over(10, 59, 0, 5, 1), 0);
    due("level one above the top", over(10, 60, 0, 5, 1), 1);
    due("the other level below the top", over(10, 80, 4, 5, 1), 3);
    due("the other level at the top", over(10, 80, 5, 5, 1), 3);
    due("the other level above the top", over(10, 80, 6, 5, 1), 2);
    due("the greatest crest", over(1, 2000, 0, 2000, 1000), 0);
    due("above the greatest crest", over(10, 20010, 0, 2000, 3), 3);
    sentence("Terms 2", "WIDTH times HEAD, but neither more than HEAD times the UPPER one's AREA by 2 (cut)");
    due("width is less", over(10, 80, 0, 5, 4), 12);
    due("width is like", over(10, 80, 0, 5, 5), 15);
    due("width is more", over(10, 80, 0, 5, 6), 15);
    due("area 1, head 1: cut to none", over(1, 6, 0, 5, 1000), 0);
    due("area 1, head 2", over(1, 7, 0, 5, 1000), 1);
    due("area 3, head 1", over(3, 18, 0, 5, 1000), 1);
    due("area 3, head 3: cut once", over(3, 24, 0, 5, 1000), 4);
    due("no wrap-around", over(1, 1000000, 0, 0, 1000), 500000);
  }

  private static void noMoreThanItsWater() {
    sentence("Terms 2", "nor than its WATER, goes over");
    int[][] waterOver = {{0, 0}, {1, 1}, {49, 49}, {50, 50}, {51, 50}};
    for (int[] r : waterOver) {
      x = new FloodCells();
      x.stretch(100, 100, 0);
      x.cell(10, 0, 0, 0);
      x.dike(0, 1, 99, 1000, 0);
      x.flows(0, r[0]);
      x.go(1);
      due("over of " + r[0], x.told(1, 0), r[1]);
      due("left of " + r[0], x.told(0, 0), r[0] - r[1]);
    }
  }

  private static void overOneAfterAnother() {
    sentence("Terms 2", "DIKES by numbers (12 of them)");
    x.stretch(10, 0, 0);
    for (int c = 1; c < 10; c++) x.cell(10, 0, 0, 0);
    for (int d = 0; d < 9; d++) x.dike(d, d + 1, 0, 1000, 0);
    for (int d = 9; d < 12; d++) x.dike(8, 9, 0, 1000, 0);
    x.flows(0, 10240);
    x.go(1);
    // Each dike takes half of the head; behind the ninth one both sides are like.
    for (int b = 0; b < 9; b++) due("told(" + b + ", 0)", x.told(b, 0), 5120 >> b);
    due("told(9, 0)", x.told(9, 0), 20);
    due("like ones", x.told(8, 1), x.told(9, 1));
  }

  private static void theLastDikeCounts() {
    sentence("Terms 2", "DIKES by numbers (the twelfth one alone lets water through)");
    x.stretch(10, 0, 0);
    x.cell(10, 0, 0, 6);
    for (int d = 0; d < 11; d++) x.dike(0, 1, 2000, 1000, 0);
    due("dike, the twelfth", x.dike(0, 1, 1, 1000, 0), 11);
    x.flows(0, 40);
    x.pit(100);
    due("foretold(1, 1)", x.foretold(1, 1), 15);
    due("loss()", x.loss(), 6);
    due("best(100)", x.best(100), 11);
    due("tell", x.tell(11, 0, 0), true);
    due("worst()", x.worst(), 11);
    due("send(11, 100)", x.send(11, 100), 0);
    due("count(5)", x.count(5), 100);
    x.go(1);
    due("told(1, 0)", x.told(1, 0), 0);
    due("count(6)", x.count(6), 100);
    due("breach(11, 1, 1)", x.breach(11, 1, 1), true);
    x.go(1);
    due("count(7)", x.count(7), 100);
    due("told(1, 0)", x.told(1, 0), 15);
  }

  // ---- Terms 3

  private static void wetAtItsArea() {
    sentence("Terms 3", "A CELL is WET in an HOUR if its WATER is at least its AREA as the HOUR begins");
    int[][] waterWet = {{9, 0}, {10, 1}, {11, 1}};
    for (int[] r : waterWet) {
      x = new FloodCells();
      x.stretch(1000, 1000, 0);
      x.cell(10, 0, 0, 7);
      x.dike(0, 1, 0, 1000, 0);
      x.flows(0, r[0]);
      due("told(1, 7) ahead", x.told(1, 7), 0);
      due("wet(1)", x.wet(1), r[1] == 1 ? 1 : NONE);
      due("loss()", x.loss(), 7 * r[1]);
      x.go(1);
      due("told(1, 0)", x.told(1, 0), r[0]);
      due("told(1, 7) with " + r[0], x.told(1, 7), r[1]);
      due("wet(1) now", x.wet(1), r[1] == 1 ? 1 : NONE);
    }
  }

  private static void foretoldAnew() {
    sentence("Terms 3", "FORETOLD is what would be .. if nothing more were told or sent (each telling is foretold anew)");
    due("foretold(0, 100)", x.foretold(0, 100), NONE);
    x.flows(2, 100);
    x.stretch(10, 0, 0);
    due("with a stretch", x.foretold(0, 100), 100);
    x.flows(3, 20);
    due("with more", x.foretold(0, 100), 120);
    x.cell(10, 0, 5, 3);
    x.road(1, NONE, 5, 1);
    due("wet(1)", x.wet(1), NONE);
    due("leave(9)", x.leave(9), 5);
    x.people(1, 20);
    due("leave(9) of more people", x.leave(9), 20);
    due("leave(3) of more people", x.leave(3), 15);
    x.dike(0, 1, 5, 1000, 0);
    due("wet(1) with a dike", x.wet(1), 3);
    due("leave(9) with a dike", x.leave(9), 15);
    due("bars(9)", x.bars(9), 3);
    x.road(1, NONE, 2, 1);
    due("leave(9) by one more road", x.leave(9), 20);
    due("bars(9) by one more road", x.bars(9), 0);
    x.pit(1000);
    due("wet(1) with bags in the pit", x.wet(1), 3);
    x.send(0, 1000);
    due("wet(1) with bags under way", x.wet(1), NONE);
    x.go(1);
    due("wet(1) with bags on it", x.wet(1), NONE);
    x.breach(0, 4, 0);
    due("wet(1) with a breach to come", x.wet(1), 5);
    x.stretch(10, 0, 0);
    due("foretold(0, 100): nothing passes", x.foretold(0, 100), 60);
    x.flows(2, 0);
    x.flows(3, 0);
    due("wet(1) without water", x.wet(1), NONE);
    due("foretold(2, 100)", x.foretold(2, 100), 0);
  }

  private static void aStretchBelowIsForetold() {
    sentence("Terms 3", "FORETOLD (a stretch that comes takes what would go OUT)");
    x.stretch(10, 0, 100);
    x.flows(0, 70);
    due("foretold(0, 1)", x.foretold(0, 1), 0);
    x.stretch(10, 0, 0);
    due("foretold(1, 1)", x.foretold(1, 1), 70);
    due("count(8) is not foretold", x.count(8), 0);
    due("count(9) is not foretold", x.count(9), 0);
  }

  private static void lossesOfHours() {
    sentence("Terms 3", "LOSS: .. all CELLS that are WET NOW or in an HOUR up to 99, FORETOLD (also as HOUR 100 begins)");
    int[][] flowHourFirstWet = {{0, 1}, {50, 51}, {98, 99}, {99, 100}};
    for (int[] r : flowHourFirstWet) {
      riverAndCell(0, 1000, 0);
      x.flows(r[0], 40);
      due("loss() of hour " + r[0], x.loss(), 1);
      due("wet(1)", x.wet(1), r[1]);
      x.go(r[1]);
      due("loss() as it is WET NOW", x.loss(), 1);
      x.go(100);
      due("loss() at 100", x.loss(), 1);
    }
    sentence("Terms 3", "LOSS: the sum of WORTHS (none, and the most)");
    due("loss() without cells", x.loss(), 0);
    x.stretch(1, 1000, 0);
    due("loss() of a stretch", x.loss(), 0);
    for (int c = 1; c < 10; c++) x.cell(1, 0, 0, 1000000);
    for (int c = 1; c < 10; c++) x.dike(0, c, 0, 1, 0);
    x.flows(0, 1000000);
    due("loss() of nine", x.loss(), 9000000);
    x.go(100);
    due("loss() of nine at 100", x.loss(), 9000000);
    sentence("Terms 3", "LOSS: WET NOW or later (what was WET and is dry isn't lost)");
    x.cell(10, 0, 0, 8);
    x.stretch(10, 0, 50);
    x.dike(0, 1, 0, 1000, 0);
    x.flows(0, 80);
    due("loss()", x.loss(), 8);
    x.go(1);
    due("loss() WET NOW", x.loss(), 8);
    x.go(99);
    due("told(0, 7)", x.told(0, 7), 0);
    due("loss() behind it", x.loss(), 0);
  }

  private static void bestOfLikeOnes() {
    sentence("Terms 3", "BEST .. so that the LOSS is least, of like ones the least number");
    x.stretch(100, 0, 0);
    x.cell(10, 0, 0, 5);
    x.cell(10, 0, 0, 5);
    x.cell(10, 0, 0, 6);
    for (int c = 1; c <= 3; c++) x.dike(0, c, 10, 5, 0);
    x.pit(100);
    due("best(1), nothing is lost", x.best(1), 0);
    x.flows(0, 1500);
    due("loss()", x.loss(), 16);
    due("best(1), nothing is saved", x.best(1), 0);
    due("best(49): enough for the third one, as the level has fallen", x.best(49), 2);
    due("best(100)", x.best(100), 2);
    x.breach(2, 0, 0);
    due("best(100), the third one is breached: of like ones", x.best(100), 0);
    x.breach(0, 0, 0);
    due("best(100), the second one alone", x.best(100), 1);
    x.breach(1, 0, 0);
    due("best(100), all breached: they can be sent, of like ones", x.best(100), 0);
    due("send(0, 100)", x.send(0, 100), 0);
    due("best(1) with an empty pit", x.best(1), NONE);
  }

  private static void knownSomeHoursLater() {
    sentence("Terms 3", "it is KNOWN some HOURS later");
    riverAndCell(5, 1, 0);
    for (int d = 1; d < 3; d++) x.dike(0, 1, 5, 1, 0);
    due("tell(0, 99, 0)", x.tell(0, 99, 0), true);
    due("tell(1, 0, 1)", x.tell(1, 0, 1), true);
    due("tell(2, 7, 20)", x.tell(2, 7, 20), true);
    due("known(0) at once", x.known(0), 99);
    due("known(1) at 0", x.known(1), NONE);
    x.go(1);
    due("known(1) at 1", x.known(1), 0);
    x.go(18);
    due("known(2) at 19", x.known(2), NONE);
    x.go(1);
    due("known(2) at 20", x.known(2), 7);
    x.go(80);
    due("known(2) at 100", x.known(2), 7);
    sentence("Terms 3", "KNOWN of a DIKE is the latest told of those that are KNOWN NOW");
    riverAndCell(5, 1, 0);
    x.tell(0, 50, 3);
    x.tell(0, 60, 2);
    x.tell(0, 70, 4);
    x.tell(0, 10, 2);
    due("known(0) at 0", x.known(0), NONE);
    x.go(2);
    due("known(0) at 2: two at once, the later told", x.known(0), 10);
    x.go(1);
    due("known(0) at 3: told sooner, known later", x.known(0), 10);
    x.go(2);
    due("known(0) at 5", x.known(0), 10);
    x.tell(0, 20, 0);
    due("known(0), a new one", x.known(0), 20);
  }

  private static void worstOfLikeOnes() {
    sentence("Terms 3", "The WORST DIKE is that with the greatest KNOWN SEEP, of like ones the least number");
    riverAndCell(5, 1, 0);
    for (int d = 1; d < 12; d++) x.dike(0, 1, 5, 1, 0);
    due("worst() of nothing", x.worst(), NONE);
    x.tell(11, 0, 0);
    due("worst(), no seep but KNOWN", x.worst(), 11);
    x.tell(7, 0, 0);
    due("worst() of like ones", x.worst(), 7);
    x.tell(9, 1, 0);
    due("worst()", x.worst(), 9);
    x.tell(0, 99, 5);
    due("worst(), not KNOWN yet", x.worst(), 9);
    x.go(5);
    due("worst() at 5", x.worst(), 0);
    x.tell(11, 99, 0);
    due("worst() of like ones", x.worst(), 0);
    x.tell(0, 98, 0);
    due("worst(), the latest counts and not the greatest", x.worst(), 11);
  }

  // ---- Terms 4

  private static void roadsBearSoMany() {
    sentence("Terms 4", "it BEARS so many that set out in an HOUR (1 .. 99), and takes so many HOURS (1 .. 5)");
    for (int hours = 1; hours <= 5; hours += 4) {
      for (int bears = 1; bears <= 99; bears += 98) {
        x = new FloodCells();
        x.cell(1, 0, 500, 0);
        due("road", x.road(0, NONE, bears, hours), 0);
        due("leave, an hour too soon", x.leave(hours - 1), 0);
        due("leave, as the first ones are OUT", x.leave(hours), bears);
        due("leave, an hour later", x.leave(hours + 1), 2 * bears);
        due("leave(100)", x.leave(100), Math.min(500, (101 - hours) * bears));
      }
    }
    for (int n : new int[] {MIN, -1, 0, 100, MAX}) due("road that bears " + n, x.road(0, NONE, n, 1), NONE);
    for (int n : new int[] {MIN, -1, 0, 6, MAX}) due("road that takes " + n, x.road(0, NONE, 1, n), NONE);
  }

  /** The stretch of this desk wets the cell 1 in hour 4, so that it is wet as hour 5 begins and ever after; cell 2 stays dry. */
  private static void wetFromFiveOn() {
    x = new FloodCells();
    x.stretch(10, 0, 0);
    x.cell(10, 0, 0, 0);
    x.cell(10, 900, 0, 0);
    x.dike(0, 1, 0, 1000, 0);
    x.flows(4, 60);
  }

  private static void nobodyWhereItIsWet() {
    sentence("Terms 4", "a CELL that is WET in an HOUR is one where nobody can be as that HOUR begins, nor come to");
    wetFromFiveOn();
    due("wet(1)", x.wet(1), 5);
    x.people(1, 100);
    x.road(1, NONE, 1, 5);
    due("leave(100): hours 0 to 4 are five", x.leave(100), 5);
    due("leave(9), as the last ones are OUT", x.leave(9), 5);
    due("leave(8)", x.leave(8), 4);
    x.go(4);
    due("leave(100) at 4", x.leave(100), 1);
    due("bars(100) at 4", x.bars(100), 1);
    x.go(1);
    due("leave(100) at 5", x.leave(100), 0);
    due("bars(100) at 5: it is no PLACE NOW", x.bars(100), 0);
    due("soonest() at 5", x.soonest(), NONE);
    sentence("Terms 4", "nor come to");
    wetFromFiveOn();
    x.people(2, 100);
    x.road(2, 1, 1, 2);
    x.road(1, NONE, 99, 1);
    due("leave(100): those of hours 0, 1, 2 come as 2, 3, 4 begin", x.leave(100), 3);
    due("leave(5)", x.leave(5), 3);
    due("leave(4)", x.leave(4), 2);
    due("bars(100)", x.bars(100), 3);
    due("bar(100, 2, 1), the last one", x.bar(100, 2, 1), 2);
    x.go(2);
    due("leave(100) at 2", x.leave(100), 1);
    x.go(1);
    due("leave(100) at 3", x.leave(100), 0);
    due("bars(100) at 3: it would end where it is WET", x.bars(100), 0);
  }

  private static void leaveUpToAHundred() {
    sentence("Terms 4", "From NOW on to HOUR t (at most 100)");
    x.cell(1, 0, 9, 0);
    x.road(0, NONE, 2, 1);
    due("leave(0)", x.leave(0), 0);
    due("leave(1)", x.leave(1), 2);
    x.go(99);
    due("leave(98)", x.leave(98), NONE);
    due("leave(99)", x.leave(99), 0);
    due("leave(100)", x.leave(100), 2);
    due("leave(101)", x.leave(101), NONE);
    x.go(1);
    due("leave(99) at 100", x.leave(99), NONE);
    due("leave(100) at 100", x.leave(100), 0);
  }

  private static void barsOfRoadsThatEndInTime() {
    sentence("Terms 4", "ends, as HOUR t begins or ahead of it, OUT");
    x.cell(1, 0, 500, 0);
    x.road(0, NONE, 1, 5);
    x.road(0, NONE, 1, 3);
    int[] due = {0, 0, 0, 1, 2, 4, 6};
    for (int t = 0; t < due.length; t++) {
      due("bars(" + t + ")", x.bars(t), due[t]);
      due("leave(" + t + ")", x.leave(t), due[t]);
    }
    due("bar(5, 0, 0), in an HOUR by ROADS", x.bar(5, 0, 0), 0);
    due("bar(5, 1, 0)", x.bar(5, 1, 0), 1);
    due("bar(5, 1, 1)", x.bar(5, 1, 1), 0);
    due("bar(5, 3, 1)", x.bar(5, 3, 1), 2);
    due("bars(100)", x.bars(100), 194);
    sentence("Terms 4", "ends .. at a PLACE that isn't in it");
    x.cell(1, 0, 5, 0);
    x.cell(1, 0, 0, 0);
    x.road(0, 1, 2, 1);
    x.road(1, 0, 2, 1);
    due("nobody can be OUT: the heap of all costs nothing", x.bars(100), 0);
    due("leave(100)", x.leave(100), 0);
    x.road(1, NONE, 1, 1);
    due("bars(1): those of cell 0 can't be at cell 1 in hour 0", x.bars(1), 0);
    due("bars(2)", x.bars(2), 1);
    due("bar(2, 0, 0)", x.bar(2, 0, 0), 2);
    due("bar(2, 0, 1)", x.bar(2, 0, 1), 1);
    due("bars(3)", x.bars(3), 2);
    due("bars(6): all five", x.bars(6), 0);
  }

  private static void barsOfFewAndMany() {
    sentence("Terms 4", "BARS are .. for the least of the cheapest ones: that which is within all others");
    int[][] peopleBars = {{0, 0}, {5, 0}, {6, 0}, {7, 3}, {500, 3}};
    for (int[] r : peopleBars) {
      x = new FloodCells();
      x.cell(1, 0, r[0], 0);
      x.road(0, NONE, 2, 1);
      due("leave(3) of " + r[0], x.leave(3), Math.min(6, r[0]));
      due("bars(3) of " + r[0], x.bars(3), r[1]);
    }
    sentence("Terms 4", "the least of the cheapest ones (a chain of like roads: the first one bars)");
    for (int c = 0; c < 4; c++) x.cell(1, 0, c == 0 ? 9 : 0, 0);
    for (int c = 0; c < 4; c++) x.road(c, c == 3 ? NONE : c + 1, 3, 1);
    due("leave(4)", x.leave(4), 3);
    due("bars(4)", x.bars(4), 1);
    due("bar(4, 0, 0)", x.bar(4, 0, 0), 0);
    due("bar(4, 0, 1)", x.bar(4, 0, 1), 0);
    due("bars(5)", x.bars(5), 2);
    due("bar(5, 1, 0)", x.bar(5, 1, 0), 0);
    due("bar(5, 1, 1)", x.bar(5, 1, 1), 1);
    due("bars(6): nine are OUT", x.bars(6), 0);
  }

  private static void costsOfPeople() {
    sentence("Terms 4", "It COSTS the PEOPLE of those CELLS that are a PLACE NOW which isn't in it");
    x.cell(1, 0, 50, 0);
    x.cell(1, 0, 3, 0);
    x.road(0, NONE, 2, 1);
    x.road(1, NONE, 2, 1);
    due("leave(1)", x.leave(1), 4);
    due("bars(1)", x.bars(1), 2);
    due("leave(2)", x.leave(2), 7);
    due("bars(2): the second one costs its people", x.bars(2), 2);
    due("bar(2, 1, 0)", x.bar(2, 1, 0), 0);
    due("bar(2, 1, 1)", x.bar(2, 1, 1), 1);
    x.people(1, 4);
    due("bars(2): as many as its roads bear, the lesser heap", x.bars(2), 2);
    x.people(1, 5);
    due("bars(2): one more", x.bars(2), 4);
  }

  // ---- Promises 1 to 14

  private static void newDesk() {
    sentence("Promise 1", "No BODIES; NOW is 0");
    for (int what = 0; what <= 9; what++) due("count(" + what + ")", x.count(what), 0);
    due("told(0, 0)", x.told(0, 0), NONE);
    due("crest(0, 0)", x.crest(0, 0), NONE);
    due("wet(0)", x.wet(0), NONE);
    due("foretold(0, 0)", x.foretold(0, 0), NONE);
    due("known(0)", x.known(0), NONE);
    due("worst()", x.worst(), NONE);
    due("loss()", x.loss(), 0);
    due("best(1)", x.best(1), NONE);
    due("leave(0)", x.leave(0), 0);
    due("leave(100)", x.leave(100), 0);
    due("soonest()", x.soonest(), NONE);
    due("bars(0)", x.bars(0), 0);
    due("bars(100)", x.bars(100), 0);
    due("bar(0, 0, 0)", x.bar(0, 0, 0), NONE);
    due("bar(100, 0, 1)", x.bar(100, 0, 1), NONE);
    due("go(100) of nothing", x.go(100), 100);
  }

  private static void limitsOfBodies() {
    sentence("Promise 2", "NONE if .. PASSES (0 .. 100) can't be");
    for (int n : new int[] {MIN, -1, 101, MAX}) due("stretch that passes " + n, x.stretch(1, 0, n), NONE);
    due("stretch(1, 0, 0)", x.stretch(1, 0, 0), 0);
    due("stretch(1, 0, 100)", x.stretch(1, 0, 100), 1);
    sentence("Promise 3", "NONE if .. PEOPLE (0 .. 500)");
    for (int n : new int[] {MIN, -1, 501, MAX}) due("cell with people " + n, x.cell(1, 0, n, 0), NONE);
    due("cell(1, 0, 0, 0)", x.cell(1, 0, 0, 0), 0);
    due("cell(1, 0, 500, 0)", x.cell(1, 0, 500, 0), 1);
    due("told(1, 5)", x.told(1, 5), 500);
    sentence("Promise 3", "or WORTH (0 .. 1000000) can't be");
    for (int n : new int[] {MIN, -1, 1000001, MAX}) due("cell of worth " + n, x.cell(1, 0, 0, n), NONE);
    due("cell(1, 0, 0, 0)", x.cell(1, 0, 0, 0), 0);
    due("cell(1, 0, 0, 1000000)", x.cell(1, 0, 0, 1000000), 1);
    due("told(1, 6)", x.told(1, 6), 1000000);
  }

  private static void limitsOfDikes() {
    sentence("Promise 4", "NONE if there is no such BODY, both are one");
    due("dike(0, 1, 1, 1, 1) of none", x.dike(0, 1, 1, 1, 1), NONE);
    x.cell(1, 0, 0, 0);
    due("dike(0, 0, 1, 1, 1)", x.dike(0, 0, 1, 1, 1), NONE);
    due("dike(0, 1, 1, 1, 1)", x.dike(0, 1, 1, 1, 1), NONE);
    due("dike(1, 0, 1, 1, 1)", x.dike(1, 0, 1, 1, 1), NONE);
    due("dike(0, -1, 1, 1, 1)", x.dike(0, -1, 1, 1, 1), NONE);
    due("dike(-1, 0, 1, 1, 1)", x.dike(-1, 0, 1, 1, 1), NONE);
    x.stretch(1, 0, 0);
    due("dike(0, 1, 1, 1, 1)", x.dike(0, 1, 1, 1, 1), 0);
    due("dike(1, 0, 1, 1, 1)", x.dike(1, 0, 1, 1, 1), 1);
    sentence("Promise 4", "CREST or WIDTH can't be, bags take no such HOURS to it (0 .. 20)");
    x.cell(1, 0, 0, 0);
    x.cell(1, 0, 0, 0);
    for (int n : new int[] {MIN, -1, 2001, MAX}) due("dike, crest " + n, x.dike(0, 1, n, 1, 0), NONE);
    for (int n : new int[] {MIN, -1, 0, 1001, MAX}) due("dike, width " + n, x.dike(0, 1, 1, n, 0), NONE);
    for (int n : new int[] {MIN, -1, 21, MAX}) due("dike, hours " + n, x.dike(0, 1, 1, 1, n), NONE);
    due("dike(0, 1, 0, 1, 0)", x.dike(0, 1, 0, 1, 0), 0);
    due("dike(0, 1, 2000, 1000, 20)", x.dike(0, 1, 2000, 1000, 20), 1);
    x.pit(2);
    due("send(0, 1)", x.send(0, 1), 0);
    due("send(1, 1)", x.send(1, 1), 20);
    sentence("Promise 4", "or 12 came");
    x.cell(1, 0, 0, 0);
    x.cell(1, 0, 0, 0);
    for (int d = 0; d < 12; d++) due("dike " + d, x.dike(d % 2, 1 - d % 2, d, 1, 0), d);
    due("a thirteenth", x.dike(0, 1, 5, 1, 0), NONE);
    due("crest(11, 0)", x.crest(11, 0), 11);
    due("crest(12, 0)", x.crest(12, 0), NONE);
  }

  private static void limitsOfBreaches() {
    sentence("Promise 5", "A BREACH is told (in place of another one that isn't yet)");
    riverAndCell(50, 1000, 0);
    x.flows(0, 300);
    due("breach(0, 0, 10)", x.breach(0, 0, 10), true);
    due("crest(0, 0)", x.crest(0, 0), 10);
    due("breach(0, 5, 20) in place of it", x.breach(0, 5, 20), true);
    due("crest(0, 0)", x.crest(0, 0), 50);
    due("breach(0, 2, 20) in place of it", x.breach(0, 2, 20), true);
    x.go(2);
    due("told(1, 0)", x.told(1, 0), 0);
    due("crest(0, 0) at 2", x.crest(0, 0), 20);
    due("crest(0, 3) at 2", x.crest(0, 3), 0);
    due("breach(0, 3, 25) at 2 in place of it", x.breach(0, 3, 25), true);
    x.go(1);
    due("told(1, 0) at 3", x.told(1, 0), 0);
    x.go(1);
    due("told(1, 0) at 4", x.told(1, 0), 25);
    due("breach(0, 4, 0), it is breached", x.breach(0, 4, 0), false);
    due("breach(0, 99, 0), it is breached", x.breach(0, 99, 0), false);
    due("crest(0, 0)", x.crest(0, 0), 25);
    sentence("Promise 5", "False if .. the HOUR is below NOW or above 99");
    riverAndCell(50, 1, 0);
    due("breach(0, -1, 5)", x.breach(0, -1, 5), false);
    due("breach(0, 100, 5)", x.breach(0, 100, 5), false);
    due("breach(0, 99, 5)", x.breach(0, 99, 5), true);
    x.go(50);
    due("breach(0, 49, 5)", x.breach(0, 49, 5), false);
    due("breach(0, 50, 5)", x.breach(0, 50, 5), true);
    x.dike(0, 1, 50, 1, 0);
    x.go(49);
    due("breach(1, 99, 5) at 99", x.breach(1, 99, 5), true);
    x.go(1);
    due("crest(1, 3) at 100", x.crest(1, 3), 1);
    due("breach(1, 99, 5) at 100", x.breach(1, 99, 5), false);
    due("breach(1, 100, 5) at 100", x.breach(1, 100, 5), false);
    sentence("Promise 5", "the SILL isn't 0 .. CREST");
    riverAndCell(50, 1, 0);
    for (int n : new int[] {MIN, -1, 51, MAX}) due("breach, sill " + n, x.breach(0, 1, n), false);
    due("breach(0, 1, 50)", x.breach(0, 1, 50), true);
    due("breach(0, 1, 0)", x.breach(0, 1, 0), true);
    x.pit(100);
    x.send(0, 100);
    x.go(1);
    due("breach(0, 1, 51): bags don't count", x.breach(0, 1, 51), false);
    x.dike(0, 1, 0, 1, 0);
    due("breach(1, 1, 0) of crest 0", x.breach(1, 1, 0), true);
    due("breach(1, 1, 1) of crest 0", x.breach(1, 1, 1), false);
  }

  private static void limitsOfFlows() {
    sentence("Promise 6", "What FLOWS in an HOUR (0 .. 1000000)");
    x.stretch(1, 0, 0);
    for (int n : new int[] {MIN, -1, 1000001, MAX}) due("flows(0, " + n + ")", x.flows(0, n), false);
    due("flows(0, 1000000)", x.flows(0, 1000000), true);
    due("flows(1, 7)", x.flows(1, 7), true);
    due("flows(1, 0) in place of it", x.flows(1, 0), true);
    x.go(2);
    due("count(9)", x.count(9), 1000000);
    sentence("Promise 6", "false if it is below NOW or above 99");
    x.stretch(1, 0, 0);
    for (int n : new int[] {MIN, -1, 100, MAX}) due("flows(" + n + ", 1)", x.flows(n, 1), false);
    x.go(7);
    due("flows(6, 1)", x.flows(6, 1), false);
    due("flows(7, 1)", x.flows(7, 1), true);
    due("flows(99, 1)", x.flows(99, 1), true);
    x.go(100);
    due("count(9)", x.count(9), 2);
    due("flows(99, 1) at 100", x.flows(99, 1), false);
    due("flows(100, 1) at 100", x.flows(100, 1), false);
  }

  private static void limitsOfThePit() {
    sentence("Promise 7", "BAGS come to the pit (1 .. 10000 ..)");
    for (int n : new int[] {MIN, -1, 0, 10001, MAX}) due("pit(" + n + ")", x.pit(n), NONE);
    due("pit(1)", x.pit(1), 1);
    due("pit(10000)", x.pit(10000), 10001);
    sentence("Promise 7", "100000 there at most");
    riverAndCell(5, 1, 0);
    for (int i = 1; i <= 9; i++) x.pit(10000);
    due("pit(9999)", x.pit(9999), 99999);
    due("pit(2)", x.pit(2), NONE);
    due("pit(1)", x.pit(1), 100000);
    due("pit(1), full", x.pit(1), NONE);
    due("send(0, 1)", x.send(0, 1), 0);
    due("pit(2)", x.pit(2), NONE);
    due("pit(1): those under way aren't there", x.pit(1), 100000);
    due("send(0, 100000)", x.send(0, 100000), 0);
    due("pit(10000), empty again", x.pit(10000), 10000);
    x.go(1);
    due("crest(0, 1)", x.crest(0, 1), 100001);
    due("crest(0, 0)", x.crest(0, 0), 10005);
  }

  private static void limitsOfSending() {
    sentence("Promise 8", "NONE if .. n is below 1 or more than in the pit");
    riverAndCell(5, 1, 0);
    due("send(0, 1), empty", x.send(0, 1), NONE);
    x.pit(10);
    for (int n : new int[] {MIN, -1, 0, 11, MAX}) due("send(0, " + n + ")", x.send(0, n), NONE);
    due("count(4)", x.count(4), 10);
    due("send(0, 1)", x.send(0, 1), 0);
    due("send(0, 10)", x.send(0, 10), NONE);
    due("send(0, 9)", x.send(0, 9), 0);
    due("count(4)", x.count(4), 0);
    due("crest(0, 2): both are under way", x.crest(0, 2), 10);
    sentence("Promise 8", "or it would be behind HOUR 99");
    riverAndCell(5, 1, 20);
    x.dike(0, 1, 5, 1, 0);
    x.dike(0, 1, 5, 1, 1);
    x.pit(10);
    x.go(79);
    due("send(0, 1) at 79", x.send(0, 1), 99);
    x.go(1);
    due("send(0, 1) at 80", x.send(0, 1), NONE);
    x.go(18);
    due("send(2, 1) at 98", x.send(2, 1), 99);
    x.go(1);
    due("send(2, 1) at 99", x.send(2, 1), NONE);
    due("send(1, 1) at 99", x.send(1, 1), 99);
    due("count(5)", x.count(5), 3);
    x.go(1);
    due("count(5) at 100", x.count(5), 0);
    due("count(6) at 100", x.count(6), 3);
    due("send(1, 1) at 100", x.send(1, 1), NONE);
    due("count(4)", x.count(4), 7);
    sentence("Promise 8", "NONE if there is no such DIKE");
    x.pit(10);
    due("send(0, 1) without dikes", x.send(0, 1), NONE);
    due("count(4)", x.count(4), 10);
    sentence("Promise 8", "BAGS are sent to a DIKE (to a breached one, too)");
    riverAndCell(5, 1, 3);
    x.pit(10);
    x.breach(0, 0, 0);
    x.go(1);
    due("send(0, 10)", x.send(0, 10), 4);
    due("crest(0, 2)", x.crest(0, 2), 10);
    x.go(4);
    due("count(7)", x.count(7), 10);
  }

  private static void limitsOfTelling() {
    sentence("Promise 9", "false if there is no such DIKE, SEEP or HOURS");
    due("tell(0, 1, 1) without dikes", x.tell(0, 1, 1), false);
    riverAndCell(5, 1, 0);
    for (int n : new int[] {MIN, -1, 1, MAX}) due("tell(" + n + ", 1, 1)", x.tell(n, 1, 1), false);
    for (int n : new int[] {MIN, -1, 100, MAX}) due("tell(0, " + n + ", 0)", x.tell(0, n, 0), false);
    for (int n : new int[] {MIN, -1, 21, MAX}) due("tell(0, 1, " + n + ")", x.tell(0, 1, n), false);
    due("known(0)", x.known(0), NONE);
    due("tell(0, 0, 0)", x.tell(0, 0, 0), true);
    due("known(0)", x.known(0), 0);
    due("tell(0, 99, 20)", x.tell(0, 99, 20), true);
    sentence("Promise 9", "or 100 were told");
    riverAndCell(5, 1, 0);
    x.dike(0, 1, 5, 1, 0);
    for (int i = 0; i < 50; i++) due("tell refused", x.tell(0, 100, 0), false);
    due("the first", x.tell(1, 44, 0), true);
    for (int i = 1; i < 99; i++) due("tell " + i, x.tell(0, i, 0), true);
    due("the hundredth", x.tell(0, 55, 0), true);
    due("one more", x.tell(0, 66, 0), false);
    due("one more of the other", x.tell(1, 66, 0), false);
    due("known(0)", x.known(0), 55);
    due("known(1), the first told", x.known(1), 44);
    x.go(50);
    due("one more, later", x.tell(0, 66, 0), false);
  }

  private static void limitsOfKnowing() {
    sentence("Promise 10", "NONE if there is none, or no such DIKE");
    due("known(0) without dikes", x.known(0), NONE);
    riverAndCell(5, 1, 0);
    due("known(0)", x.known(0), NONE);
    for (int n : new int[] {MIN, -1, 1, 12, MAX}) due("known(" + n + ")", x.known(n), NONE);
    sentence("Promise 11", "NONE if nothing is KNOWN");
    due("worst() without dikes", x.worst(), NONE);
    riverAndCell(5, 1, 0);
    due("worst()", x.worst(), NONE);
    x.tell(0, 99, 1);
    due("worst(), told but not KNOWN", x.worst(), NONE);
    x.go(1);
    due("worst()", x.worst(), 0);
  }

  private static void limitsOfRoads() {
    sentence("Promise 12", "NONE if there is no such CELL (to NONE: OUT), both are one");
    due("road(0, NONE, 1, 1) of none", x.road(0, NONE, 1, 1), NONE);
    x.cell(1, 0, 5, 0);
    x.stretch(1, 0, 0);
    for (int n : new int[] {MIN, -1, 1, 2, MAX}) due("road from " + n, x.road(n, NONE, 1, 1), NONE);
    for (int n : new int[] {MIN, -2, 0, 1, 2, MAX}) due("road to " + n, x.road(0, n, 1, 1), NONE);
    due("road(0, NONE, 1, 1)", x.road(0, NONE, 1, 1), 0);
    x.cell(1, 0, 5, 0);
    due("road(0, 2, 1, 1)", x.road(0, 2, 1, 1), 1);
    due("road(2, 0, 1, 1)", x.road(2, 0, 1, 1), 2);
    sentence("Promise 12", "it can't BEAR so many or take so long");
    x.cell(1, 0, 5, 0);
    for (int n : new int[] {MIN, 0, 100, MAX}) due("road that bears " + n, x.road(0, NONE, n, 1), NONE);
    for (int n : new int[] {MIN, 0, 6, MAX}) due("road that takes " + n, x.road(0, NONE, 1, n), NONE);
    due("road(0, NONE, 1, 1)", x.road(0, NONE, 1, 1), 0);
    due("road(0, NONE, 99, 5)", x.road(0, NONE, 99, 5), 1);
    sentence("Promise 12", "or 12 came");
    x.cell(1, 0, 500, 0);
    x.cell(1, 0, 0, 0);
    for (int r = 0; r < 12; r++) due("road " + r, x.road(0, NONE, 1, 1), r);
    due("a thirteenth", x.road(0, NONE, 1, 1), NONE);
    due("a thirteenth, to a cell", x.road(0, 1, 1, 1), NONE);
    due("leave(1)", x.leave(1), 12);
    due("bars(1)", x.bars(1), 12);
    due("bar(1, 11, 0)", x.bar(1, 11, 0), 11);
    due("bar(1, 12, 0)", x.bar(1, 12, 0), NONE);
  }

  private static void limitsOfGoing() {
    sentence("Promise 13", "n HOURS pass (0 .. 100; up to 100): NOW .. NONE for another n");
    x.stretch(1, 0, 0);
    x.flows(0, 1);
    for (int n : new int[] {MIN, -1, 101, MAX}) due("go(" + n + ")", x.go(n), NONE);
    due("go(0)", x.go(0), 0);
    due("count(9): no hour passed", x.count(9), 0);
    due("go(1)", x.go(1), 1);
    due("go(98)", x.go(98), 99);
    due("go(2), no further than 100", x.go(2), 100);
    due("go(100)", x.go(100), 100);
    due("go(0)", x.go(0), 100);
    due("go(101)", x.go(101), NONE);
    sentence("Promise 13", "(PEOPLE stay where they are.)");
    wetFromFiveOn();
    x.people(1, 40);
    x.road(1, NONE, 99, 1);
    x.go(50);
    due("told(1, 5), wet and all", x.told(1, 5), 40);
    due("told(1, 7)", x.told(1, 7), 1);
    sentence("Promise 13", "n HOURS pass (100 at once are 100 one by one)");
    x.stretch(7, 0, 37);
    x.cell(3, 1, 0, 0);
    x.dike(0, 1, 2, 3, 0);
    for (int h = 0; h < 100; h += 7) x.flows(h, 50 + h);
    int due = x.foretold(1, 100);
    FloodCells steps = new FloodCells();
    steps.stretch(7, 0, 37);
    steps.cell(3, 1, 0, 0);
    steps.dike(0, 1, 2, 3, 0);
    for (int h = 0; h < 100; h += 7) steps.flows(h, 50 + h);
    for (int h = 0; h < 100; h++) steps.go(1);
    x.go(100);
    due("told(1, 0) at once", x.told(1, 0), due);
    due("told(1, 0) by steps", steps.told(1, 0), due);
    due("count(8)", x.count(8), steps.count(8));
  }

  private static void limitsOfPeople() {
    sentence("Promise 14", "so many are there (0 .. 500)");
    x.cell(1, 0, 7, 0);
    x.stretch(1, 0, 0);
    x.road(0, NONE, 99, 1);
    for (int n : new int[] {MIN, -1, 501, MAX}) due("people(0, " + n + ")", x.people(0, n), false);
    due("told(0, 5)", x.told(0, 5), 7);
    due("people(0, 500)", x.people(0, 500), true);
    due("leave(100)", x.leave(100), 500);
    due("people(0, 0)", x.people(0, 0), true);
    due("leave(100)", x.leave(100), 0);
    due("told(0, 5)", x.told(0, 5), 0);
    sentence("Promise 14", "false if there is none such");
    due("people(0, 0) of none", x.people(0, 0), false);
    x.stretch(1, 0, 0);
    for (int n : new int[] {MIN, -1, 0, 1, MAX}) due("people(" + n + ", 1)", x.people(n, 1), false);
    x.cell(1, 0, 0, 0);
    due("people(1, 1)", x.people(1, 1), true);
    x.go(100);
    due("people(1, 2) at 100", x.people(1, 2), true);
    due("told(1, 5)", x.told(1, 5), 2);
  }

  // ---- Promises 15 to 25

  private static void limitsOfTold() {
    sentence("Promise 15", "4 what it PASSES (NONE of a CELL), 5 PEOPLE, 6 WORTH (both NONE of a STRETCH), 7 whether it is WET (0 of a STRETCH)");
    x.stretch(1, 2, 0);
    x.cell(3, 4, 0, 0);
    x.flows(0, 9);
    x.go(1);
    int[][] due = {{9, 11, 1, 2, 0, NONE, NONE, 0}, {0, 4, 3, 4, NONE, 0, 0, 0}};
    for (int b = 0; b < 2; b++) for (int w = 0; w < 8; w++) due("told(" + b + ", " + w + ")", x.told(b, w), due[b][w]);
    sentence("Promise 15", "NONE for others, or no such BODY");
    x.cell(1, 0, 0, 0);
    for (int n : new int[] {MIN, -1, 8, MAX}) due("told(0, " + n + ")", x.told(0, n), NONE);
    for (int n : new int[] {MIN, -1, 1, 10, MAX}) due("told(" + n + ", 0)", x.told(n, 0), NONE);
  }

  private static void limitsOfCrest() {
    sentence("Promise 16", "3 whether it is breached (its HOUR was)");
    riverAndCell(5, 1, 0);
    due("not told", x.crest(0, 3), 0);
    x.breach(0, 1, 5);
    due("told", x.crest(0, 3), 0);
    x.go(1);
    due("its HOUR is", x.crest(0, 3), 0);
    x.go(1);
    due("its HOUR was", x.crest(0, 3), 1);
    x.dike(0, 1, 5, 1, 0);
    x.breach(1, 2, 0);
    due("its HOUR is NOW", x.crest(1, 3), 0);
    x.go(100);
    due("at 100", x.crest(1, 3), 1);
    sentence("Promise 16", "1 BAGS on it, 2 BAGS under way to it");
    riverAndCell(5, 1, 20);
    x.pit(100);
    x.send(0, 1);
    x.go(1);
    x.send(0, 20);
    x.go(19);
    due("under way at 20", x.crest(0, 2), 21);
    due("on it at 20", x.crest(0, 1), 0);
    x.go(1);
    due("under way at 21", x.crest(0, 2), 20);
    due("on it at 21", x.crest(0, 1), 1);
    x.go(1);
    due("under way at 22", x.crest(0, 2), 0);
    due("on it at 22", x.crest(0, 1), 21);
    sentence("Promise 16", "NONE for others, or no such DIKE");
    due("crest(0, 0) without dikes", x.crest(0, 0), NONE);
    riverAndCell(5, 1, 0);
    for (int n : new int[] {MIN, -1, 4, MAX}) due("crest(0, " + n + ")", x.crest(0, n), NONE);
    for (int n : new int[] {MIN, -1, 1, 12, MAX}) due("crest(" + n + ", 0)", x.crest(n, 0), NONE);
  }

  private static void limitsOfWet() {
    sentence("Promise 17", "The first HOUR, from NOW on, in which a CELL is WET (FORETOLD; 100 as it begins)");
    riverAndCell(0, 1000, 0);
    x.flows(98, 30);
    due("wet(1)", x.wet(1), 99);
    x.go(99);
    due("wet(1) at 99", x.wet(1), 99);
    x.go(1);
    due("wet(1) at 100", x.wet(1), 100);
    riverAndCell(0, 1000, 0);
    x.flows(99, 30);
    due("wet(1) as 100 begins", x.wet(1), 100);
    sentence("Promise 17", "NONE if there is none, or no such CELL");
    due("wet(0) of none", x.wet(0), NONE);
    riverAndCell(0, 1000, 0);
    x.flows(99, 19);
    due("wet(1), too little", x.wet(1), NONE);
    due("wet(0), a stretch", x.wet(0), NONE);
    for (int n : new int[] {MIN, -1, 2, 10, MAX}) due("wet(" + n + ")", x.wet(n), NONE);
  }

  private static void wetTwice() {
    sentence("Promise 17", "The first HOUR, from NOW on (a second time)");
    x.stretch(10, 0, 50);
    x.cell(10, 0, 0, 4);
    x.dike(0, 1, 0, 1000, 0);
    x.flows(0, 80);
    x.flows(50, 80);
    due("wet(1)", x.wet(1), 1);
    int dry = 1;
    while (dry < 50 && x.foretold(1, dry) >= 10) dry++;
    due("it is dry between", dry < 50, true);
    x.go(dry - 1);
    due("wet(1) in its last hour", x.wet(1), dry - 1);
    x.go(1);
    due("wet(1), the second time", x.wet(1), 51);
    due("loss()", x.loss(), 4);
  }

  private static void limitsOfForetold() {
    sentence("Promise 18", "FORETOLD WATER of a BODY as an HOUR (NOW .. 100) begins; NONE if there is none such");
    riverAndCell(0, 1000, 0);
    x.flows(5, 40);
    for (int n : new int[] {MIN, -1, 101, MAX}) due("foretold(0, " + n + ")", x.foretold(0, n), NONE);
    for (int n : new int[] {MIN, -1, 2, 10, MAX}) due("foretold(" + n + ", 5)", x.foretold(n, 5), NONE);
    due("foretold(0, 0)", x.foretold(0, 0), 0);
    due("foretold(1, 5)", x.foretold(1, 5), 0);
    due("foretold(1, 6)", x.foretold(1, 6), 20);
    due("foretold(1, 100)", x.foretold(1, 100), 20);
    x.go(6);
    due("foretold(1, 5) at 6", x.foretold(1, 5), NONE);
    due("foretold(1, 6) at 6", x.foretold(1, 6), 20);
    x.go(100);
    due("foretold(1, 99) at 100", x.foretold(1, 99), NONE);
    due("foretold(1, 100) at 100", x.foretold(1, 100), 20);
    due("foretold(1, 101) at 100", x.foretold(1, 101), NONE);
  }

  private static void limitsOfBest() {
    sentence("Promise 20", "NONE if there is no DIKE to which they can be sent");
    x.pit(10);
    due("best(1) without dikes", x.best(1), NONE);
    riverAndCell(5, 1, 1);
    due("best(1), empty pit", x.best(1), NONE);
    x.pit(10);
    for (int n : new int[] {MIN, -1, 0, 11, MAX}) due("best(" + n + ")", x.best(n), NONE);
    due("best(1)", x.best(1), 0);
    due("best(10)", x.best(10), 0);
    x.go(98);
    due("best(10) at 98", x.best(10), 0);
    x.go(1);
    due("best(10) at 99", x.best(10), NONE);
    x.dike(0, 1, 5, 1, 0);
    due("best(10) at 99, the second one", x.best(10), 1);
    x.go(1);
    due("best(10) at 100", x.best(10), NONE);
    sentence("Promise 20", "BEST for n BAGS (asking sends none)");
    riverAndCell(5, 1000, 0);
    x.flows(0, 80);
    x.pit(100);
    due("best(30)", x.best(30), 0);
    due("count(4)", x.count(4), 100);
    due("count(5)", x.count(5), 0);
    due("crest(0, 2)", x.crest(0, 2), 0);
    due("foretold(1, 1)", x.foretold(1, 1), 15);
    due("loss()", x.loss(), 1);
  }

  private static void limitsOfLeaving() {
    sentence("Promise 21", "LEAVE by an HOUR (NOW .. 100); NONE for another one");
    x.cell(1, 0, 4, 0);
    x.road(0, NONE, 3, 1);
    for (int n : new int[] {MIN, -1, 101, MAX}) due("leave(" + n + ")", x.leave(n), NONE);
    due("leave(0)", x.leave(0), 0);
    due("leave(100)", x.leave(100), 4);
    x.go(1);
    due("leave(0) at 1", x.leave(0), NONE);
    due("leave(1) at 1", x.leave(1), 0);
    due("leave(2) at 1", x.leave(2), 3);
    sentence("Promise 22", "The first HOUR by which as many have left as by 100; NONE if none can");
    due("soonest() without cells", x.soonest(), NONE);
    x.cell(1, 0, 1, 0);
    due("soonest() without roads", x.soonest(), NONE);
    x.cell(1, 0, 0, 0);
    x.road(0, 1, 9, 1);
    due("soonest() without a road OUT", x.soonest(), NONE);
    x.road(1, NONE, 9, 4);
    due("soonest() of one", x.soonest(), 5);
    x.go(94);
    due("soonest() at 94", x.soonest(), 99);
    x.go(1);
    due("soonest() at 95", x.soonest(), 100);
    x.go(1);
    due("soonest() at 96", x.soonest(), NONE);
    x.people(0, 0);
    x.people(1, 1);
    due("soonest() at 96 from cell 1", x.soonest(), 100);
    x.people(1, 0);
    due("soonest() of nobody", x.soonest(), NONE);
  }

  private static void limitsOfBars() {
    sentence("Promise 23", "How many BARS there are for an HOUR (NOW .. 100); NONE for another one");
    x.cell(1, 0, 500, 0);
    x.road(0, NONE, 1, 1);
    for (int n : new int[] {MIN, -1, 101, MAX}) due("bars(" + n + ")", x.bars(n), NONE);
    due("bars(0)", x.bars(0), 0);
    due("bars(1)", x.bars(1), 1);
    due("bars(100)", x.bars(100), 100);
    due("bars(50), sooner again", x.bars(50), 50);
    x.go(30);
    due("bars(29) at 30", x.bars(29), NONE);
    due("bars(30) at 30", x.bars(30), 0);
    due("bars(100) at 30", x.bars(100), 70);
    sentence("Promise 24", "Of BAR i (from 0 on, by HOURS, in an HOUR by ROADS)");
    x.cell(1, 0, 500, 0);
    for (int r = 0; r < 3; r++) x.road(0, NONE, 1, 3 - r);
    int[][] due = {{0, 0}, {1, 0}, {2, 0}, {1, 1}, {2, 1}, {2, 2}};
    for (int i = 0; i < 6; i++) for (int w = 0; w < 2; w++) due("bar(3, " + i + ", " + w + ")", x.bar(3, i, w), due[i][w]);
    sentence("Promise 24", "NONE for others, or if there is none such");
    x.cell(1, 0, 500, 0);
    for (int r = 0; r < 12; r++) x.road(0, NONE, 1, 1);
    for (int n : new int[] {MIN, -1, 2, MAX}) due("bar(3, 0, " + n + ")", x.bar(3, 0, n), NONE);
    for (int n : new int[] {MIN, -1, 36, MAX}) due("bar(3, " + n + ", 0)", x.bar(3, n, 0), NONE);
    for (int n : new int[] {MIN, -1, 0, 101, MAX}) due("bar(" + n + ", 0, 0)", x.bar(n, 0, 0), NONE);
    due("bar(3, 35, 0)", x.bar(3, 35, 0), 11);
    due("bar(3, 35, 1)", x.bar(3, 35, 1), 2);
    due("bar(4, 36, 1): one HOUR more, 12 more", x.bar(4, 36, 1), 3);
    x.go(100);
    due("bar(100, 0, 0) at 100", x.bar(100, 0, 0), NONE);
  }

  private static void mostBars() {
    sentence("Promise 23", "How many BARS there are (the most there can be)");
    for (int c = 0; c < 10; c++) x.cell(1, 0, 500, 0);
    for (int r = 0; r < 12; r++) x.road(r % 10, NONE, 1, 1);
    due("leave(100)", x.leave(100), 1200);
    due("bars(100)", x.bars(100), 1200);
    due("bar(100, 1199, 0)", x.bar(100, 1199, 0), 11);
    due("bar(100, 1199, 1)", x.bar(100, 1199, 1), 99);
    due("bar(100, 1200, 0)", x.bar(100, 1200, 0), NONE);
    due("soonest()", x.soonest(), 100);
  }

  private static void limitsOfCounting() {
    sentence("Promise 25", "NONE for others");
    for (int n : new int[] {MIN, -1, 10, MAX}) due("count(" + n + ")", x.count(n), NONE);
    sentence("Promise 25", "4 BAGS in the pit, 5 under way, 6 on DIKES, 7 WASHED (none gets lost)");
    riverAndCell(5, 1, 1);
    x.dike(0, 1, 5, 1, 3);
    x.pit(1000);
    x.send(0, 100);
    x.send(1, 200);
    x.breach(0, 4, 0);
    int[][] due = {{700, 300, 0, 0}, {700, 300, 0, 0}, {700, 200, 100, 0}, {700, 200, 100, 0}, {700, 0, 300, 0}, {700, 0, 200, 100}};
    for (int h = 0; h < due.length; h++) {
      for (int w = 0; w < 4; w++) due("count(" + (4 + w) + ") at " + h, x.count(4 + w), due[h][w]);
      x.go(1);
    }
  }

  private static void theLastCall() {
    sentence("What it is", "An object is used for at most 512 calls after it has been made");
    x.cell(1, 0, 0, 0);
    x.cell(1, 0, 300, 0);
    x.road(0, 1, 2, 1);
    x.road(1, NONE, 3, 1);
    for (int i = 0; i < 126; i++) {
      x.people(0, i);
      x.people(1, 300 - i);
      x.bars(100 - i % 50);
      x.leave(50 + i % 50);
    }
    due("the 509th call", x.bars(90), 90);
    due("the 510th call", x.soonest(), 100);
    due("the 511th call", x.leave(100), 300);
    due("the 512th call", x.leave(90), 270);
  }

  public static void main(String[] args) {
    theLastCall();
    hours();
    atMostTenBodies();
    areaAndFloor();
    levelIsCut();
    stretchesInOrder();
    passesAPart();
    topByBags();
    topOfABreach();
    lostWithoutAStretch();
    fromTheLastOneUp();
    muchPasses();
    bagsOfThisHourHold();
    bagsThatComeToABreach();
    bagsOfOtherDikesStay();
    whatGoesOver();
    noMoreThanItsWater();
    overOneAfterAnother();
    theLastDikeCounts();
    wetAtItsArea();
    foretoldAnew();
    aStretchBelowIsForetold();
    lossesOfHours();
    bestOfLikeOnes();
    knownSomeHoursLater();
    worstOfLikeOnes();
    roadsBearSoMany();
    nobodyWhereItIsWet();
    leaveUpToAHundred();
    barsOfRoadsThatEndInTime();
    barsOfFewAndMany();
    costsOfPeople();
    newDesk();
    limitsOfBodies();
    limitsOfDikes();
    limitsOfBreaches();
    limitsOfFlows();
    limitsOfThePit();
    limitsOfSending();
    limitsOfTelling();
    limitsOfKnowing();
    limitsOfRoads();
    limitsOfGoing();
    limitsOfPeople();
    limitsOfTold();
    limitsOfCrest();
    limitsOfWet();
    wetTwice();
    limitsOfForetold();
    limitsOfBest();
    limitsOfLeaving();
    limitsOfBars();
    mostBars();
    limitsOfCounting();
    System.out.println(sentences + " sentences, " + asked + " answers looked at, " + wrong + " wrong");
    if (wrong != 0) System.exit(1);
  }
}

/** What a desk answers when it is asked of all it holds, as one text; so few calls that a desk may be asked within its 512. */
public final class Answers {
  private Answers() { }

  /** Some 230 calls. */
  public static String all(FloodCells x) {
    StringBuilder s = new StringBuilder(few(x));
    int now = x.count(0);
    for (int b = 0; b < x.count(1); b++) {
      for (int what = 1; what <= 7; what++) s.append(x.told(b, what)).append(' ');
      s.append(x.foretold(b, Math.min(100, now + 1))).append(' ').append(x.foretold(b, 100)).append(' ').append(x.wet(b)).append('\n');
    }
    for (int d = 0; d < x.count(2); d++) {
      for (int what = 0; what <= 3; what++) s.append(x.crest(d, what)).append(' ');
      s.append(x.known(d)).append('\n');
    }
    for (int n = 1; n <= 1000; n *= 10) s.append(x.best(n)).append(' ');
    s.append(x.bars(Math.min(100, now + 6))).append(' ').append(x.bar(Math.min(100, now + 6), 1, 0)).append(' ');
    return s.append(x.worst()).append(' ').append(x.loss()).append(' ').append(x.soonest()).append('\n').toString();
  }

  /** Some 30 calls. */
  public static String few(FloodCells x) {
    StringBuilder s = new StringBuilder();
    for (int what = 0; what <= 9; what++) s.append(x.count(what)).append(' ');
    for (int b = 0; b < x.count(1); b++) s.append(x.told(b, 0)).append(' ');
    return s.append(x.leave(Math.min(100, x.count(0) + 6))).append(' ').append(x.leave(100)).append('\n').toString();
  }
}

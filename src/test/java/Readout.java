import java.util.ArrayList;
import java.util.List;

/** All that an object answers of itself, to compare it with a twin; the object is used up by it. */
final class Readout {
  private static final int[] LEAST_SETTING = {1, 1, 0, 0, 0, 1, 0, 0, 0};

  private Readout() {
  }

  /** What is judged (0 or 1) can be asked only once of a row, so it is told which. */
  static List<Integer> of(PushedUp x, int judged) {
    List<Integer> all = new ArrayList<>();
    hill(all, x);
    all.add(x.judge(judged));
    all.add(x.on());
    hill(all, x);
    all.add(x.line());
    hill(all, x);
    return all;
  }

  private static void hill(List<Integer> all, PushedUp x) {
    for (int what = 0; what <= 7; what++) {
      all.add(x.count(what));
    }
    for (int piece = 0; piece < 5; piece++) {
      all.add(x.piece(piece, 0));
      all.add(x.piece(piece, 1));
    }
    for (int train = 0; train < 8; train++) {
      all.add(x.train(train, 0));
      all.add(x.train(train, 1));
      all.add(x.began(train));
    }
    int[] set = new int[LEAST_SETTING.length];
    for (int what = 0; what < set.length; what++) {
      set[what] = x.set(what, LEAST_SETTING[what]);
      all.add(set[what]);
    }
    for (int what = 0; what < set.length; what++) {
      x.set(what, set[what]);
    }
    // By rule 3 the day tells which trains the order holds.
    x.set(7, 3);
    for (int train = 0; train < 8; train++) {
      all.add(x.began(train));
    }
    x.set(7, set[7]);
  }
}

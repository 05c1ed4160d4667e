/** Promises 16 to 18, 20 and 22: what is found by trying, with answers found by hand. */
public final class SearchTest {
  public static void main(String[] args) {
    best();
    bestOfSeveral();
    bestRefused();
    fewest();
    which();
    chance();
    yard();
    nothingChanges();
    Check.end("SearchTest");
  }

  private static void best() {
    PushedUp x = Check.with("p5s;e1;t0,700;t0,100;t0,100;");
    // The divided one holds the line till 25, so it goes last: 0, 5 and 10 minutes.
    Check.same("16: least", x.best(-1), 15);
    Check.same("16: its first", x.best(0), 1);
    Check.same("16: its second", x.best(1), 2);
    Check.same("16: its third", x.best(2), 0);
    Check.same("16: none such", x.best(3), -9);
    Check.same("16: none such", x.best(Integer.MAX_VALUE), -9);
    // First goes the divided one, its engine comes down from 25 to 30, then the others.
    Check.same("16: by the rule", x.allWaited(), 30 + 35);
    x.set(7, 3);
    x.order(3, 21);
    Check.same("16: as told", x.allWaited(), 15);
    Check.same("16: whatever is told", x.best(2), 0);
  }

  private static void bestOfSeveral() {
    PushedUp x = Check.with("p1d;t0,1;t0,1;t0,1;t0,1;t0,999;");
    x.set(1, 400);
    Check.same("16: all alike", x.best(-1), 5 + 10 + 15);
    for (int i = 0; i < 5; i++) {
      Check.same("16: the first by numbers", x.best(i), i);
    }
    Check.same("16: none such", x.best(5), -9);
    x = new PushedUp();
    Check.same("16: of no trains", x.best(-1), 0);
    Check.same("16: none such", x.best(0), -9);
  }

  private static void bestRefused() {
    PushedUp x = Check.with("t0,1;t0,1;t0,1;t0,1;t0,1;t0,1;");
    Check.same("16: six trains", x.best(-1), -6);
    Check.same("16: six trains", x.best(9), -6);
    Check.same("16: below is told first", x.best(-2), -4);
    Check.same("16: below", x.best(Integer.MIN_VALUE), -4);
    Check.refused(x, -6, 2);
    Check.refused(x, -4, 2);
  }

  private static void fewest() {
    PushedUp x = Check.with("p5s;e0;t0,500;t0,500;");
    // With none 2880; with one 15, for the engine is back at 15; with two 5, by headway.
    Check.same("17: fewest(4)", x.fewest(4), -9);
    Check.same("17: fewest(0)", x.fewest(0), -9);
    Check.same("17: fewest(5)", x.fewest(5), 2);
    Check.same("17: fewest(14)", x.fewest(14), 2);
    Check.same("17: fewest(15)", x.fewest(15), 1);
    Check.same("17: fewest(2879)", x.fewest(2879), 1);
    Check.same("17: fewest(2880)", x.fewest(2880), 0);
    Check.same("17: fewest(MAX)", x.fewest(Integer.MAX_VALUE), 0);
    Check.same("17: fewest(-1)", x.fewest(-1), -4);
    Check.same("17: fewest(MIN)", x.fewest(Integer.MIN_VALUE), -4);
    Check.refused(x, -4, 2);
    x = Check.with("p1s;t0,500;t0,500;t0,500;t0,500;t0,500;");
    x.set(3, 20);
    x.set(4, 20);
    x.set(5, 1);
    // Four are up at 41 to 44 and come down at 44 to 47; the fifth train begins at 48.
    Check.same("17: four at most", x.fewest(0 + 1 + 2 + 3 + 47), -9);
    Check.same("17: four", x.fewest(0 + 1 + 2 + 3 + 48), 4);
    Check.same("17: not yet three", x.fewest(0 + 1 + 2 + 46 + 46), 4);
    Check.same("17: three", x.fewest(0 + 1 + 2 + 46 + 47), 3);
  }

  private static void which() {
    PushedUp x = Check.with("p5s;e1;t0,500;t1,500;t9,100;");
    Check.same("18: the only one", x.which(), 0);
    x.makeDouble(0, true);
    Check.same("18: none is single", x.which(), -9);
    x = Check.with("p2d;p3s;e1;t0,500;t1,500;t9,100;");
    Check.same("18: the single one", x.which(), 1);
    x.makeDouble(0, false);
    Check.same("18: one is not enough", x.which(), -9);
    x = Check.with("p5s;e1;t0,500;t1,500;");
    Check.same("18: no less than now", x.which(), -9);
    Check.same("18: of no pieces", new PushedUp().which(), -9);
  }

  private static void chance() {
    PushedUp x = Check.with("p5s;e1;t0,300;t5,100;");
    // Dry both go alone. Wet the first takes the engine up, and that comes down at 15, at 10
    // nothing may come down; the second goes at 5 as well.
    Check.same("20: no waiting", x.chance(50), 0);
    x = Check.with("p5s;e1;t0,300;t5,300;");
    // Wet the second waits for the engine, which is at the foot again at 15.
    Check.same("20: chance(0)", x.chance(0), 0);
    Check.same("20: chance(1)", x.chance(1), 10);
    Check.same("20: chance(100)", x.chance(100), 1000);
    x.set(6, 1);
    Check.same("20: on a wet rail, too", x.chance(1), 10);
    x.set(5, 7);
    Check.same("20: both", x.chance(30), 30 * 10 + 70 * 2);
    Check.same("20: chance(-1)", x.chance(-1), -4);
    Check.same("20: chance(101)", x.chance(101), -6);
    Check.same("20: chance(MIN)", x.chance(Integer.MIN_VALUE), -4);
    Check.same("20: chance(MAX)", x.chance(Integer.MAX_VALUE), -6);
    Check.refused(x, -4, 2);
    Check.refused(x, -6, 2);
  }

  private static void yard() {
    PushedUp x = Check.with("p5s;t0,1;t600,999;");
    Check.same("22: all alone", x.yard(), 300);
    x.set(0, 299);
    Check.same("22: by fifties", x.yard(), 250);
    x.set(0, 1);
    Check.same("22: none begins, the least", x.yard(), 50);
    x.set(0, 300);
    Check.line(x, "e1;");
    Check.same("22: divided", x.yard(), 950);
    x.set(1, 320);
    Check.same("22: 640 and above is none", x.yard(), 600);
    x = Check.with("p5s;t0,1;t0,1;t0,1;t0,1;e1;");
    Check.same("22: one behind the other", x.yard(), 950);
    x = Check.with("e4;");
    Check.same("22: no trains", x.yard(), -9);
  }

  private static void nothingChanges() {
    PushedUp x = Check.with("p5s;e1;t0,500;t1,500;t9,100;");
    x.order(2, 12);
    x.set(7, 2);
    int all = x.allWaited();
    x.best(-1);
    x.fewest(0);
    x.which();
    x.chance(50);
    x.yard();
    Check.same("16-22: pieces stay", x.piece(0, 1), 0);
    Check.same("16-22: engines stay", x.count(2), 1);
    Check.same("16-22: weights stay", x.train(2, 1), 100);
    Check.same("16-22: the order stays", x.count(5), 2);
    Check.same("16-22: what all wait stays", x.allWaited(), all);
    Check.same("16-22: wet stays", x.set(6, 0), 0);
    Check.same("16-22: the rule stays", x.set(7, 2), 2);
  }
}

/** The bounds of what is found by trying: of all orders, engines, pieces, weights and hundredths. */
public final class SearchBoundsTest {
  /** Hills of five trains whose best orders are known, most of them far from the first. */
  private static final String[] HILLS = {"p1s;e1;t0,700;t0,700;t0,500;t0,100;t0,700;", "p7s;e2;t1,700;t4,100;t1,500;t1,100;t3,500;",
      "p1s;e1;t0,700;t2,700;t1,500;t4,100;t0,500;", "p2s;e2;t5,500;t4,700;t3,500;t0,500;t3,100;",
      "p3s;e1;t0,700;t0,500;t0,500;t0,100;t0,100;", "p7d;e2;t0,700;t0,100;t0,700;t0,100;t0,500;",
      "p1d;e2;t0,500;t0,700;t0,500;t0,700;t0,100;", "p1s;e2;t2,700;t0,500;t2,100;t0,500;t0,100;",
      "p6s;e2;t5,100;t3,700;t1,500;t1,500;t1,100;", "p1d;e1;t0,700;t0,700;t0,700;t0,500;t0,100;",
      "p1d;e1;t0,700;t0,700;t0,500;t0,500;t0,100;", "p5s;e1;t4,700;t4,700;t0,500;t1,100;t0,100;",
      "p4d;e2;t8,100;t7,700;t6,700;t0,500;t0,700;"};
  private static final int[] HEADWAYS = {6, 9, 6, 7, 9, 3, 6, 3, 9, 6, 6, 7, 21};
  private static final int[] HANGS = {1, 0, 0, 0, 1, 0, 0, 0, 0, 1, 0, 1, 1};
  private static final int[] BEST = {32014, 32041, 32140, 34021, 34120, 40123, 40213, 41032, 42130, 43012, 42301, 42013,
      43102};

  public static void main(String[] args) {
    bestOfAllOrders();
    bestOfFew();
    bestIndexes();
    bestKeepsTheOrder();
    fewestAtEach();
    fewestOfNone();
    whichAtEach();
    edgeOfEach();
    chanceAtEach();
    heaviestAtEach();
    yardOfEach();
    yardWeighsAll();
    trialsAreAnew();
    Check.end("SearchBoundsTest");
  }

  private static PushedUp hill(int i) {
    PushedUp x = Check.with(HILLS[i]);
    x.set(5, HEADWAYS[i]);
    x.set(8, HANGS[i]);
    return x;
  }

  /** The digits of an order by numbers, as order() wants them: the first lowest. */
  private static int turned(int order) {
    int digits = 0;
    for (int i = 0, rest = order; i < 5; i++, rest /= 10) {
      digits = digits * 10 + rest % 10;
    }
    return digits;
  }

  private static boolean isOrder(int digits) {
    int seen = 0;
    for (int i = 0, rest = digits; i < 5; i++, rest /= 10) {
      seen |= 1 << rest % 10;
    }
    return seen == 31;
  }

  /** Each of the 120 orders is told, and its day asked for. */
  private static void bestOfAllOrders() {
    for (int i = 0; i < HILLS.length; i++) {
      PushedUp told = hill(i);
      told.set(7, 3);
      int least = Integer.MAX_VALUE;
      int first = -1;
      for (int order = 1234; order <= 43210; order++) {
        if (isOrder(order)) {
          told.order(5, turned(order));
          int waited = told.allWaited();
          if (waited < least) {
            least = waited;
            first = order;
          }
        }
      }
      PushedUp x = hill(i);
      int found = 0;
      Check.same("16: least of hill " + i, x.best(-1), least);
      for (int place = 0; place < 5; place++) {
        found = found * 10 + x.best(place);
      }
      Check.same("16: the first order of hill " + i, found, first);
      Check.same("16: as known of hill " + i, found, BEST[i]);
    }
  }

  private static void bestOfFew() {
    PushedUp x = Check.with("p5s;t0,400;");
    Check.same("16: of one, that does not begin", x.best(-1), 1440);
    Check.same("16: of one", x.best(0), 0);
    Check.same("16: none such", x.best(1), -9);
    Check.line(x, "e1;t0,100;");
    // The one alone first: then 0 and 5; pushed first: 15.
    Check.same("16: of two", x.best(-1), 5);
    Check.same("16: of several the first by numbers", x.best(0), 0);
    Check.same("16: and then", x.best(1), 1);
    Check.same("16: none such", x.best(2), -9);
    x = Check.with("p5s;e1;t0,700;t0,100;");
    Check.same("16: divided goes behind", x.best(-1), 5);
    Check.same("16: the second first", x.best(0), 1);
    Check.same("16: the first behind", x.best(1), 0);
    x = Check.with("p5s;t0,999;t0,999;t0,1;");
    x.set(1, 499);
    Check.same("16: kind 3 stands in it, too", x.best(-1), 0);
    for (int i = 0; i < 3; i++) {
      Check.same("16: kind 3, place " + i, x.best(i), i);
    }
  }

  private static void bestIndexes() {
    for (int trains = 0; trains <= 5; trains++) {
      PushedUp x = Check.with("p1s;");
      for (int i = 0; i < trains; i++) {
        Check.line(x, "t0,1;");
      }
      Check.same("16: below, of " + trains, x.best(-2), -4);
      Check.same("16: all wait, of " + trains, x.best(-1), 5 * trains * (trains - 1) / 2);
      for (int i = 0; i < 8; i++) {
        Check.same("16: best(" + i + ") of " + trains, x.best(i), i < trains ? i : -9);
      }
      Check.same("16: best(MAX) of " + trains, x.best(Integer.MAX_VALUE), -9);
      Check.refused(x, -4, 1);
      Check.refused(x, -6, 0);
    }
  }

  private static void bestKeepsTheOrder() {
    PushedUp x = hill(11);
    x.set(7, 3);
    x.order(2, 1);
    int all = x.allWaited();
    x.best(-1);
    Check.same("16: the order stays", x.count(5), 2);
    Check.same("16: its day stays", x.allWaited(), all);
    Check.same("16: the rule stays", x.set(7, 0), 3);
    Check.same("16: the rule counts nothing", x.best(0), 4);
  }

  private static void fewestAtEach() {
    for (int there = 0; there <= 4; there++) {
      PushedUp x = Check.with("p1d;e" + there + ";", "t0,500;t0,500;t0,500;t0,500;t0,500;t0,300;");
      x.set(3, 20);
      x.set(4, 20);
      x.set(5, 1);
      Check.same("14: with " + there, x.allWaited(), needed(there));
      for (int engines = 0; engines <= 4; engines++) {
        int needed = needed(engines);
        Check.same("17: just enough for " + engines, x.fewest(needed), engines);
        Check.same("17: one more for " + engines, x.fewest(needed + 1), engines);
        Check.same("17: one less for " + engines, x.fewest(needed - 1), engines < 4 ? engines + 1 : -9);
      }
      Check.same("17: the greatest number", x.fewest(Integer.MAX_VALUE), 0);
      Check.same("17: the least number", x.fewest(0), -9);
      Check.same("17: the engines stay", x.count(2), there);
    }
  }

  /** All that the six trains of fewestAtEach wait, by the minutes at which they begin. */
  private static int needed(int engines) {
    int[][] begins = {{1440, 1440, 1440, 1440, 1440, 0}, {0, 42, 84, 126, 168, 1}, {0, 1, 43, 44, 86, 2},
        {0, 1, 2, 44, 45, 3}, {0, 1, 2, 3, 45, 4}};
    int sum = 0;
    for (int minute : begins[engines]) {
      sum += minute;
    }
    return sum;
  }

  private static void fewestOfNone() {
    PushedUp x = Check.with("p1d;e4;t0,999;");
    x.set(1, 499);
    Check.same("17: kind 3 needs none", x.fewest(0), 0);
    x = Check.with("p1d;e4;t0,300;");
    Check.same("17: alone needs none", x.fewest(0), 0);
    x = Check.with("p1d;e0;t0,301;");
    Check.same("17: pushed needs one", x.fewest(0), 1);
    Check.same("17: pushed needs one", x.fewest(1439), 1);
    Check.same("17: it may wait all day", x.fewest(1440), 0);
  }

  private static void whichAtEach() {
    for (int single = 0; single < 5; single++) {
      PushedUp x = Check.with("p1d;p1d;p1d;p1d;p1d;", "e1;t0,500;t1,500;t9,100;");
      Check.same("18: none is single", x.which(), -9);
      x.makeDouble(single, false);
      Check.same("18: the only one", x.which(), single);
      Check.same("18: it stays single", x.piece(single, 1), 0);
      Check.same("14: now", x.allWaited(), 18);
      x.makeDouble(single, true);
      Check.same("14: then", x.allWaited(), 14);
      Check.same("18: none is single any more", x.which(), -9);
    }
    PushedUp x = Check.with("p1s;p1s;p1s;p1s;p1s;", "e1;t0,500;t1,500;t9,100;");
    Check.same("18: all single", x.which(), -9);
    x = Check.with("p5s;e0;t0,100;t0,100;");
    Check.same("18: none comes down", x.which(), -9);
  }

  private static void edgeOfEach() {
    for (int alone = 1; alone <= 999; alone += 499) {
      for (int pushed = 1; pushed <= 999; pushed += 499) {
        PushedUp x = new PushedUp();
        x.set(0, alone);
        x.set(1, pushed);
        String what = "19: ALONE " + alone + ", PUSHED " + pushed + ", edge ";
        int divided = Math.min(999, 2 * pushed);
        Check.same(what + 0, x.edge(0), alone);
        Check.same(what + 1, x.edge(1), pushed > alone ? pushed : -9);
        Check.same(what + 2, x.edge(2), divided > Math.max(alone, pushed) ? divided : -9);
        Check.refused(x, -2, 0);
      }
    }
    PushedUp x = new PushedUp();
    x.set(0, 998);
    x.set(1, 999);
    Check.same("19: one weight alone", x.edge(1), 999);
    Check.same("19: none is left", x.edge(2), -9);
    x.set(1, 998);
    Check.same("19: none is pushed", x.edge(1), -9);
    Check.same("19: one weight divided", x.edge(2), 999);
    x.set(0, 999);
    Check.same("19: all alone", x.edge(0), 999);
    Check.same("19: none divided", x.edge(2), -9);
    x.set(0, 1);
    x.set(1, 499);
    Check.same("19: 999 can not", x.edge(2), 998);
    x.set(1, 500);
    Check.same("19: 999 at most", x.edge(2), 999);
  }

  private static void chanceAtEach() {
    for (int wet = 0; wet <= 1; wet++) {
      PushedUp x = Check.with("p5s;e1;t0,300;t5,300;");
      x.set(6, wet);
      x.set(5, 7);
      // On a dry rail two minutes, by headway; on a wet one ten, for the engine.
      for (int hundredths = 0; hundredths <= 100; hundredths++) {
        Check.same("20: chance(" + hundredths + ")", x.chance(hundredths), hundredths * 10 + (100 - hundredths) * 2);
      }
      Check.same("20: the rail stays", x.set(6, 0), wet);
    }
    PushedUp x = Check.with("t0,400;t0,400;t0,400;t0,400;t0,400;", "t0,400;t0,400;t0,400;");
    Check.same("20: the most", x.chance(0), 100 * 8 * 1440);
    Check.same("20: the most", x.chance(100), 100 * 8 * 1440);
    x = Check.with("p5s;t0,800;e0;");
    x.set(1, 400);
    // Dry it waits all day; wet it can not climb and does not wait.
    Check.same("20: dry", x.chance(0), 144000);
    Check.same("20: one hundredth wet", x.chance(1), 142560);
    Check.same("20: one hundredth dry", x.chance(99), 1440);
    Check.same("20: wet", x.chance(100), 0);
  }

  private static void heaviestAtEach() {
    PushedUp x = Check.with("e4;t0,999;t0,999;t0,999;t0,999;", "t0,999;t0,999;t0,999;t0,999;");
    Check.same("21: the most", x.heaviest(), 8 * 999);
    Check.line(x, "e0;");
    Check.same("21: none begins", x.heaviest(), 0);
    x.set(0, 999);
    Check.same("21: all begin", x.heaviest(), 8 * 999);
    x = Check.with("t600,1;");
    Check.same("21: the least", x.heaviest(), 1);
  }

  private static void yardOfEach() {
    for (int alone = 1; alone <= 999; alone++) {
      PushedUp x = Check.with("t0,1;");
      x.set(0, alone);
      int due = alone < 50 ? 50 : Math.min(950, alone / 50 * 50);
      Check.same("22: ALONE " + alone, x.yard(), due);
    }
    for (int pushed = 1; pushed <= 999; pushed++) {
      PushedUp x = Check.with("e1;t0,1;");
      x.set(0, 1);
      x.set(1, pushed);
      int due = pushed < 25 ? 50 : Math.min(950, 2 * pushed / 50 * 50);
      Check.same("22: PUSHED " + pushed, x.yard(), due);
    }
  }

  private static void yardWeighsAll() {
    for (int heavy = 0; heavy < 8; heavy++) {
      PushedUp x = Check.with("p1s;e0;");
      for (int i = 0; i < 8; i++) {
        Check.line(x, i == heavy ? "t0,999;" : "t0,1;");
      }
      Check.same("22: whatever they weigh now, " + heavy, x.yard(), 300);
      Check.same("22: they weigh it still", x.train(heavy, 1), 999);
    }
    PushedUp x = Check.with("p9s;p9s;p9s;p9s;p9s;e1;", "t600,1;t600,1;t600,1;t600,1;", "t600,1;t600,1;t600,1;t600,1;");
    x.set(3, 20);
    x.set(4, 20);
    // Divided ones begin each 260 minutes, four till 1440; pushed ones each 130, seven.
    Check.same("22: seven of 600, not four of 950", x.yard(), 600);
    x.set(1, 474);
    // 450 pushed seven times, 3150; 900 four times, 3600; 300 alone eight times, 2400.
    Check.same("22: four of 900", x.yard(), 900);
    x.set(1, 350);
    // 350 pushed seven times, 2450; 700 four times, 2800.
    Check.same("22: four of 700", x.yard(), 700);
    x.set(1, 300);
    // 300 alone eight times and 600 four times are 2400: the least of both.
    Check.same("22: of several the least", x.yard(), 300);
  }

  /** What one question tries is not seen by the next, nor by a line. */
  private static void trialsAreAnew() {
    PushedUp x = hill(0);
    int which = hill(0).which();
    int fewest = hill(0).fewest(87);
    int chance = hill(0).chance(37);
    int yard = hill(0).yard();
    for (int i = 0; i < 3; i++) {
      Check.same("16: again", x.best(-1), 87);
      Check.same("18: after best", x.which(), which);
      Check.same("22: after which", x.yard(), yard);
      Check.same("18: after yard", x.which(), which);
      Check.same("17: after which", x.fewest(87), fewest);
      Check.same("18: after fewest", x.which(), which);
      Check.same("20: after which", x.chance(37), chance);
      Check.same("18: after chance", x.which(), which);
      Check.same("3: a fault after which", Check.line(x, "p0s;"), -2000);
      Check.same("18: after a fault", x.which(), which);
      Check.same("22: after a fault", x.yard(), yard);
      Check.same("3: the line as it was", x.allWaited(), hill(0).allWaited());
    }
  }
}

/** The bounds of climbs, of what the line lets begin, and of a day: from minute 0 to 1440. */
public final class DayBoundsTest {
  private static final String LONGEST = "p9s;p9s;p9s;p9s;p9s;e1;";

  public static void main(String[] args) {
    kinds();
    wet();
    takes();
    headwayUp();
    headwayDown();
    headwayOfDivided();
    singlePieces();
    otherWay();
    dividedOne();
    enginesAtFoot();
    earliestEngine();
    oneThingInAMinute();
    hangs();
    hangsForAny();
    rules();
    toldOrder();
    firstMinute();
    lastMinute();
    lastMinuteForDown();
    whatWaits();
    Check.end("DayBoundsTest");
  }

  private static int kind(int alone, int pushed, int weight) {
    PushedUp x = Check.with("t0," + weight + ";");
    x.set(0, alone);
    x.set(1, pushed);
    return x.climbs(0);
  }

  private static void kinds() {
    Check.same("9: at ALONE", kind(300, 600, 300), 0);
    Check.same("9: above ALONE", kind(300, 600, 301), 1);
    Check.same("9: at PUSHED", kind(300, 600, 600), 1);
    Check.same("9: above PUSHED", kind(300, 600, 601), 2);
    Check.same("9: half of it below", kind(10, 400, 799), 2);
    Check.same("9: half of it at PUSHED", kind(10, 400, 800), 2);
    Check.same("9: half of it, rounded up, above", kind(10, 400, 801), 3);
    Check.same("9: half of it above", kind(10, 400, 802), 3);
    Check.same("9: the least of all", kind(1, 1, 1), 0);
    Check.same("9: twice the least", kind(1, 1, 2), 2);
    Check.same("9: above twice the least", kind(1, 1, 3), 3);
    Check.same("9: the greatest, alone", kind(999, 1, 999), 0);
    Check.same("9: the greatest, pushed", kind(998, 999, 999), 1);
    Check.same("9: the greatest, divided", kind(1, 500, 999), 2);
    Check.same("9: the greatest, not", kind(1, 499, 999), 3);
    Check.same("9: none pushed where ALONE is PUSHED", kind(400, 400, 401), 2);
    Check.same("9: ALONE above PUSHED", kind(500, 300, 500), 0);
    Check.same("9: then divided at once", kind(500, 300, 501), 2);
    Check.same("9: then none at once", kind(700, 300, 701), 3);
  }

  private static void wet() {
    // ALONE, LESS, and the greatest weight that climbs alone on a wet rail.
    int[][] due = {{300, 20, 240}, {300, 0, 300}, {300, 90, 30}, {999, 90, 100}, {999, 1, 990}, {1, 90, 1},
        {2, 90, 1}, {2, 49, 2}, {2, 50, 1}, {11, 9, 11}, {100, 1, 99}, {99, 1, 99}, {10, 90, 1}, {19, 90, 2}};
    for (int[] one : due) {
      PushedUp x = new PushedUp();
      x.set(1, 1);
      x.set(0, one[0]);
      x.set(2, one[1]);
      Check.same("19: dry ALONE " + one[0], x.edge(0), one[0]);
      x.set(6, 1);
      Check.same("19: wet ALONE " + one[0] + " less " + one[1], x.edge(0), one[2]);
      x.set(0, 1);
      x.set(1, one[0]);
      Check.same("19: wet PUSHED " + one[0] + " less " + one[1], x.edge(1), one[2] == 1 ? -9 : one[2]);
    }
    PushedUp x = Check.with("p1s;t0,240;t0,241;t0,480;t0,481;t0,960;t0,961;");
    x.set(6, 1);
    int[] kinds = {0, 1, 1, 2, 2, 3};
    for (int i = 0; i < kinds.length; i++) {
      Check.same("9: on a wet rail " + i, x.climbs(i), kinds[i]);
    }
  }

  private static void takes() {
    PushedUp x = Check.with("p9s;p9d;p9s;p9d;p9s;", "t0,300;t0,600;t0,999;");
    x.set(3, 20);
    x.set(4, 20);
    Check.same("10: the longest alone", x.takes(0), 45);
    Check.same("10: the longest pushed", x.takes(1), 85);
    Check.same("10: the longest divided", x.takes(2), 215);
    x.set(3, 0);
    Check.same("10: no PUT", x.takes(1), 65);
    x.set(4, 0);
    Check.same("10: no DROP", x.takes(1), 45);
    Check.same("10: divided without them", x.takes(2), 135);
    x.set(1, 499);
    Check.same("10: it can not climb", x.takes(2), -9);
    Check.refused(x, -1, 0);
    x = Check.with("t0,300;t0,600;t0,999;");
    x.set(3, 0);
    x.set(4, 0);
    for (int i = 0; i < 3; i++) {
      Check.same("10: nothing at all", x.takes(i), 0);
    }
  }

  private static void headwayUp() {
    for (int headway : new int[] {1, 2, 5, 59, 60}) {
      for (int comes = Math.max(0, headway - 2); comes <= headway + 2; comes++) {
        PushedUp x = Check.with("p1d;t0,1;t" + comes + ",1;");
        x.set(5, headway);
        int due = comes == 0 ? headway : Math.max(comes, headway);
        Check.began(x, "13: headway " + headway + ", comes " + comes, 0, due);
        Check.same("12: headway " + headway, x.waited(1), due - comes);
      }
    }
  }

  private static void headwayDown() {
    // Up at 0, 5 and 10; at 15 nothing goes up any more: down at 15 and, by headway, at 20.
    PushedUp x = Check.with("p5s;e2;", "t0,500;t5,500;t10,100;t16,100;");
    Check.began(x, "13: down by headway 5", 0, 5, 10, 25);
    Check.same("15: both", x.downs(), 2);
    // Up at 0, 7 and 14; down at 19 and not before 26: at 24 the line lets a train.
    x.set(5, 7);
    Check.began(x, "13: down by headway 7", 0, 7, 14, 24);
    // Up at 0, 5 and 10; down at 15 and 18, the second done at 23.
    x.set(5, 3);
    Check.began(x, "13: down by headway 3", 0, 5, 10, 23);
  }

  private static void headwayOfDivided() {
    PushedUp x = Check.with("p1d;e2;t0,100;t0,700;t0,100;");
    x.set(7, 3);
    x.order(2, 10);
    // A divided one takes 13: it begins by headway, and what follows does so by its headway.
    x.set(5, 5);
    Check.began(x, "13: divided by headway 5", 0, 5, 19);
    x.set(5, 60);
    Check.began(x, "13: after the divided by headway 60", 0, 60, 120);
    x.set(5, 13);
    Check.began(x, "13: headway 13, and down comes first", 0, 13, 27);
    x.set(8, 1);
    Check.began(x, "13: headway 13, and the engine hangs", 0, 13, 26);
    x.set(5, 14);
    Check.began(x, "13: headway 14", 0, 14, 28);
  }

  private static void singlePieces() {
    for (int single = 0; single < 5; single++) {
      PushedUp x = Check.with("p1d;p1d;p1d;p1d;p1d;e1;", "t0,500;t1,500;t9,100;");
      Check.began(x, "13: none single", 0, 15, 9);
      x.makeDouble(single, false);
      Check.same("27: one single", x.count(3), 1);
      Check.began(x, "13: single " + single, 0, 19, 9);
      Check.same("18: the one to double", x.which(), single);
      x.makeDouble((single + 1) % 5, false);
      Check.began(x, "13: two single", 0, 19, 9);
      Check.same("18: one is not enough", x.which(), -9);
    }
  }

  private static void otherWay() {
    // The first is done at 10; its engine begins down at that minute and is done at 15.
    for (int comes = 11; comes <= 17; comes++) {
      PushedUp x = Check.with("p5s;e1;t0,500;t" + comes + ",100;");
      Check.began(x, "13: single, comes " + comes, 0, Math.max(15, comes));
      x.makeDouble(0, true);
      Check.began(x, "13: double, comes " + comes, 0, comes);
    }
    PushedUp x = Check.with("p5s;e1;t0,500;t5,100;t10,100;t11,500;");
    // At 10 the first and the second are done: down before the third, which waits till 15; by
    // headway the fourth begins at 20.
    Check.began(x, "13: done at it is not under way", 0, 5, 15, 20);
  }

  private static void dividedOne() {
    for (int comes = 4; comes <= 11; comes++) {
      PushedUp x = Check.with("p9d;e1;t0,100;t" + comes + ",700;");
      Check.began(x, "13: divided when the other is done, comes " + comes, 0, Math.max(9, comes));
    }
    for (int comes = 13; comes <= 25; comes++) {
      PushedUp x = Check.with("p9d;e2;t0,500;t" + comes + ",700;");
      // Pushed till 14, its engine down till 23; nothing may be under way.
      Check.began(x, "13: divided when down is done, comes " + comes, 0, Math.max(23, comes));
    }
    for (int comes = 0; comes <= 40; comes++) {
      PushedUp x = Check.with("p9d;e1;t0,700;t" + comes + ",100;");
      // Divided till 37; then the engine begins down, in the next minute the train.
      int due = comes <= 37 ? 38 : comes;
      Check.began(x, "13: nothing while one is divided, comes " + comes, 0, due);
      Check.same("15: its engine comes down", x.downs(), 1);
      x = Check.with("p9d;e2;t0,700;t" + comes + ",100;");
      x.set(8, 1);
      Check.began(x, "13: hangs after a divided one, comes " + comes, 0, Math.max(37, comes));
    }
  }

  private static void enginesAtFoot() {
    // Pushed for 41 minutes, one minute down; the last one needs no engine.
    int[][] due = {{-9, -9, -9, -9, -9, 0}, {0, 42, 84, 126, 168, 1}, {0, 1, 43, 44, 86, 2},
        {0, 1, 2, 44, 45, 3}, {0, 1, 2, 3, 45, 4}};
    for (int engines = 0; engines <= 4; engines++) {
      PushedUp x = Check.with("p1d;e" + engines + ";", "t0,500;t0,500;t0,500;t0,500;t0,500;t0,300;");
      x.set(3, 20);
      x.set(4, 20);
      x.set(5, 1);
      Check.began(x, "13: engines " + engines, due[engines]);
      Check.same("27: trains that begin, engines " + engines, x.count(4), engines == 0 ? 1 : 6);
      Check.same("15: downs, engines " + engines, x.downs(), engines == 0 ? 0 : 5);
    }
  }

  /** Of several engines the one that is there first moves. */
  private static void earliestEngine() {
    PushedUp x = Check.with("p1s;p1d;e3;", "t0,500;t5,500;t10,500;t30,500;", "t31,500;t32,500;");
    x.set(3, 0);
    x.set(4, 0);
    // Two minutes up and two down; each engine comes down as soon as it is there.
    Check.began(x, "13: each goes by the first engine", 0, 5, 10, 30, 35, 40);
    Check.same("15: all", x.downs(), 6);
    x = Check.with("p9d;e2;", "t0,500;t5,500;t6,500;t7,500;");
    // Up till 14 and 19; down from 14 till 23 and from 19 till 28.
    Check.began(x, "13: by turns", 0, 5, 23, 28);
    x.row(0);
    x.row(1);
    x.row(9);
    x.row(2);
    Check.same("24: the first engine, again", x.judge(1), 23);
    x.row(0);
    x.row(1);
    x.row(9);
    x.row(9);
    x.row(2);
    x.row(3);
    Check.same("24: the second engine", x.judge(1), 28);
    x = Check.with("p9d;e3;t0,500;t5,500;t12,500;", "t0,500;t0,500;");
    for (int v : new int[] {0, 1, 2, 9, 9}) {
      x.row(v);
    }
    // At the top at 14, 19 and 26.
    Check.same("24: the second of three", x.judge(1), 19);
    for (int v : new int[] {0, 1, 2, 9, 9, 3, 4, 9}) {
      x.row(v);
    }
    // The first two go up again at 23 and 28; the third stands at the top all the while.
    Check.same("24: the third of three", x.judge(1), 29);
  }

  private static void oneThingInAMinute() {
    PushedUp x = Check.with("p5d;e2;t0,500;t10,500;t10,1;");
    // At 10 the engine begins down, at 11 the second train, by headway at 16 the third.
    Check.began(x, "13: one thing in a minute", 0, 11, 16);
    x = Check.with("e1;t0,500;t0,1;t0,1;");
    x.set(3, 0);
    x.set(4, 0);
    x.set(5, 1);
    Check.began(x, "13: though nothing takes a minute", 0, 2, 3);
  }

  private static void hangs() {
    int[] comes = {8, 9, 10, 11, 14, 15, 16};
    int[] due = {8, 9, 10, 15, 15, 15, 16};
    for (int i = 0; i < comes.length; i++) {
      PushedUp x = Check.with("p5s;e2;t0,500;t" + comes[i] + ",500;");
      x.set(8, 1);
      // At 10 the first engine is at the top; it hangs if the train has come by then.
      Check.began(x, "13: hangs, comes " + comes[i], 0, due[i]);
      x.set(8, 0);
      Check.began(x, "13: does not hang, comes " + comes[i], 0, comes[i] < 10 ? comes[i] : Math.max(15, comes[i]));
    }
    // At 15 the first engine is at the foot again and the second at the top; a train waits.
    PushedUp x = Check.with("p5d;e2;t0,500;t5,500;t12,500;");
    x.set(8, 1);
    Check.began(x, "13: at the foot at that minute", 0, 5, 15);
    x.set(8, 0);
    Check.began(x, "13: down first", 0, 5, 16);
    // The train that waits could go alone; the engine hangs all the same.
    x = Check.with("p5s;e2;t0,500;t10,100;");
    x.set(8, 1);
    Check.began(x, "13: hangs for one that goes alone, too", 0, 10);
    x = Check.with("p5s;e1;t0,500;t10,100;");
    x.set(8, 1);
    Check.began(x, "13: no engine at the foot, so it does not hang", 0, 15);
    x = Check.with("p5s;e2;t0,500;t1,999;t11,500;");
    x.set(8, 1);
    x.set(0, 100);
    x.set(1, 499);
    // Of kind 2 is 500 now: till 25; 999 of kind 3 does not wait; down from 25 to 30.
    Check.began(x, "13: hangs for no other than one that waits", 0, -9, 25);
    x = Check.with("p5s;e2;t0,500;t1,999;");
    x.set(8, 1);
    x.set(1, 499);
    x.set(0, 100);
    Check.same("15: none waits for kind 3", x.downs(), 1);
  }

  private static void hangsForAny() {
    PushedUp x = Check.with("p5s;e2;t10,500;t0,500;");
    x.set(8, 1);
    Check.began(x, "13: hangs for the first train alone", 10, 0);
    x = Check.with("p5s;e4;t0,500;t0,500;t0,500;t0,1;", "t0,1;t0,1;t0,1;t0,1;");
    x.set(8, 1);
    // By headway till 35; the last is done at 40; three engines, and none waits, come down.
    Check.began(x, "13: all eight begin", 0, 5, 10, 15, 20, 25, 30, 35);
    Check.same("15: none of all eight waits", x.downs(), 3);
    x.makeDouble(0, true);
    Check.same("15: none of all eight waits, double", x.downs(), 3);
  }

  private static void rules() {
    String alike = "t3,70;t0,70;t3,70;t0,70;t0,1;";
    PushedUp x = Check.with("p1d;", alike);
    int[][] due = {{15, 0, 20, 5, 10}, {10, 0, 15, 5, 20}, {15, 5, 20, 10, 0}, {15, 0, 20, 5, 10}};
    for (int rule = 0; rule <= 3; rule++) {
      x.set(7, rule);
      Check.began(x, "13: rule " + rule, due[rule]);
    }
    // The first that can: what needs an engine stands behind nobody.
    x = Check.with("p1d;t0,999;t0,500;t0,100;t1,300;");
    for (int rule = 0; rule <= 3; rule++) {
      x.set(7, rule);
      Check.began(x, "13: no engine, rule " + rule, -9, -9, 0, 5);
    }
    x = Check.with("p1d;t0,1;t0,2;t0,999;");
    x.set(0, 999);
    x.set(7, 1);
    Check.began(x, "13: the greatest weight", 10, 5, 0);
    x.set(7, 2);
    Check.began(x, "13: the least weight", 0, 5, 10);
  }

  private static void toldOrder() {
    PushedUp x = Check.with("p1d;", "t0,1;t0,1;t0,1;t0,1;t0,1;t0,1;t0,1;t0,1;");
    x.set(5, 1);
    x.set(7, 3);
    Check.same("8: all eight", x.order(8, 41360725), 0);
    Check.began(x, "8: all eight", 3, 6, 1, 5, 7, 0, 4, 2);
    Check.same("8: seven", x.order(7, 41360725), 8);
    Check.began(x, "8: seven, and the last behind", 3, 6, 1, 5, 7, 0, 4, 2);
    Check.same("8: three", x.order(3, 41360725), 7);
    Check.began(x, "8: three, and the others as FIRST", 3, 4, 1, 5, 6, 0, 7, 2);
    Check.same("8: one", x.order(1, 7), 3);
    Check.began(x, "8: one", 1, 2, 3, 4, 5, 6, 7, 0);
    Check.same("8: nought for want of a digit", x.order(2, 7), 1);
    Check.began(x, "8: nought behind seven", 1, 2, 3, 4, 5, 6, 7, 0);
    Check.same("8: from the last", x.order(8, 1234567), 2);
    Check.began(x, "8: from the last", 7, 6, 5, 4, 3, 2, 1, 0);
    Check.same("8: none", x.order(0, 41360725), 8);
    Check.began(x, "8: none", 0, 1, 2, 3, 4, 5, 6, 7);
    x = Check.with("p1d;t9,1;t8,1;t0,1;t0,1;");
    x.set(5, 20);
    x.set(7, 3);
    x.order(1, 3);
    Check.began(x, "8: those behind as FIRST, by coming", 60, 40, 20, 0);
    Check.line(x, "t0,1;");
    x.order(1, 4);
    Check.began(x, "8: a train that came by another line", 80, 60, 20, 40, 0);
  }

  private static void firstMinute() {
    PushedUp x = Check.with("p9s;e1;t0,1;");
    Check.same("13: at minute 0", x.began(0), 0);
    Check.same("12: no minute", x.waited(0), 0);
    x = Check.with("p9s;e1;t0,600;");
    Check.same("13: pushed at minute 0", x.began(0), 0);
    x = Check.with("p9s;e1;t0,999;");
    Check.same("13: divided at minute 0", x.began(0), 0);
    x.set(5, 60);
    Check.same("13: no headway at first", x.began(0), 0);
    x = Check.with("p9s;e1;t600,999;");
    Check.same("13: at the last coming", x.began(0), 600);
    Check.same("14: nobody waits", x.allWaited(), 0);
  }

  /** Six divided ones, each 215 minutes up and 45 down: the last may begin 1300 after the first. */
  private static PushedUp longDay(int comes, String others) {
    PushedUp x = Check.with(LONGEST);
    for (int i = 0; i < 6; i++) {
      Check.line(x, "t" + comes + ",999;");
    }
    Check.line(x, others);
    x.set(3, 20);
    x.set(4, 20);
    return x;
  }

  private static void lastMinute() {
    for (int comes = 138; comes <= 142; comes++) {
      PushedUp x = longDay(comes, "t600,600;");
      boolean begins = comes <= 140;
      int last = comes + 1300;
      Check.same("13: the sixth, " + comes, x.began(5), begins ? last : -9);
      Check.same("12: the sixth, " + comes, x.waited(5), begins ? 1300 : -9);
      Check.same("13: none behind it", x.began(6), -9);
      Check.same("14: all, " + comes, x.allWaited(), 260 * 10 + (begins ? 1300 : 1440 - comes) + 840);
      Check.same("21: all weights, " + comes, x.heaviest(), 999 * (begins ? 6 : 5));
      Check.same("27: trains that begin, " + comes, x.count(4), begins ? 6 : 5);
      Check.same("15: downs, " + comes, x.downs(), 5);
    }
  }

  private static void lastMinuteForDown() {
    for (int comes = 183; comes <= 188; comes++) {
      PushedUp x = longDay(comes, "t600,999;");
      // The fifth is at the top 1255 minutes after the first began.
      Check.same("13: the fifth, " + comes, x.began(4), comes + 1040);
      Check.same("15: its engine, " + comes, x.downs(), comes + 1255 <= 1440 ? 5 : 4);
      Check.same("27: trains that begin, " + comes, x.count(4), 5);
    }
  }

  private static void whatWaits() {
    PushedUp x = Check.with("p1s;t0,400;");
    Check.same("14: from 0 to the end", x.allWaited(), 1440);
    Check.same("12: it does not begin", x.waited(0), -9);
    Check.line(x, "t600,400;t599,999;");
    Check.same("14: from the last coming", x.allWaited(), 1440 + 840 + 841);
    x.set(1, 200);
    Check.same("14: kind 3 counts nothing", x.allWaited(), 1440 + 840);
    x.set(1, 199);
    Check.same("14: all of kind 3", x.allWaited(), 0);
    Check.same("27: none begins", x.count(4), 0);
    x = Check.with("p1s;t0,1;t0,1;t0,1;t0,1;t0,1;", "t0,1;t0,1;t0,1;");
    x.set(5, 60);
    Check.same("14: eight trains by headway 60", x.allWaited(), 60 * 28);
    Check.same("13: the last of them", x.began(7), 420);
    Check.same("27: all eight begin", x.count(4), 8);
    Check.same("21: all eight weights", x.heaviest(), 8);
  }
}

/** Promises 9 to 15, 19, 21: climbs and days, with answers found by hand. */
public final class DayTest {
  public static void main(String[] args) {
    kinds();
    edges();
    oneEngineOnSingle();
    oppositeOnDouble();
    divided();
    headway();
    rules();
    hang();
    endOfDay();
    noBase();
    nobody();
    Check.end("DayTest");
  }

  private static void kinds() {
    PushedUp x = Check.with("p4s;p3d;t0,300;t0,301;t0,600;t0,601;t0,999;");
    int[] dry = {0, 1, 1, 2, 2};
    int[] takes = {7, 12, 12, 31, 31};
    for (int i = 0; i < dry.length; i++) {
      Check.same("9: climbs(" + i + ")", x.climbs(i), dry[i]);
      Check.same("10: takes(" + i + ")", x.takes(i), takes[i]);
    }
    Check.same("11: base()", x.base(), 7);
    x.set(6, 1);
    int[] wet = {1, 1, 2, 2, 3};
    int[] wetTakes = {12, 12, 31, 31, -9};
    for (int i = 0; i < wet.length; i++) {
      Check.same("9: wet climbs(" + i + ")", x.climbs(i), wet[i]);
      Check.same("10: wet takes(" + i + ")", x.takes(i), wetTakes[i]);
    }
    x.set(6, 0);
    x.set(3, 20);
    x.set(4, 0);
    Check.same("10: with put and drop", x.takes(1), 27);
    Check.same("10: divided with them", x.takes(3), 61);
    x.set(1, 150);
    Check.same("9: half of 300, under ALONE", x.climbs(0), 0);
    Check.same("9: half of 301 rounded up is above", x.climbs(1), 3);
    x.set(1, 151);
    Check.same("9: half of 301 rounded up is not", x.climbs(1), 2);
    x.set(0, 999);
    Check.same("9: all alone", x.climbs(4), 0);
  }

  private static void edges() {
    PushedUp x = new PushedUp();
    Check.same("19: edge(0)", x.edge(0), 300);
    Check.same("19: edge(1)", x.edge(1), 600);
    Check.same("19: edge(2)", x.edge(2), 999);
    Check.same("19: edge(3)", x.edge(3), -2);
    Check.same("19: edge(-1)", x.edge(-1), -2);
    Check.refused(x, -2, 2);
    x.set(0, 333);
    x.set(1, 477);
    x.set(2, 33);
    Check.same("19: dry edge(2)", x.edge(2), 954);
    x.set(6, 1);
    Check.same("19: what is less is cut", x.edge(0), 333 - 109);
    Check.same("19: of the other, too", x.edge(1), 477 - 157);
    Check.same("19: twice of it", x.edge(2), 640);
    x.set(6, 0);
    x.set(1, 333);
    Check.same("19: none by an engine behind", x.edge(1), -9);
    x.set(1, 166);
    Check.same("19: none divided", x.edge(2), -9);
    x.set(1, 167);
    Check.same("19: one divided", x.edge(2), 334);
    x.set(0, 1);
    x.set(2, 90);
    x.set(6, 1);
    Check.same("19: the least edge", x.edge(0), 1);
  }

  private static void oneEngineOnSingle() {
    PushedUp x = Check.with("p4s;p3d;e1;t0,200;t5,500;t6,500;");
    Check.began(x, "13: one engine", 0, 5, 24);
    Check.same("12: waited(0)", x.waited(0), 0);
    Check.same("12: waited(2)", x.waited(2), 18);
    Check.same("14: allWaited()", x.allWaited(), 18);
    Check.same("15: downs()", x.downs(), 2);
    Check.same("21: heaviest()", x.heaviest(), 1200);
    Check.same("27: trains that begin", x.count(4), 3);
    x.set(1, 400);
    x.set(0, 100);
    Check.same("14: pushed and divided", x.allWaited(), 12 + 7 - 5 + 19 + 31 + 7 - 6);
  }

  private static void oppositeOnDouble() {
    PushedUp x = Check.with("p5s;e1;t0,500;t1,500;t9,100;");
    Check.began(x, "13: single", 0, 19, 9);
    Check.same("14: single", x.allWaited(), 18);
    x.makeDouble(0, true);
    Check.began(x, "13: double", 0, 15, 9);
    Check.same("14: double", x.allWaited(), 14);
    Check.same("15: double", x.downs(), 2);
  }

  private static void divided() {
    PushedUp x = Check.with("p5d;e2;t0,100;t1,700;t6,100;t30,500;");
    // The divided one is done at 30; then its engine comes down before anything goes up.
    Check.began(x, "13: divided", 0, 5, 31, 36);
    x = Check.with("p5d;e2;t0,100;t1,700;t4,100;t11,100;");
    x.set(5, 1);
    Check.began(x, "13: one goes before the divided", 0, 9, 4, 35);
    Check.same("15: its engine comes down", x.downs(), 1);
    x = Check.with("p5d;e2;t0,500;t10,700;t11,100;");
    // The engine of the first is at the top at 10 and comes down first, so nothing else may.
    Check.began(x, "13: a down stops the divided", 0, 16, 11);
  }

  private static void headway() {
    PushedUp x = Check.with("p9d;t0,1;t0,1;t7,1;");
    Check.began(x, "13: headway 5", 0, 5, 10);
    x.set(5, 1);
    Check.began(x, "13: headway 1", 0, 1, 7);
    x.set(5, 60);
    Check.began(x, "13: headway 60", 0, 60, 120);
    x = Check.with("p1d;e2;t0,500;t0,500;t1,500;t1,500;");
    x.set(3, 0);
    x.set(4, 0);
    x.set(5, 7);
    // Up at 0, 7, 14, 21; down at 1, 8, 15, 22, with seven minutes between.
    Check.began(x, "13: headway 7", 0, 7, 14, 21);
    Check.same("15: headway 7", x.downs(), 4);
    x.set(5, 60);
    x.set(3, 20);
    x.set(4, 20);
    Check.began(x, "13: downs by headway, too", 0, 60, 120, 180);
  }

  private static void rules() {
    PushedUp x = Check.with("p9d;t0,100;t1,50;t2,200;t3,50;");
    x.set(5, 10);
    x.order(2, 23);
    Check.began(x, "13: first", 0, 10, 20, 30);
    x.set(7, 1);
    Check.began(x, "13: heavy", 0, 20, 10, 30);
    x.set(7, 2);
    Check.began(x, "13: light", 0, 10, 30, 20);
    x.set(7, 3);
    Check.began(x, "13: told 3, 2", 0, 30, 20, 10);
    x.order(1, 3);
    Check.began(x, "13: told 3", 0, 20, 30, 10);
    x.order(0, 0);
    Check.began(x, "13: told none", 0, 10, 20, 30);
    x = Check.with("p9d;t5,100;t0,100;t0,100;");
    Check.began(x, "13: of several that came the least", 10, 0, 5);
  }

  private static void hang() {
    PushedUp x = Check.with("p5s;e2;t0,500;t1,500;");
    x.set(5, 12);
    Check.began(x, "13: an engine comes down first", 0, 15);
    x.set(8, 1);
    Check.began(x, "13: it hangs while one waits", 0, 12);
    Check.same("15: then both come down", x.downs(), 2);
    x = Check.with("p5s;e2;t0,500;t11,500;");
    x.set(5, 12);
    x.set(8, 1);
    Check.began(x, "13: no train waits at 10", 0, 15);
    x = Check.with("p5s;e1;t0,500;t1,500;");
    x.set(8, 1);
    Check.began(x, "13: no engine is at the foot", 0, 15);
    // One that can not climb does not wait, so no engine hangs for it.
    x = Check.with("p5s;e2;t0,50;t1,999;t11,50;");
    x.set(0, 20);
    x.set(1, 50);
    x.set(5, 12);
    x.set(8, 1);
    Check.began(x, "13: kind 3 does not wait", 0, -9, 15);
  }

  private static void endOfDay() {
    PushedUp x = Check.with("p9s;p9s;p9s;p9s;p9s;e1;", "t140,999;t140,999;t140,999;t140,999;",
        "t140,999;t140,999;");
    x.set(3, 20);
    x.set(4, 20);
    Check.began(x, "13: till the last minute", 140, 400, 660, 920, 1180, 1440);
    Check.same("12: in the last minute", x.waited(5), 1300);
    Check.same("14: all", x.allWaited(), 260 * 15);
    Check.same("15: none behind it", x.downs(), 5);
    x = Check.with("p9s;p9s;p9s;p9s;p9s;e1;", "t141,999;t141,999;t141,999;t141,999;",
        "t141,999;t141,999;t5,1;");
    x.set(3, 20);
    x.set(4, 20);
    Check.began(x, "13: a minute late", 141, 401, 661, 921, 1181, -9, 5);
    Check.same("12: it does not begin", x.waited(5), -9);
    Check.same("14: it waits till the end", x.allWaited(), 260 * 10 + 1440 - 141);
    Check.same("21: it is not counted", x.heaviest(), 5 * 999 + 1);
    Check.same("27: it is not counted", x.count(4), 6);
    x = Check.with("p1s;t600,400;t10,999;");
    x.set(1, 499);
    Check.began(x, "13: no engine, and kind 3", -9, -9);
    Check.same("14: kind 3 counts nothing", x.allWaited(), 840);
    Check.same("21: nothing", x.heaviest(), 0);
  }

  private static void noBase() {
    PushedUp x = Check.with("e1;t0,500;t0,500;t0,999;t0,1;");
    x.set(3, 0);
    x.set(4, 0);
    x.set(5, 1);
    // One thing begins in a minute, though all of them take none.
    Check.began(x, "13: no pieces", 0, 2, 4, 6);
    Check.same("10: takes(2)", x.takes(2), 0);
    x.set(7, 3);
    x.order(1, 3);
    Check.began(x, "13: the told first", 1, 3, 5, 0);
    Check.same("15: downs()", x.downs(), 3);
  }

  private static void nobody() {
    PushedUp x = Check.with("t0,1;");
    int[] wrong = {-1, 1, 8, Integer.MIN_VALUE, Integer.MAX_VALUE};
    for (int train : wrong) {
      Check.same("9: climbs(" + train + ")", x.climbs(train), -1);
      Check.same("10: takes(" + train + ")", x.takes(train), -1);
      Check.same("12: waited(" + train + ")", x.waited(train), -1);
      Check.same("13: began(" + train + ")", x.began(train), -1);
    }
    Check.refused(x, -1, 20);
  }
}

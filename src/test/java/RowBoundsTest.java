/** The bounds of a row of beginnings, and of the image. */
public final class RowBoundsTest {
  public static void main(String[] args) {
    sixteenBytes();
    eachByte();
    firstMinute();
    oneMoreThanAhead();
    exactMinutes();
    headwayOfDowns();
    neverCanAtEachPlace();
    stopsThere();
    startsAnew();
    lastMinuteThereIs();
    imageOfAll();
    imageAnew();
    imageOfOrder();
    roomByImage();
    Check.end("RowBoundsTest");
  }

  private static void judged(PushedUp x, String what, int place, int last, int... row) {
    int[] due = {place, last};
    for (int asked = 0; asked <= 1; asked++) {
      for (int i = 0; i < row.length; i++) {
        Check.same("23: byte " + i + ", " + what, x.row(row[i]), i + 1);
      }
      Check.same("24: judge(" + asked + "), " + what, x.judge(asked), due[asked]);
      Check.same("24: it has none then, " + what, x.count(6), 0);
    }
  }

  private static PushedUp eight() {
    return Check.with("p5s;e4;", "t0,500;t0,500;t0,500;t0,500;", "t0,100;t0,100;t0,100;t0,100;");
  }

  private static void sixteenBytes() {
    PushedUp x = eight();
    for (int i = 1; i <= 15; i++) {
      Check.same("23: byte " + i, x.row(4), i);
    }
    Check.same("23: the sixteenth", x.row(4), 16);
    Check.same("23: the seventeenth", x.row(4), -6);
    Check.same("27: sixteen", x.count(6), 16);
    Check.same("24: one twice", x.judge(0), 1);
    Check.same("23: room again", x.row(0), 1);
    // Four pushed ones by headway at 0 to 15, four alone at 20 to 35, till 40; then four down.
    judged(eight(), "twelve", -9, 55, 0, 1, 2, 3, 4, 5, 6, 7, 9, 9, 9, 9);
    judged(eight(), "the thirteenth can not", 12, 55, 0, 1, 2, 3, 4, 5, 6, 7, 9, 9, 9, 9, 9, 9, 9, 9);
  }

  private static void eachByte() {
    for (int v = 0; v <= 9; v++) {
      PushedUp x = eight();
      Check.same("23: row(" + v + ")", x.row(v), 1);
      Check.same("24: byte " + v, x.judge(0), v < 8 ? -9 : 0);
      x.row(v);
      Check.same("24: byte " + v, x.judge(1), v < 8 ? 0 : -9);
    }
    PushedUp x = Check.with("p5s;t0,1;t0,1;");
    judged(x, "the last train", -9, 0, 1);
    judged(x, "the first that there is not", 0, -9, 2);
    judged(x, "train 8 never is", 0, -9, 8);
  }

  private static void firstMinute() {
    PushedUp x = Check.with("p5s;e1;t0,1;t1,500;t600,999;");
    judged(x, "at 0", -9, 0, 0);
    judged(x, "when it comes", -9, 1, 1);
    judged(x, "at the last coming", -9, 600, 2);
    x.set(5, 60);
    judged(x, "no headway at first", -9, 1, 1);
    judged(x, "by headway then", -9, 61, 1, 0);
  }

  private static void oneMoreThanAhead() {
    PushedUp x = Check.with("e2;t0,500;t0,500;t0,100;");
    x.set(3, 0);
    x.set(4, 0);
    x.set(5, 1);
    judged(x, "up and down, which take nothing", -9, 1, 0, 9);
    judged(x, "up again", -9, 2, 0, 9, 1);
    judged(x, "and down again", -9, 3, 0, 9, 1, 9);
    judged(x, "up two and down two", -9, 3, 0, 1, 9, 9);
    x = Check.with("p5d;e1;t0,500;t10,100;");
    judged(x, "beside the train that begins at 10", -9, 11, 0, 1, 9);
    judged(x, "beside the engine that begins at 10", -9, 11, 0, 9, 1);
    x = Check.with("p5d;e1;t0,500;t9,100;");
    judged(x, "the train begins at 9", -9, 10, 0, 1, 9);
  }

  private static void exactMinutes() {
    PushedUp x = Check.with("p5s;e2;t0,500;t0,700;t0,100;t16,100;");
    judged(x, "down at the top", -9, 10, 0, 9);
    judged(x, "divided when the other is done", -9, 10, 0, 1);
    judged(x, "divided when down is done", -9, 15, 0, 9, 1);
    judged(x, "up when down is done", -9, 15, 0, 9, 2);
    judged(x, "up when it comes later", -9, 16, 0, 9, 3);
    judged(x, "down when divided is done", -9, 25, 1, 9);
    judged(x, "up when divided is done", -9, 25, 1, 2);
    judged(x, "down when all are done", -9, 10, 0, 2, 9);
    x.makeDouble(0, true);
    judged(x, "double: up in the next minute", -9, 11, 0, 9, 2);
    judged(x, "double: divided when down is done", -9, 15, 0, 9, 1);
    judged(x, "double: down when divided is done", -9, 25, 1, 9);
    Check.line(x, "e1;");
    judged(x, "pushed when its engine is at the foot", -9, 15, 0, 9, 1);
    judged(x, "pushed without its engine", 1, 0, 0, 1);
  }

  private static void headwayOfDowns() {
    PushedUp x = Check.with("p5d;e2;t0,500;t0,500;t0,1;");
    judged(x, "both down, by headway", -9, 15, 0, 1, 9, 9);
    judged(x, "late, by headway 5", -9, 16, 0, 1, 2, 9, 9);
    x.set(5, 8);
    // Up at 0, 8 and 16; down at 17 and 25. By headway 60 up at 0, 60, 120; down at 121 and 181.
    judged(x, "late, by headway 8", -9, 25, 0, 1, 2, 9, 9);
    x.set(5, 60);
    judged(x, "late, by headway 60", -9, 181, 0, 1, 2, 9, 9);
    // A divided one between them: down at 10, divided from 16 to 41, then down by its end.
    x = Check.with("p5d;e2;t0,500;t16,700;");
    judged(x, "down after a divided one", -9, 41, 0, 9, 1, 9);
    x.set(5, 40);
    judged(x, "down after a divided one, by headway 40", -9, 65, 0, 9, 1, 9);
    x.set(5, 2);
    judged(x, "a divided one, and the engine that waited for it", -9, 43, 0, 1, 9, 9);
  }

  private static void neverCanAtEachPlace() {
    for (int wrong = 0; wrong < 8; wrong++) {
      PushedUp x = eight();
      for (int i = 0; i < 8; i++) {
        x.row(i == wrong ? 8 : i);
      }
      Check.same("24: the place " + wrong, x.judge(0), wrong);
      for (int i = 0; i < 8; i++) {
        x.row(i == wrong ? 8 : i);
      }
      Check.same("24: the last before " + wrong, x.judge(1), wrong == 0 ? -9 : 5 * (wrong - 1));
    }
    PushedUp x = eight();
    x.set(0, 99);
    x.set(1, 249);
    // Of kind 3 is 500, of kind 1 is 100.
    judged(x, "kind 3 at once", 0, -9, 0);
    judged(x, "kind 3 behind", 2, 5, 4, 5, 0, 6);
    judged(x, "one twice at once", 1, 0, 4, 4);
    judged(x, "one twice apart", 3, 10, 4, 5, 6, 4);
    judged(x, "a fifth engine", 2, 10, 4, 9, 9);
    Check.line(x, "e0;");
    judged(x, "no engines, pushed", 0, -9, 4);
    judged(x, "no engines, down", 0, -9, 9);
  }

  /** What stands behind the first that never can is not looked at. */
  private static void stopsThere() {
    judged(eight(), "what follows begins no more", 1, 0, 4, 8, 5, 6);
    judged(eight(), "the first is told", 0, -9, 9, 4, 5, 8);
  }

  private static void startsAnew() {
    PushedUp x = Check.with("p5s;e1;t0,500;t7,100;");
    judged(x, "once", -9, 10, 0, 9);
    judged(x, "nothing of it is left", -9, 0, 0);
    judged(x, "no engine is at the top", 0, -9, 9);
    int all = x.allWaited();
    judged(x, "a day does nothing to a row", -9, 7, 1);
    Check.same("24: a row does nothing to a day", x.allWaited(), all);
    Check.same("24: nothing is counted", x.count(12), 0);
    x.row(0);
    x.row(9);
    x.makeDouble(0, true);
    x.set(3, 20);
    Check.same("24: by the line as it is now", x.judge(1), 27);
  }

  /**
   * Minute 9999 is farther than any row goes: 16 beginnings, each as slow as can be, are eight
   * divided ones that all come at 600, of 215 minutes up and 45 down. All of them can.
   */
  private static void lastMinuteThereIs() {
    PushedUp x = Check.with("p9s;p9s;p9s;p9s;p9s;e1;", "t600,999;t600,999;t600,999;t600,999;",
        "t600,999;t600,999;t600,999;t600,999;");
    x.set(3, 20);
    x.set(4, 20);
    x.set(5, 60);
    judged(x, "beyond the last minute of a day", -9, 1640, 0, 9, 1, 9, 2, 9, 3, 9, 4);
    judged(x, "the longest", -9, 2635, 0, 9, 1, 9, 2, 9, 3, 9, 4, 9, 5, 9, 6, 9, 7, 9);
    x.makeDouble(0, true);
    judged(x, "the longest, double", -9, 2635, 0, 9, 1, 9, 2, 9, 3, 9, 4, 9, 5, 9, 6, 9, 7, 9);
    judged(x, "without its engine, however long", 1, 600, 0, 1);
  }

  private static void imageOfAll() {
    PushedUp x = Check.with("p1s;p2d;p3s;p4d;p5s;e4;", "t0,1;t1,2;t2,3;t3,4;", "t4,5;t5,6;t600,7;t7,999;");
    x.order(8, 41360725);
    int[] settings = {999, 998, 90, 20, 19, 60, 1, 3, 1};
    for (int what = 0; what < settings.length; what++) {
      x.set(what, settings[what]);
    }
    int[] began = new int[8];
    for (int i = 0; i < 8; i++) {
      began[i] = x.began(i);
    }
    Check.same("25: all eight", x.image(), 8);
    for (int i = 0; i < 5; i++) {
      Check.same("7: it changes", x.makeDouble(i, i % 2 == 0), 1);
    }
    Check.line(x, "e0;");
    x.order(8, 1234567);
    int[] others = {1, 1, 0, 0, 0, 1, 0, 0, 0};
    for (int what = 0; what < others.length; what++) {
      x.set(what, others[what]);
    }
    Check.same("26: all eight", x.on(), 8);
    Check.began(x, "26: the day is as then", began);
    for (int i = 0; i < 5; i++) {
      Check.same("26: minutes", x.piece(i, 0), i + 1);
      Check.same("26: double", x.piece(i, 1), i % 2);
    }
    Check.same("26: engines", x.count(2), 4);
    Check.same("26: order", x.count(5), 8);
    Check.same("26: comes", x.train(6, 0), 600);
    Check.same("26: weight", x.train(7, 1), 999);
    for (int what = 0; what < settings.length; what++) {
      Check.same("26: setting " + what, x.set(what, settings[what]), settings[what]);
    }
  }

  private static void imageAnew() {
    PushedUp x = Check.with("p1s;t0,1;");
    Check.same("25: the first", x.image(), 1);
    Check.line(x, "p2d;t0,2;");
    Check.same("25: the second", x.image(), 2);
    Check.line(x, "t0,3;");
    Check.same("26: the second holds", x.on(), 2);
    Check.same("26: its pieces", x.count(0), 2);
    x.makeDouble(0, true);
    x.set(5, 60);
    Check.same("26: what comes later is not in it", x.on(), 2);
    Check.same("26: its piece", x.piece(0, 1), 0);
    Check.same("26: its setting", x.set(5, 5), 5);
    Check.same("25: once more, unchanged", x.image(), 2);
    Check.same("26: once more, unchanged", x.on(), 2);
    Check.refused(x, -3, 0);
  }

  private static void imageOfOrder() {
    PushedUp x = Check.with("p5d;t0,1;t0,1;t0,1;");
    x.set(7, 3);
    x.order(3, 12);
    Check.began(x, "26: told 2, 1, 0", 10, 5, 0);
    x.image();
    x.order(3, 201);
    Check.began(x, "26: told 1, 0, 2", 5, 0, 10);
    x.on();
    Check.began(x, "26: the order is as then", 10, 5, 0);
    x.order(0, 0);
    x.image();
    x.order(1, 2);
    x.on();
    Check.same("26: none in the order", x.count(5), 0);
    Check.began(x, "26: none in the order", 0, 5, 10);
  }

  private static void roomByImage() {
    PushedUp x = new PushedUp();
    x.image();
    Check.line(x, "p1s;p1s;p1s;p1s;p1s;e4;");
    Check.line(x, "t0,1;t0,1;t0,1;t0,1;t0,1;t0,1;t0,1;t0,1;");
    x.order(8, 76543210);
    Check.same("3: no room", Check.line(x, "p1s;"), -2000);
    Check.same("26: on from nothing", x.on(), 0);
    Check.same("26: no order", x.count(5), 0);
    Check.same("26: no train", x.train(0, 0), -1);
    Check.same("26: no piece", x.piece(0, 0), -1);
    Check.same("3: room again", Check.line(x, "p1s;p1s;p1s;p1s;p1s;e4;"), 6);
    Check.same("3: room again", Check.line(x, "t0,1;t0,1;t0,1;t0,1;t0,1;t0,1;t0,1;t0,1;"), 8);
  }
}

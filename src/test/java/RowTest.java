/** Promises 24 to 26: rows of beginnings, and the image. */
public final class RowTest {
  public static void main(String[] args) {
    refused();
    neverCan();
    minutes();
    farAhead();
    image();
    imageKeepsOnlyItsOwn();
    Check.end("RowTest");
  }

  private static void judged(PushedUp x, String what, int place, int last, int... row) {
    for (int v : row) {
      x.row(v);
    }
    Check.same("24: judge(0), " + what, x.judge(0), place);
    Check.same("24: the row has none, " + what, x.count(6), 0);
    for (int v : row) {
      x.row(v);
    }
    Check.same("24: judge(1), " + what, x.judge(1), last);
    Check.same("24: the row has none, " + what, x.count(6), 0);
  }

  private static void refused() {
    PushedUp x = Check.with("t0,1;");
    x.row(7);
    Check.same("24: judge(2)", x.judge(2), -2);
    Check.same("24: judge(-1)", x.judge(-1), -2);
    Check.same("24: it stays", x.count(6), 1);
    Check.refused(x, -2, 2);
    Check.same("24: judge(0)", x.judge(0), 0);
    Check.same("24: of no bytes", x.judge(0), -9);
    Check.same("24: of no bytes", x.judge(1), -9);
    Check.same("23: a new row", x.row(0), 1);
  }

  private static void neverCan() {
    PushedUp x = Check.with("p5s;e1;t0,100;t7,500;t9,999;");
    x.set(1, 499);
    judged(x, "kind 3", 1, 0, 0, 2);
    judged(x, "no such train", 1, 7, 1, 3);
    judged(x, "number 8", 0, -9, 8);
    judged(x, "one twice", 1, 0, 0, 0, 1);
    judged(x, "no engine at the top", 0, -9, 9, 0);
    judged(x, "no engine at the top any more", 2, 32, 1, 9, 9);
    x.set(1, 500);
    judged(x, "no engine at the foot", 1, 7, 1, 2);
    judged(x, "an engine at the foot again", -9, 22, 1, 9, 2);
    Check.line(x, "e0;");
    judged(x, "no engine", 0, -9, 1);
  }

  private static void minutes() {
    PushedUp x = Check.with("p5s;e1;t0,100;t7,500;t9,700;t2,50;");
    judged(x, "each alone", -9, 0, 0);
    judged(x, "when it comes", -9, 9, 2);
    judged(x, "by headway", -9, 5, 0, 3);
    judged(x, "down when none goes up any more", -9, 17, 1, 3, 9);
    x.makeDouble(0, true);
    x.set(5, 1);
    judged(x, "one minute more", -9, 8, 1, 3);
    judged(x, "down beside what goes up", -9, 17, 1, 0, 9);
    judged(x, "divided when nothing is under way", -9, 22, 1, 9, 2);
    judged(x, "nothing while one is divided", -9, 34, 2, 3);
    judged(x, "down when it is done", -9, 34, 2, 9);
  }

  private static void farAhead() {
    PushedUp x = Check.with("p9s;p9s;p9s;p9s;p9s;e1;", "t600,999;t600,999;t600,999;t600,999;",
        "t600,999;t600,999;t600,999;t600,999;");
    x.set(3, 20);
    x.set(4, 20);
    judged(x, "beyond the day", -9, 600 + 8 * 260 - 45, 0, 9, 1, 9, 2, 9, 3, 9, 4, 9, 5, 9, 6, 9, 7, 9);
  }

  private static void image() {
    PushedUp x = Check.with("p5s;e1;t0,500;t1,500;");
    Check.same("26: none yet", x.on(), -3);
    Check.refused(x, -3, 1);
    x.order(1, 1);
    x.set(8, 1);
    Check.same("25: image()", x.image(), 2);
    Check.line(x, "p3d;e4;t9,9;");
    x.order(3, 210);
    x.makeDouble(0, true);
    x.set(0, 999);
    x.set(8, 0);
    Check.same("26: on()", x.on(), 2);
    Check.same("26: pieces", x.count(0), 1);
    Check.same("26: single", x.piece(0, 1), 0);
    Check.same("26: trains", x.count(1), 2);
    Check.same("26: engines", x.count(2), 1);
    Check.same("26: order", x.count(5), 1);
    Check.same("26: no train more", x.train(2, 0), -1);
    Check.same("26: setting 0", x.set(0, 300), 300);
    Check.same("26: setting 8", x.set(8, 0), 1);
    x.set(7, 3);
    x.set(5, 1);
    Check.began(x, "26: the order is as then", 0, 15);
    Check.same("26: again", x.on(), 2);
    Check.same("26: setting 7", x.set(7, 0), 0);
  }

  private static void imageKeepsOnlyItsOwn() {
    PushedUp x = new PushedUp();
    Check.same("25: of nothing", x.image(), 0);
    Check.line(x, "p5s;t0,500;t1,500;e1;");
    x.feed(3, 0L);
    x.row(0);
    x.row(1);
    x.set(9, 9);
    Check.same("26: nothing", x.on(), 0);
    Check.same("26: no pieces", x.count(0), 0);
    Check.same("26: no engines", x.count(2), 0);
    Check.same("26: the tape stays", x.count(7), 3);
    Check.same("26: the row stays", x.count(6), 2);
    Check.refused(x, -2, 1);
    Check.same("24: its train is gone", x.judge(0), 0);
    Check.same("25: image()", x.image(), 0);
  }
}

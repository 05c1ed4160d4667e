/** Promises 1 to 8 and 23, 27: what is told to the object, and what it says of it. */
public final class LineTest {
  public static void main(String[] args) {
    newObject();
    feed();
    lineForms();
    lineSense();
    linesComeOneAfterAnother();
    piece();
    train();
    set();
    makeDouble();
    order();
    rowAndCounts();
    Check.end("LineTest");
  }

  private static void newObject() {
    PushedUp x = new PushedUp();
    for (int what = 0; what <= 7; what++) {
      Check.same("1: count(" + what + ")", x.count(what), 0);
    }
    for (int what = 11; what <= 16; what++) {
      Check.same("1: count(" + what + ")", x.count(what), 0);
    }
    int[] first = {300, 600, 20, 3, 2, 5, 0, 0, 0};
    for (int what = 0; what < first.length; what++) {
      Check.same("1: setting " + what, x.set(what, first[what]), first[what]);
    }
    Check.same("1: base()", x.base(), 0);
    Check.same("1: piece(0, 0)", x.piece(0, 0), -1);
    Check.same("1: train(0, 0)", x.train(0, 0), -1);
    Check.same("1: on()", x.on(), -3);
  }

  private static void feed() {
    PushedUp x = new PushedUp();
    Check.same("2: feed(0, 1)", x.feed(0, 1L), -4);
    Check.same("2: feed(MIN, 1)", x.feed(Integer.MIN_VALUE, 1L), -4);
    Check.same("2: feed(9, 1)", x.feed(9, 1L), -6);
    Check.same("2: feed(MAX, 1)", x.feed(Integer.MAX_VALUE, 1L), -6);
    Check.same("2: nothing came", x.count(7), 0);
    Check.same("2: only the lowest", x.feed(1, Check.packed("e9;")), 1);
    Check.same("2: behind it", x.feed(2, Check.packed("3;xxxxxx")), 3);
    Check.same("2: lowest first", x.line(), 1);
    Check.same("2: as fed", x.count(2), 3);
    for (int i = 1; i <= 5; i++) {
      Check.same("2: feed(8)", x.feed(8, 0L), 8 * i);
    }
    Check.same("2: feed(7)", x.feed(7, 0L), 47);
    Check.same("2: above 48", x.feed(2, 0L), -6);
    Check.same("2: refused changes nothing", x.count(7), 47);
    Check.same("2: 48", x.feed(1, 0L), 48);
    Check.same("2: 49", x.feed(1, 0L), -6);
    Check.refused(x, -4, 2);
    Check.refused(x, -6, 4);
    Check.same("2: a byte of high number", x.line(), -1000);
    x.feed(4, 0xFFB37065L);
    Check.same("2: signs above 127 are no letters", x.line(), -1001);
  }

  private static void form(String text, int place) {
    PushedUp x = Check.with("p2d;e2;t7,8;");
    Check.same("3: line of " + text, Check.line(x, text), -1000 - place);
    Check.same("3: the tape has none", x.count(7), 0);
    asBefore(x);
  }

  private static void sense(String text, int place) {
    PushedUp x = Check.with("p2d;e2;t7,8;");
    Check.same("3: line of " + text, Check.line(x, text), -2000 - place);
    Check.same("3: the tape has none", x.count(7), 0);
    asBefore(x);
  }

  private static void asBefore(PushedUp x) {
    Check.same("3: pieces", x.count(0), 1);
    Check.same("3: trains", x.count(1), 1);
    Check.same("3: engines", x.count(2), 2);
    for (int what = 11; what <= 16; what++) {
      Check.same("3: nothing is counted", x.count(what), 0);
    }
  }

  private static void lineForms() {
    form("", 0);
    form("x", 0);
    form(";", 0);
    form("P1s;", 0);
    form("p", 1);
    form("pa", 1);
    form("p1", 2);
    form("p12s;", 2);
    form("p1S;", 2);
    form("p1s", 3);
    form("p1ss", 3);
    form("p1s;;", 4);
    form("p1s; p1s;", 4);
    form("e", 1);
    form("e;", 1);
    form("e12;", 2);
    form("e1", 2);
    form("t", 1);
    form("t,1;", 1);
    form("t-1,1;", 1);
    form("t12", 3);
    form("t1234,5;", 4);
    form("t123,", 5);
    form("t123,;", 5);
    form("t123,1234;", 8);
    form("t123,123", 8);
    form("t123,12,", 7);
    form("e1;t1,1;q", 8);
    form("p0s;e9;t1", 9);
    form("p1s;p1s;p1s;p1s;p1s;p1s;p1s;p1s;p1s;p1s;p1s;p1s", 47);
  }

  private static void lineSense() {
    sense("p0s;", 0);
    sense("p0d;", 0);
    sense("e5;", 0);
    sense("e1;e9;", 3);
    sense("t601,1;", 0);
    sense("t999,1;", 0);
    sense("t0,0;", 0);
    sense("t0,000;", 0);
    sense("t0,1;p0s;t0,0;", 5);
    sense("p1s;p1s;p1s;p1s;p1s;", 16);
    sense("t0,1;t0,1;t0,1;t0,1;t0,1;t0,1;t0,1;t0,1;", 35);
    PushedUp x = Check.with("p1s;p9d;t0,1;t600,999;t000,001;t07,010;e4;e0;e4;");
    Check.same("3: at the edges", x.count(1), 4);
    Check.same("3: the last number of engines", x.count(2), 4);
    Check.same("3: how many", Check.line(x, "p2s;e1;t1,1;"), 3);
  }

  private static void linesComeOneAfterAnother() {
    PushedUp x = Check.with("p1s;p2d;e3;t1,2;", "t3,4;p3s;");
    Check.same("3: pieces more", x.count(0), 3);
    Check.same("3: trains more", x.count(1), 2);
    Check.same("3: engines stay", x.count(2), 3);
    Check.same("3: the newest behind", x.train(1, 0), 3);
    Check.same("3: room for two", Check.line(x, "p1s;p1s;p1s;"), -2008);
    Check.same("3: two", Check.line(x, "p1s;p1s;"), 2);
    Check.same("3: no room", Check.line(x, "p1s;"), -2000);
    Check.same("3: six trains", Check.line(x, "t0,1;t0,1;t0,1;t0,1;t0,1;t0,1;"), 6);
    Check.same("3: no room", Check.line(x, "e1;t0,1;"), -2003);
    Check.same("3: nothing of it comes", x.count(2), 3);
  }

  private static void piece() {
    PushedUp x = Check.with("p4s;p7d;");
    Check.same("4: piece(0, 0)", x.piece(0, 0), 4);
    Check.same("4: piece(0, 1)", x.piece(0, 1), 0);
    Check.same("4: piece(1, 0)", x.piece(1, 0), 7);
    Check.same("4: piece(1, 1)", x.piece(1, 1), 1);
    Check.same("4: piece(2, 0)", x.piece(2, 0), -1);
    Check.same("4: piece(-1, 0)", x.piece(-1, 0), -1);
    Check.same("4: piece(2, 2)", x.piece(2, 2), -1);
    Check.same("4: piece(MIN, 0)", x.piece(Integer.MIN_VALUE, 0), -1);
    Check.same("4: piece(MAX, 0)", x.piece(Integer.MAX_VALUE, 0), -1);
    Check.same("4: piece(0, 2)", x.piece(0, 2), -2);
    Check.same("4: piece(0, -1)", x.piece(0, -1), -2);
    Check.refused(x, -1, 5);
    Check.refused(x, -2, 2);
  }

  private static void train() {
    PushedUp x = Check.with("t5,70;t600,999;");
    Check.same("5: train(0, 0)", x.train(0, 0), 5);
    Check.same("5: train(0, 1)", x.train(0, 1), 70);
    Check.same("5: train(1, 0)", x.train(1, 0), 600);
    Check.same("5: train(1, 1)", x.train(1, 1), 999);
    Check.same("5: train(2, 0)", x.train(2, 0), -1);
    Check.same("5: train(-1, 5)", x.train(-1, 5), -1);
    Check.same("5: train(8, 0)", x.train(8, 0), -1);
    Check.same("5: train(1, 2)", x.train(1, 2), -2);
    Check.same("5: train(1, MIN)", x.train(1, Integer.MIN_VALUE), -2);
    Check.refused(x, -1, 3);
    Check.refused(x, -2, 2);
  }

  private static void set() {
    PushedUp x = new PushedUp();
    int[] first = {300, 600, 20, 3, 2, 5, 0, 0, 0};
    int[] least = {1, 1, 0, 0, 0, 1, 0, 0, 0};
    int[] most = {999, 999, 90, 20, 20, 60, 1, 3, 1};
    for (int what = 0; what < first.length; what++) {
      Check.same("6: below " + what, x.set(what, least[what] - 1), -4);
      Check.same("6: far below " + what, x.set(what, Integer.MIN_VALUE), -4);
      Check.same("6: above " + what, x.set(what, most[what] + 1), -6);
      Check.same("6: far above " + what, x.set(what, Integer.MAX_VALUE), -6);
      Check.same("6: the least " + what, x.set(what, least[what]), first[what]);
      Check.same("6: the greatest " + what, x.set(what, most[what]), least[what]);
      Check.same("6: as before " + what, x.set(what, first[what]), most[what]);
    }
    Check.same("6: set(9, 0)", x.set(9, 0), -2);
    Check.same("6: set(-1, -5)", x.set(-1, -5), -2);
    Check.same("6: set(MAX, 0)", x.set(Integer.MAX_VALUE, 0), -2);
    Check.refused(x, -4, 18);
    Check.refused(x, -6, 18);
    Check.refused(x, -2, 3);
  }

  private static void makeDouble() {
    PushedUp x = Check.with("p4s;p7d;");
    Check.same("7: single stays", x.makeDouble(0, false), 0);
    Check.same("7: becomes double", x.makeDouble(0, true), 1);
    Check.same("7: is double", x.piece(0, 1), 1);
    Check.same("7: none is single", x.count(3), 0);
    Check.same("7: double stays", x.makeDouble(1, true), 0);
    Check.same("7: becomes single", x.makeDouble(1, false), 1);
    Check.same("7: is single", x.piece(1, 1), 0);
    Check.same("7: one is single", x.count(3), 1);
    Check.same("7: makeDouble(2)", x.makeDouble(2, true), -1);
    Check.same("7: makeDouble(-1)", x.makeDouble(-1, true), -1);
    Check.refused(x, -1, 2);
  }

  private static void order() {
    PushedUp x = Check.with("t0,1;t0,1;t0,1;t0,1;t0,1;t0,1;t0,1;t0,1;");
    Check.same("8: order(8)", x.order(8, 76543210), 0);
    Check.same("8: eight", x.count(5), 8);
    Check.same("8: order(9)", x.order(9, 76543210), -6);
    Check.same("8: order(-1)", x.order(-1, 0), -4);
    Check.same("8: order(MIN)", x.order(Integer.MIN_VALUE, 0), -4);
    Check.same("8: no such train", x.order(1, 8), -1);
    Check.same("8: no such train behind", x.order(3, 912), -1);
    Check.same("8: one twice", x.order(3, 121), -1);
    Check.same("8: nothing is digit 0", x.order(3, 12), 8);
    Check.same("8: digit 0 twice", x.order(4, 12), -1);
    Check.same("8: further digits count nothing", x.order(2, 9921), 3);
    Check.same("8: below 0", x.order(1, -1), -1);
    Check.same("8: least number", x.order(8, Integer.MIN_VALUE), -1);
    Check.same("8: greatest number", x.order(8, Integer.MAX_VALUE), -1);
    Check.same("8: none", x.order(0, 99), 2);
    Check.same("8: none in it", x.count(5), 0);
    Check.refused(x, -1, 7);
    Check.refused(x, -4, 2);
    Check.refused(x, -6, 1);
  }

  private static void rowAndCounts() {
    PushedUp x = Check.with("p4s;p7d;p1s;e2;t0,100;t0,700;");
    Check.same("23: row(-1)", x.row(-1), -4);
    Check.same("23: row(10)", x.row(10), -6);
    for (int i = 1; i <= 16; i++) {
      Check.same("23: row", x.row(i % 10), i);
    }
    Check.same("23: no room", x.row(0), -6);
    Check.same("23: below comes first", x.row(-1), -4);
    Check.same("23: no room and above", x.row(10), -6);
    Check.same("27: bytes of the row", x.count(6), 16);
    Check.same("27: pieces", x.count(0), 3);
    Check.same("27: trains", x.count(1), 2);
    Check.same("27: engines", x.count(2), 2);
    Check.same("27: single pieces", x.count(3), 2);
    Check.same("27: trains that begin", x.count(4), 2);
    x.set(1, 349);
    Check.same("27: one of kind 3 does not", x.count(4), 1);
    x.order(1, 1);
    Check.same("27: in the order", x.count(5), 1);
    x.feed(3, 0L);
    Check.same("27: on the tape", x.count(7), 3);
    x.piece(5, 0);
    x.set(9, 0);
    x.on();
    Check.refused(x, -1, 1);
    Check.refused(x, -2, 1);
    Check.refused(x, -3, 1);
    Check.refused(x, -4, 2);
    Check.refused(x, -5, 0);
    Check.refused(x, -6, 3);
    int[] others = {-1, 8, 9, 10, 17, Integer.MIN_VALUE, Integer.MAX_VALUE};
    for (int what : others) {
      Check.same("27: count(" + what + ")", x.count(what), -9);
    }
    Check.refused(x, -2, 1);
  }
}

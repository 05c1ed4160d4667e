/**
 * Every refusal of every call: the number, the count that grows, and that nothing else changes;
 * the first of several that fit; and what is no refusal, so that nothing at all is counted.
 */
public final class RefusalTest {
  private static final int MIN = Integer.MIN_VALUE;
  private static final int MAX = Integer.MAX_VALUE;

  private interface Host {
    PushedUp make();
  }

  private interface Call {
    int on(PushedUp x);
  }

  public static void main(String[] args) {
    feed();
    piece();
    train();
    set();
    makeDouble();
    order();
    ofTrains();
    best();
    fewestEdgeChance();
    row();
    judge();
    on();
    severalInOneObject();
    noRefusals();
    faults();
    Check.end("RefusalTest");
  }

  /** Two pieces, three trains, and something in every place that a refusal could change. */
  private static PushedUp some() {
    PushedUp x = Check.with("p5s;p2d;e1;", "t0,500;t0,100;");
    x.order(2, 1);
    x.set(7, 3);
    x.image();
    Check.line(x, "e2;t0,500;p1d;");
    x.order(3, 12);
    x.set(8, 1);
    x.row(0);
    x.row(9);
    x.row(9);
    Check.feed(x, "e3;p9d;");
    return x;
  }

  /** All room is taken: 5 pieces, 8 trains, 48 bytes on the tape, 16 bytes of the row. */
  private static PushedUp full() {
    PushedUp x = Check.with("p1s;p2d;p3s;p4d;p5s;e4;", "t0,500;t0,100;t0,700;t0,200;", "t9,90;t9,91;t9,92;t9,93;");
    x.order(8, 1234567);
    x.image();
    for (int i = 0; i < 16; i++) {
      x.row(i < 8 ? i : 9);
    }
    Check.feed(x, "e0;e1;e2;e3;e4;e3;e2;e1;e0;e1;e2;e3;e4;e3;e2;e1;");
    return x;
  }

  private static PushedUp untouched() {
    return new PushedUp();
  }

  private static void counted(String what, int due, Host host, Call call) {
    for (int judged = 0; judged <= 1; judged++) {
      PushedUp x = host.make();
      int[] before = new int[7];
      for (int i = 1; i <= 6; i++) {
        before[i] = x.count(10 + i);
      }
      Check.same(what, call.on(x), due);
      for (int i = 1; i <= 6; i++) {
        Check.same(what + ": count(" + (10 + i) + ")", x.count(10 + i), before[i] + (i == -due ? 1 : 0));
      }
      Check.holds(what + ": nothing else changes", Readout.of(x, judged).equals(Readout.of(host.make(), judged)));
    }
  }

  private static void refused(String what, int number, Call call) {
    counted(what, number, RefusalTest::some, call);
  }

  private static void refusedIfFull(String what, int number, Call call) {
    counted(what + ", all room taken", number, RefusalTest::full, call);
  }

  private static void feed() {
    for (int n : new int[] {0, -1, MIN}) {
      refused("2: feed(" + n + ")", -4, x -> x.feed(n, 0x3b3165L));
      refusedIfFull("2: feed(" + n + "), -4 before -6", -4, x -> x.feed(n, 0x3b3165L));
    }
    for (int n : new int[] {9, 10, 48, MAX}) {
      refused("2: feed(" + n + ")", -6, x -> x.feed(n, 0x3b3165L));
    }
    for (int n : new int[] {1, 8, 9, MAX}) {
      refusedIfFull("2: feed(" + n + ")", -6, x -> x.feed(n, 0x3b3165L));
    }
  }

  private static void piece() {
    for (int piece : new int[] {3, 4, 5, -1, MIN, MAX}) {
      refused("4: piece(" + piece + ", 0)", -1, x -> x.piece(piece, 0));
      refused("4: piece(" + piece + ", 1)", -1, x -> x.piece(piece, 1));
      refused("4: piece(" + piece + ", 2), -1 before -2", -1, x -> x.piece(piece, 2));
      refused("4: piece(" + piece + ", -1), -1 before -2", -1, x -> x.piece(piece, -1));
    }
    refusedIfFull("4: piece(5, 0)", -1, x -> x.piece(5, 0));
    for (int what : new int[] {2, -1, MIN, MAX}) {
      refused("4: piece(0, " + what + ")", -2, x -> x.piece(0, what));
      refused("4: piece(2, " + what + ")", -2, x -> x.piece(2, what));
    }
  }

  private static void train() {
    for (int train : new int[] {3, 7, 8, -1, MIN, MAX}) {
      refused("5: train(" + train + ", 0)", -1, x -> x.train(train, 0));
      refused("5: train(" + train + ", 1)", -1, x -> x.train(train, 1));
      refused("5: train(" + train + ", 2), -1 before -2", -1, x -> x.train(train, 2));
      refused("5: train(" + train + ", -1), -1 before -2", -1, x -> x.train(train, -1));
    }
    refusedIfFull("5: train(8, 0)", -1, x -> x.train(8, 0));
    for (int what : new int[] {2, -1, MIN, MAX}) {
      refused("5: train(0, " + what + ")", -2, x -> x.train(0, what));
      refused("5: train(2, " + what + ")", -2, x -> x.train(2, what));
    }
  }

  private static void set() {
    for (int what : new int[] {9, -1, MIN, MAX}) {
      refused("6: set(" + what + ", 1)", -2, x -> x.set(what, 1));
      refused("6: set(" + what + ", MIN), -2 before -4", -2, x -> x.set(what, MIN));
      refused("6: set(" + what + ", MAX), -2 before -6", -2, x -> x.set(what, MAX));
    }
    int[] below = {0, 0, -1, -1, -1, 0, -1, -1, -1};
    int[] above = {1000, 1000, 91, 21, 21, 61, 2, 4, 2};
    for (int i = 0; i < below.length; i++) {
      int what = i;
      refused("6: set(" + what + ", " + below[i] + ")", -4, x -> x.set(what, below[what]));
      refused("6: set(" + what + ", MIN)", -4, x -> x.set(what, MIN));
      refused("6: set(" + what + ", " + above[i] + ")", -6, x -> x.set(what, above[what]));
      refused("6: set(" + what + ", MAX)", -6, x -> x.set(what, MAX));
    }
  }

  private static void makeDouble() {
    for (int piece : new int[] {3, 4, 5, -1, MIN, MAX}) {
      refused("7: makeDouble(" + piece + ", true)", -1, x -> x.makeDouble(piece, true));
      refused("7: makeDouble(" + piece + ", false)", -1, x -> x.makeDouble(piece, false));
    }
    refusedIfFull("7: makeDouble(5, true)", -1, x -> x.makeDouble(5, true));
  }

  private static void order() {
    for (int n : new int[] {-1, MIN}) {
      refused("8: order(" + n + ", 0)", -4, x -> x.order(n, 0));
      refused("8: order(" + n + ", 99), -4 before -1", -4, x -> x.order(n, 99));
    }
    for (int n : new int[] {9, 10, MAX}) {
      refused("8: order(" + n + ", 0)", -6, x -> x.order(n, 0));
      refused("8: order(" + n + ", 99), -6 before -1", -6, x -> x.order(n, 99));
      refusedIfFull("8: order(" + n + ", 12345678), -6 before -1", -6, x -> x.order(n, 12345678));
    }
    refused("8: no such train, 3", -1, x -> x.order(1, 3));
    refused("8: no such train, 9", -1, x -> x.order(1, 9));
    refused("8: no such train in the middle", -1, x -> x.order(3, 132));
    refused("8: no such train at the end", -1, x -> x.order(3, 312));
    refused("8: more than there are", -1, x -> x.order(4, 3210));
    refused("8: all eight, of three", -1, x -> x.order(8, 76543210));
    refused("8: one twice", -1, x -> x.order(2, 11));
    refused("8: nought twice, for want of digits", -1, x -> x.order(2, 0));
    refused("8: one twice apart", -1, x -> x.order(3, 212));
    refused("8: below 0", -1, x -> x.order(1, -1));
    refused("8: the least number", -1, x -> x.order(1, MIN));
    refusedIfFull("8: 8 of eight", -1, x -> x.order(1, 8));
    refusedIfFull("8: 9 of eight", -1, x -> x.order(8, 76543219));
    refusedIfFull("8: the greatest number", -1, x -> x.order(8, MAX));
    eachTwoAlike();
  }

  private static void eachTwoAlike() {
    for (int i = 0; i < 8; i++) {
      for (int j = i + 1; j < 8; j++) {
        PushedUp x = full();
        int digits = 0;
        for (int place = 7; place >= 0; place--) {
          digits = digits * 10 + (place == j ? i : place);
        }
        Check.same("8: " + i + " and " + j + " alike", x.order(8, digits), -1);
        Check.same("8: so far none is twice", x.order(j, digits), 8);
      }
    }
  }

  private static void ofTrains() {
    for (int train : new int[] {3, 7, 8, 9, -1, MIN, MAX}) {
      refused("9: climbs(" + train + ")", -1, x -> x.climbs(train));
      refused("10: takes(" + train + ")", -1, x -> x.takes(train));
      refused("12: waited(" + train + ")", -1, x -> x.waited(train));
      refused("13: began(" + train + ")", -1, x -> x.began(train));
    }
    refusedIfFull("9: climbs(8)", -1, x -> x.climbs(8));
    refusedIfFull("10: takes(8)", -1, x -> x.takes(8));
    refusedIfFull("12: waited(8)", -1, x -> x.waited(8));
    refusedIfFull("13: began(8)", -1, x -> x.began(8));
  }

  private static void best() {
    for (int i : new int[] {-2, -3, MIN}) {
      refused("16: best(" + i + ")", -4, x -> x.best(i));
      refusedIfFull("16: best(" + i + "), -4 before -6", -4, x -> x.best(i));
    }
    for (int i : new int[] {-1, 0, 7, 8, MAX}) {
      refusedIfFull("16: best(" + i + "), -6 before -9", -6, x -> x.best(i));
    }
    Host six = () -> Check.with("p5s;e1;t0,500;t0,1;t0,2;", "t0,3;t0,4;t0,5;");
    counted("16: best(-1) of six", -6, six, x -> x.best(-1));
    counted("16: best(6) of six", -6, six, x -> x.best(6));
  }

  private static void fewestEdgeChance() {
    for (int most : new int[] {-1, -2, MIN}) {
      refused("17: fewest(" + most + ")", -4, x -> x.fewest(most));
    }
    for (int kind : new int[] {-1, 3, 4, MIN, MAX}) {
      refused("19: edge(" + kind + ")", -2, x -> x.edge(kind));
    }
    for (int hundredths : new int[] {-1, -2, MIN}) {
      refused("20: chance(" + hundredths + ")", -4, x -> x.chance(hundredths));
    }
    for (int hundredths : new int[] {101, 102, MAX}) {
      refused("20: chance(" + hundredths + ")", -6, x -> x.chance(hundredths));
    }
  }

  private static void row() {
    for (int v : new int[] {-1, -2, MIN}) {
      refused("23: row(" + v + ")", -4, x -> x.row(v));
      refusedIfFull("23: row(" + v + "), -4 before -6", -4, x -> x.row(v));
    }
    for (int v : new int[] {10, 11, 16, MAX}) {
      refused("23: row(" + v + ")", -6, x -> x.row(v));
    }
    for (int v : new int[] {0, 9, 10, MAX}) {
      refusedIfFull("23: row(" + v + ")", -6, x -> x.row(v));
    }
  }

  private static void judge() {
    for (int what : new int[] {-1, 2, 3, MIN, MAX}) {
      refused("24: judge(" + what + "), the row stays", -2, x -> x.judge(what));
      refusedIfFull("24: judge(" + what + "), the row stays", -2, x -> x.judge(what));
    }
    counted("24: judge(2) of an empty row", -2, RefusalTest::untouched, x -> x.judge(2));
  }

  private static void on() {
    counted("26: on() without an image", -3, RefusalTest::untouched, x -> x.on());
    counted("26: on() with a line, but without an image", -3, () -> Check.with("p5s;e1;t0,500;"), x -> x.on());
  }

  private static void severalInOneObject() {
    PushedUp x = new PushedUp();
    for (int i = 1; i <= 20; i++) {
      x.climbs(0);
      x.edge(3);
      x.on();
      x.row(-1);
      x.row(10);
      Check.same("27: -1", x.count(11), i);
      Check.same("27: -2", x.count(12), i);
      Check.same("27: -3", x.count(13), i);
      Check.same("27: -4", x.count(14), i);
      Check.same("27: there is no -5", x.count(15), 0);
      Check.same("27: -6", x.count(16), i);
    }
  }

  private static void noRefusals() {
    refusesNothing("16: best(3) of three", -9, x -> x.best(3));
    refusesNothing("16: best(MAX)", -9, x -> x.best(MAX));
    refusesNothing("17: fewest(0)", -9, x -> x.fewest(0));
    refusesNothing("18: which()", -9, x -> x.which());
    for (int what : new int[] {-1, 8, 9, 10, 17, 18, MIN, MAX}) {
      refusesNothing("27: count(" + what + ")", -9, x -> x.count(what));
    }
    Host heavy = () -> {
      PushedUp x = Check.with("p5s;e1;t0,999;");
      x.set(1, 499);
      return x;
    };
    counted("10: takes of kind 3", -9, heavy, x -> x.takes(0));
    counted("12: waited of kind 3", -9, heavy, x -> x.waited(0));
    counted("13: began of kind 3", -9, heavy, x -> x.began(0));
    counted("22: yard of no trains", -9, RefusalTest::untouched, x -> x.yard());
    counted("24: judge(0) of an empty row", -9, RefusalTest::untouched, x -> x.judge(0));
    counted("24: judge(1) of an empty row", -9, RefusalTest::untouched, x -> x.judge(1));
    counted("19: edge, none", 999, RefusalTest::untouched, x -> x.edge(2));
    refusesNothing("8: order(3, 12) again", 3, x -> x.order(3, 12));
    refusesNothing("7: it was so", 0, x -> x.makeDouble(0, false));
    refusesNothing("7: it was so", 0, x -> x.makeDouble(1, true));
  }

  private static void refusesNothing(String what, int due, Call call) {
    counted(what, due, RefusalTest::some, call);
  }

  /** A fault takes the tape away and nothing else; no count grows by it. */
  private static void faults() {
    String[] texts = {"x", "e1;x", "e", "t1,1", "p0s;", "e1;p9d;t0,0;", "e1;e5;", "t601,1;"};
    int[] due = {-1000, -1003, -1001, -1004, -2000, -2007, -2003, -2000};
    for (int i = 0; i < texts.length; i++) {
      PushedUp x = some();
      Check.same("3: the tape of the host", x.line(), 2);
      PushedUp twin = some();
      Check.same("3: the tape of the twin", twin.line(), 2);
      Check.same("3: fault of " + texts[i], Check.line(x, texts[i]), due[i]);
      Check.same("3: the tape has none", x.count(7), 0);
      for (int what = 11; what <= 16; what++) {
        Check.same("3: nothing is counted", x.count(what), 0);
      }
      Check.holds("3: nothing changes by the fault of " + texts[i], Readout.of(x, 0).equals(Readout.of(twin, 0)));
    }
  }
}

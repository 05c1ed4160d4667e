/** Nothing there yet: no line, no train, no piece, no engine, an empty tape, an empty row, no image. */
public final class NothingYetTest {
  private interface Call {
    int on(PushedUp x);
  }

  public static void main(String[] args) {
    firstCallOfAll();
    allCallsOfOne();
    onlyPieces();
    onlyTrains();
    onlyEngines();
    emptyTape();
    emptyRow();
    emptyOrder();
    noImage();
    firstQuestion();
    askedAnew();
    Check.end("NothingYetTest");
  }

  private static void first(String what, int due, Call call) {
    Check.same(what + ", the first call of all", call.on(new PushedUp()), due);
  }

  private static void firstCallOfAll() {
    first("2: feed(1)", 1, x -> x.feed(1, 0L));
    first("2: feed(8)", 8, x -> x.feed(8, -1L));
    first("3: line()", -1000, x -> x.line());
    first("4: piece(0, 0)", -1, x -> x.piece(0, 0));
    first("4: piece(0, 1)", -1, x -> x.piece(0, 1));
    first("5: train(0, 0)", -1, x -> x.train(0, 0));
    first("5: train(0, 1)", -1, x -> x.train(0, 1));
    int[] settings = {300, 600, 20, 3, 2, 5, 0, 0, 0};
    for (int i = 0; i < settings.length; i++) {
      int what = i;
      first("6: set(" + i + ", 1)", settings[i], x -> x.set(what, 1));
    }
    first("7: makeDouble(0, true)", -1, x -> x.makeDouble(0, true));
    first("7: makeDouble(0, false)", -1, x -> x.makeDouble(0, false));
    first("8: order(0, 0)", 0, x -> x.order(0, 0));
    first("8: order(1, 0)", -1, x -> x.order(1, 0));
    first("9: climbs(0)", -1, x -> x.climbs(0));
    first("10: takes(0)", -1, x -> x.takes(0));
    first("11: base()", 0, x -> x.base());
    first("12: waited(0)", -1, x -> x.waited(0));
    first("13: began(0)", -1, x -> x.began(0));
    first("14: allWaited()", 0, x -> x.allWaited());
    first("15: downs()", 0, x -> x.downs());
    first("16: best(-1)", 0, x -> x.best(-1));
    first("16: best(0)", -9, x -> x.best(0));
    first("16: best(MAX)", -9, x -> x.best(Integer.MAX_VALUE));
    first("17: fewest(0)", 0, x -> x.fewest(0));
    first("18: which()", -9, x -> x.which());
    first("19: edge(0)", 300, x -> x.edge(0));
    first("19: edge(1)", 600, x -> x.edge(1));
    first("19: edge(2)", 999, x -> x.edge(2));
    first("20: chance(0)", 0, x -> x.chance(0));
    first("20: chance(100)", 0, x -> x.chance(100));
    first("21: heaviest()", 0, x -> x.heaviest());
    first("22: yard()", -9, x -> x.yard());
    first("23: row(0)", 1, x -> x.row(0));
    first("24: judge(0)", -9, x -> x.judge(0));
    first("24: judge(1)", -9, x -> x.judge(1));
    first("25: image()", 0, x -> x.image());
    first("26: on()", -3, x -> x.on());
    for (int i = 0; i <= 16; i++) {
      int what = i;
      first("27: count(" + i + ")", i >= 8 && i <= 10 ? -9 : 0, x -> x.count(what));
    }
  }

  private static void allCallsOfOne() {
    PushedUp x = new PushedUp();
    x.allWaited();
    x.best(-1);
    x.fewest(0);
    x.which();
    x.chance(50);
    x.yard();
    x.judge(0);
    for (int what = 0; what <= 7; what++) {
      Check.same("1: looking makes nothing: count(" + what + ")", x.count(what), 0);
    }
    Check.same("1: no line", x.line(), -1000);
    Check.same("1: an image of nothing", x.image(), 0);
    Check.same("1: on from it", x.on(), 0);
    Check.same("1: no piece", x.count(0), 0);
    Check.same("1: no train", x.count(1), 0);
  }

  private static void onlyPieces() {
    PushedUp x = Check.with("p4s;p5d;");
    Check.same("11: base()", x.base(), 9);
    Check.same("27: no trains", x.count(1), 0);
    Check.same("27: no engines", x.count(2), 0);
    Check.same("5: train(0, 0)", x.train(0, 0), -1);
    Check.same("8: order(1, 0)", x.order(1, 0), -1);
    Check.same("14: allWaited()", x.allWaited(), 0);
    Check.same("15: downs()", x.downs(), 0);
    Check.same("16: best(-1)", x.best(-1), 0);
    Check.same("16: best(0)", x.best(0), -9);
    Check.same("17: fewest(0)", x.fewest(0), 0);
    Check.same("18: which(), nothing waits less", x.which(), -9);
    Check.same("20: chance(50)", x.chance(50), 0);
    Check.same("21: heaviest()", x.heaviest(), 0);
    Check.same("22: yard()", x.yard(), -9);
    Check.same("25: image()", x.image(), 0);
    Check.same("26: on()", x.on(), 0);
    Check.same("26: the pieces are there", x.base(), 9);
  }

  private static void onlyTrains() {
    PushedUp x = Check.with("t7,300;t600,301;");
    Check.same("11: base()", x.base(), 0);
    Check.same("4: piece(0, 0)", x.piece(0, 0), -1);
    Check.same("10: takes(0)", x.takes(0), 0);
    Check.same("10: takes(1), put and drop alone", x.takes(1), 5);
    Check.began(x, "13: no pieces, no engines", 7, -9);
    Check.same("12: waited(0)", x.waited(0), 0);
    Check.same("12: waited(1)", x.waited(1), -9);
    Check.same("14: allWaited()", x.allWaited(), 840);
    Check.same("15: downs()", x.downs(), 0);
    Check.same("17: fewest(839)", x.fewest(839), 1);
    Check.same("18: which()", x.which(), -9);
    Check.same("21: heaviest()", x.heaviest(), 300);
    Check.same("22: yard()", x.yard(), 300);
    Check.same("27: trains that begin", x.count(4), 1);
  }

  private static void onlyEngines() {
    PushedUp x = Check.with("e4;");
    Check.same("27: engines", x.count(2), 4);
    Check.same("15: none is at the top", x.downs(), 0);
    Check.same("17: fewest(0)", x.fewest(0), 0);
    x.row(9);
    Check.same("24: none is at the top", x.judge(0), 0);
    x.row(9);
    Check.same("24: none begins", x.judge(1), -9);
    Check.same("25: image()", x.image(), 0);
    Check.line(x, "e0;");
    Check.same("26: on()", x.on(), 0);
    Check.same("26: the engines are there", x.count(2), 4);
  }

  private static void emptyTape() {
    PushedUp x = new PushedUp();
    Check.same("3: nothing fed", x.line(), -1000);
    Check.same("3: again", x.line(), -1000);
    Check.line(x, "p5s;t0,1;e2;");
    Check.same("3: the line took the tape", x.count(7), 0);
    Check.same("3: at least one statement", x.line(), -1000);
    Check.same("3: the pieces stay", x.count(0), 1);
    Check.same("3: the trains stay", x.count(1), 1);
    Check.same("3: the engines stay", x.count(2), 2);
    Check.line(x, "x");
    Check.same("3: a fault took the tape", x.line(), -1000);
    for (int what = 11; what <= 16; what++) {
      Check.same("3: nothing is counted", x.count(what), 0);
    }
  }

  private static void emptyRow() {
    PushedUp x = Check.with("p5s;t3,1;e2;");
    Check.same("24: judge(0)", x.judge(0), -9);
    Check.same("24: judge(1)", x.judge(1), -9);
    x.row(0);
    Check.same("24: judge(1) of one", x.judge(1), 3);
    Check.same("24: then it has none", x.judge(1), -9);
    Check.same("24: then it has none", x.judge(0), -9);
    Check.same("24: nothing is counted", x.count(12), 0);
  }

  private static void emptyOrder() {
    PushedUp x = Check.with("p5s;t0,1;t0,2;t0,3;");
    x.set(7, 3);
    Check.began(x, "8: none in the order, as FIRST", 0, 5, 10);
    Check.same("8: it had none", x.order(1, 2), 0);
    Check.began(x, "8: one in it", 5, 10, 0);
    Check.same("8: it had one", x.order(0, 0), 1);
    Check.began(x, "8: none again", 0, 5, 10);
    Check.same("8: it had none", x.order(0, 0), 0);
  }

  private static void noImage() {
    PushedUp x = Check.with("p5s;t0,1;e2;");
    Check.same("26: no image", x.on(), -3);
    Check.same("26: the trains stay", x.count(1), 1);
    Check.same("26: the pieces stay", x.count(0), 1);
    Check.same("26: still no image", x.on(), -3);
    Check.refused(x, -3, 2);
    Check.same("25: image()", x.image(), 1);
    Check.same("26: there is one", x.on(), 1);
    Check.same("26: and stays", x.on(), 1);
    Check.refused(x, -3, 2);
  }

  private static PushedUp day() {
    return Check.with("p5s;e1;t0,500;t1,500;t9,100;");
  }

  /** No question waits for another one: each is asked first of an object that was never asked. */
  private static void firstQuestion() {
    Check.same("12: waited(1)", day().waited(1), 18);
    Check.same("13: began(1)", day().began(1), 19);
    Check.same("14: allWaited()", day().allWaited(), 18);
    Check.same("15: downs()", day().downs(), 2);
    Check.same("16: best(-1)", day().best(-1), 18);
    Check.same("16: best(2)", day().best(2), 2);
    Check.same("17: fewest(18)", day().fewest(18), 1);
    // Two engines: they begin at 0, 5 and 10.
    Check.same("17: fewest(17)", day().fewest(17), 2);
    Check.same("17: fewest(5)", day().fewest(5), 2);
    Check.same("17: fewest(4)", day().fewest(4), -9);
    Check.same("18: which()", day().which(), 0);
    // Wet, both of 500 are divided: they begin at 0 and 30, and the third at 60.
    Check.same("20: chance(0)", day().chance(0), 1800);
    Check.same("20: chance(100)", day().chance(100), 8000);
    Check.same("20: chance(50)", day().chance(50), 4900);
    Check.same("21: heaviest()", day().heaviest(), 1100);
    Check.same("22: yard()", day().yard(), 950);
    Check.same("27: count(4)", day().count(4), 3);
  }

  private static PushedUp changed() {
    PushedUp x = day();
    x.allWaited();
    x.best(-1);
    Check.line(x, "e0;");
    return x;
  }

  /** A day asked for earlier is not told again once something has changed. */
  private static void askedAnew() {
    Check.same("12: waited(1)", changed().waited(1), -9);
    Check.same("12: waited(2)", changed().waited(2), 0);
    Check.same("13: began(0)", changed().began(0), -9);
    Check.same("13: began(2)", changed().began(2), 9);
    Check.same("14: allWaited()", changed().allWaited(), 1440 + 1439);
    Check.same("15: downs()", changed().downs(), 0);
    Check.same("16: best(-1)", changed().best(-1), 1440 + 1439);
    Check.same("18: which()", changed().which(), -9);
    Check.same("20: chance(0)", changed().chance(0), 287900);
    Check.same("21: heaviest()", changed().heaviest(), 100);
    Check.same("22: yard()", changed().yard(), 300);
    Check.same("27: count(4)", changed().count(4), 1);
  }
}

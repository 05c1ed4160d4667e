/** The bounds of a text: each number, sign and place of it, and all room taken by it. */
public final class LineBoundsTest {
  private static final String PIECES = "p1s;p2d;p3s;p4d;p5s;";
  private static final String FIVE_TRAINS = "t0,1;t1,2;t2,3;t3,4;t4,5;";
  private static final String EIGHT_TRAINS = FIVE_TRAINS + "t5,6;t6,7;t7,8;";

  public static void main(String[] args) {
    minutes();
    coming();
    weight();
    engines();
    nextSigns();
    otherBytes();
    eachPlace();
    firstOfSeveral();
    comesAfterFault();
    fortyEightBytes();
    tapeRoom();
    whichBytes();
    fivePieces();
    eightTrains();
    Check.end("LineBoundsTest");
  }

  private static void answers(String text, int due) {
    PushedUp x = new PushedUp();
    Check.same("3: line of " + text, Check.line(x, text), due);
    Check.same("3: the tape has none after " + text, x.count(7), 0);
    if (due < 0) {
      Check.same("3: no pieces by " + text, x.count(0), 0);
      Check.same("3: no trains by " + text, x.count(1), 0);
      Check.same("3: no engines by " + text, x.count(2), 0);
    }
  }

  private static void minutes() {
    for (int n = 1; n <= 9; n++) {
      Check.same("3: minutes " + n, Check.with("p" + n + "s;").piece(0, 0), n);
      Check.same("3: single " + n, Check.with("p" + n + "s;").piece(0, 1), 0);
      Check.same("3: double " + n, Check.with("p" + n + "d;").piece(0, 1), 1);
      Check.same("11: base " + n, Check.with("p" + n + "d;").base(), n);
    }
    answers("p0s;", -2000);
    answers("p0d;", -2000);
    answers("p10s;", -1002);
    answers("p00s;", -1002);
    answers("p01s;", -1002);
    answers("ps;", -1001);
    answers("p-1s;", -1001);
  }

  private static void coming() {
    String[] taken = {"0", "00", "000", "1", "01", "001", "9", "10", "99", "100", "599", "600"};
    int[] due = {0, 0, 0, 1, 1, 1, 9, 10, 99, 100, 599, 600};
    for (int i = 0; i < taken.length; i++) {
      Check.same("3: comes " + taken[i], Check.with("t" + taken[i] + ",7;").train(0, 0), due[i]);
    }
    answers("t601,7;", -2000);
    answers("t602,7;", -2000);
    answers("t700,7;", -2000);
    answers("t999,7;", -2000);
    answers("t0000,7;", -1004);
    answers("t1000,7;", -1004);
    answers("t,7;", -1001);
    answers("t;", -1001);
  }

  private static void weight() {
    String[] taken = {"1", "01", "001", "2", "9", "10", "010", "99", "100", "998", "999"};
    int[] due = {1, 1, 1, 2, 9, 10, 10, 99, 100, 998, 999};
    for (int i = 0; i < taken.length; i++) {
      Check.same("3: weight " + taken[i], Check.with("t7," + taken[i] + ";").train(0, 1), due[i]);
    }
    answers("t7,0;", -2000);
    answers("t7,00;", -2000);
    answers("t7,000;", -2000);
    answers("t7,0001;", -1006);
    answers("t7,1000;", -1006);
    answers("t7,;", -1003);
    answers("t7;", -1002);
    answers("t7,1,;", -1004);
  }

  private static void engines() {
    for (int n = 0; n <= 4; n++) {
      Check.same("3: engines " + n, Check.with("e" + n + ";").count(2), n);
    }
    for (int n = 5; n <= 9; n++) {
      answers("e" + n + ";", -2000);
    }
    answers("e;", -1001);
    answers("e00;", -1002);
    answers("e10;", -1002);
    answers("e-1;", -1001);
    PushedUp x = Check.with("e4;");
    Check.line(x, "e5;");
    Check.same("3: the engines stay", x.count(2), 4);
    Check.line(x, "e0;");
    Check.same("3: none again", x.count(2), 0);
  }

  /** The signs just before and behind each that is taken. */
  private static void nextSigns() {
    answers("o1s;", -1000);
    answers("q1s;", -1000);
    answers("s1,1;", -1000);
    answers("u1,1;", -1000);
    answers("d1;", -1000);
    answers("f1;", -1000);
    answers("P1s;", -1000);
    answers("T1,1;", -1000);
    answers("E1;", -1000);
    answers("p/s;", -1001);
    answers("p:s;", -1001);
    answers("p1r;", -1002);
    answers("p1t;", -1002);
    answers("p1c;", -1002);
    answers("p1e;", -1002);
    answers("p1S;", -1002);
    answers("p1D;", -1002);
    answers("p1s:", -1003);
    answers("p1d<", -1003);
    answers("p1sd;", -1003);
    answers("e/;", -1001);
    answers("e:;", -1001);
    answers("e1:", -1002);
    answers("e1<", -1002);
    answers("t/,1;", -1001);
    answers("t:,1;", -1001);
    answers("t1/,1;", -1002);
    answers("t1:,1;", -1002);
    answers("t1+1;", -1002);
    answers("t1-1;", -1002);
    answers("t1,/;", -1003);
    answers("t1,:;", -1003);
    answers("t1,1:", -1004);
    answers("t1,1<", -1004);
    answers(" e1;", -1000);
    answers("e 1;", -1001);
    answers("e1 ;", -1002);
    answers("e1; ", -1003);
    answers("e1;;", -1003);
    answers(";e1;", -1000);
  }

  /** Every byte but the few that fit, at each place of a train: 0 and those above 127, too. */
  private static void otherBytes() {
    String[] begun = {"", "p", "p1", "p1s", "t", "t12", "t123", "t1,", "t1,12", "t1,123", "e", "e1"};
    String[] fits = {"pte", "0123456789", "sd", ";", "0123456789", "0123456789,", ",", "0123456789",
        "0123456789;", ";", "0123456789", ";"};
    for (int i = 0; i < begun.length; i++) {
      PushedUp x = new PushedUp();
      for (char sign = 0; sign < 256; sign++) {
        if (fits[i].indexOf(sign) < 0) {
          if (sign % 64 == 0) {
            x = new PushedUp();
          }
          String text = begun[i] + sign;
          Check.same("3: " + begun[i] + " and byte " + (int) sign, Check.line(x, text), -1000 - begun[i].length());
        }
      }
    }
  }

  /** Cut off at each place, and broken at each place, of a text with all that there is. */
  private static void eachPlace() {
    String text = "p1s;t0,1;p9d;t600,999;e4;";
    int whole = 0;
    for (int at = 0; at <= text.length(); at++) {
      boolean isWhole = at > 0 && text.charAt(at - 1) == ';';
      whole += isWhole ? 1 : 0;
      answers(text.substring(0, at), isWhole ? whole : -1000 - at);
      answers(text.substring(0, at) + "x", -1000 - at);
      answers(text.substring(0, at) + "x" + text.substring(at), -1000 - at);
      answers(text.substring(0, at) + (char) 0, -1000 - at);
    }
  }

  private static void firstOfSeveral() {
    answers("x;y;", -1000);
    answers("e1;x;y;", -1003);
    answers("p0s;x", -1004);
    answers("p0s;e9;t0,0;e", -1013);
    answers("p0s;e9;t0,0;", -2000);
    answers("p1s;e9;t0,0;", -2004);
    answers("p1s;e1;t0,0;p0s;", -2007);
    answers("p1s;e1;t0,1;p0s;", -2012);
    answers("t601,0;e9;", -2000);
    answers("e9;t601,0;", -2000);
    answers("e1;e2;e3;e4;e5;e6;", -2012);
  }

  private static void comesAfterFault() {
    PushedUp x = new PushedUp();
    Check.same("3: broken", Check.line(x, "p1x;"), -1002);
    Check.same("3: the next comes", Check.line(x, "p1s;"), 1);
    Check.same("3: lacking", Check.line(x, "p1s"), -1003);
    Check.same("3: it does not go on behind", Check.line(x, ";"), -1000);
    Check.same("3: out of range", Check.line(x, "p2d;e3;t0,9;p0s;"), -2012);
    Check.same("3: nothing came of it", x.count(0), 1);
    Check.same("3: no engines came of it", x.count(2), 0);
    Check.same("3: no trains came of it", x.count(1), 0);
    Check.same("3: the next comes", Check.line(x, "e2;p3d;"), 2);
    Check.same("3: pieces", x.count(0), 2);
    Check.same("3: base", x.base(), 4);
  }

  private static void fortyEightBytes() {
    PushedUp x = new PushedUp();
    String text = PIECES + "e4;" + FIVE_TRAINS;
    Check.same("2: all of the tape", Check.feed(x, text), 48);
    Check.same("3: a line of 48 bytes", x.line(), 11);
    Check.same("3: its pieces", x.count(0), 5);
    Check.same("3: its engines", x.count(2), 4);
    Check.same("3: its trains", x.count(1), 5);
    Check.same("3: its last byte", x.train(4, 1), 5);
    Check.same("2: the tape has room again", Check.feed(x, text), 48);
    Check.same("3: and no room for pieces", x.line(), -2000);
    answers("e1;e1;e1;e1;e1;e1;e1;e1;e1;e1;e1;e1;e1;e1;e1;e1;", 16);
    String eleven = "p0s;p0s;p0s;p0s;p0s;p0s;p0s;p0s;p0s;p0s;p0s;";
    answers(eleven + "t0,1", -1048);
    answers(eleven + "t0,x", -1047);
    answers(eleven + "t600", -1048);
    answers(eleven + "p1s;", -2000);
    answers("e1;e1;e1;e1;e1;e1;e1;e1;e1;e1;e1;e1;e1;e1;e1;e5;", -2045);
  }

  /** At each number of bytes, what fits just takes all room, and one more is refused. */
  private static void tapeRoom() {
    for (int n = 1; n <= 8; n++) {
      PushedUp x = new PushedUp();
      for (int i = 0; i < 48 - n; i++) {
        Check.same("2: one more", x.feed(1, 'e'), i + 1);
      }
      if (n < 8) {
        Check.same("2: one too many at " + (48 - n), x.feed(n + 1, 0L), -6);
      }
      Check.same("2: refused changes nothing", x.count(7), 48 - n);
      Check.same("2: just all room by " + n, x.feed(n, 0L), 48);
      Check.same("2: all room is taken", x.feed(1, 0L), -6);
      Check.refused(x, -6, n < 8 ? 2 : 1);
      Check.same("3: as fed", x.line(), -1001);
      Check.same("2: room again", x.feed(8, 0L), 8);
    }
  }

  /** Of the bytes told only n come, the lowest first, the eighth with its highest bit, too. */
  private static void whichBytes() {
    String text = "p1s;e2;t";
    for (int n = 1; n <= 8; n++) {
      PushedUp x = new PushedUp();
      Check.same("2: feed(" + n + ")", x.feed(n, Check.packed(text)), n);
      Check.same("2: line of " + n, x.line(), n == 4 ? 1 : n == 7 ? 2 : -1000 - n);
    }
    PushedUp x = new PushedUp();
    x.feed(8, Check.packed("p1s;e2;") | 0x80L << 56);
    Check.same("2: the eighth byte is 128", x.line(), -1007);
    x.feed(8, -1L);
    Check.same("2: eight bytes of 255", x.line(), -1000);
    x.feed(8, Check.packed("p1s;p2d;"));
    Check.same("2: the eighth byte", x.line(), 2);
    x.feed(3, Check.packed("e3;") | -1L << 24);
    Check.same("2: what is above does not come", x.line(), 1);
    Check.same("2: engines", x.count(2), 3);
  }

  private static void fivePieces() {
    PushedUp x = Check.with(PIECES);
    Check.same("3: five", x.count(0), 5);
    for (int i = 0; i < 5; i++) {
      Check.same("4: minutes of " + i, x.piece(i, 0), i + 1);
      Check.same("4: double " + i, x.piece(i, 1), i % 2);
    }
    Check.same("4: no sixth", x.piece(5, 0), -1);
    Check.same("11: base", x.base(), 15);
    Check.same("3: the sixth, single", Check.line(x, "p1s;"), -2000);
    Check.same("3: the sixth, double", Check.line(x, "p1d;"), -2000);
    Check.same("3: behind others", Check.line(x, "e4;t0,1;p1d;"), -2008);
    Check.same("3: nothing of it came", x.count(1), 0);
    Check.same("3: others still come", Check.line(x, "e4;t0,1;"), 2);
    answers(PIECES + "p6d;", -2020);
    answers(PIECES + "p6d;p0s;", -2020);
    answers(PIECES + "p6d;p", -1025);
    x = Check.with("p9s;p9s;p9s;p9s;");
    Check.same("3: two, with room for one", Check.line(x, "p9s;p9s;"), -2004);
    Check.same("3: none of them came", x.count(0), 4);
    Check.same("3: one", Check.line(x, "p9s;"), 1);
    Check.same("11: the greatest base", x.base(), 45);
  }

  private static void eightTrains() {
    PushedUp x = Check.with(EIGHT_TRAINS);
    Check.same("3: eight", x.count(1), 8);
    for (int i = 0; i < 8; i++) {
      Check.same("5: comes " + i, x.train(i, 0), i);
      Check.same("5: weight " + i, x.train(i, 1), i + 1);
    }
    Check.same("5: no ninth", x.train(8, 0), -1);
    Check.same("3: the ninth", Check.line(x, "t0,1;"), -2000);
    Check.same("3: behind others", Check.line(x, "e1;p1s;t0,1;"), -2007);
    Check.same("3: nothing of it came", x.count(0), 0);
    Check.same("3: others still come", Check.line(x, "e1;p1s;"), 2);
    answers(EIGHT_TRAINS + "t9,9;", -2040);
    answers(EIGHT_TRAINS + "t9,9;t", -1046);
    answers(EIGHT_TRAINS + "e4;p9d;", 10);
    x = Check.with("t0,1;t0,1;t0,1;t0,1;t0,1;t0,1;t0,1;");
    Check.same("3: two, with room for one", Check.line(x, "t0,1;t0,1;"), -2005);
    Check.same("3: none of them came", x.count(1), 7);
    Check.same("3: one", Check.line(x, "t0,1;"), 1);
    Check.same("3: eight", x.count(1), 8);
  }
}

import java.util.Random;

/** Any arguments in any state: no call throws, and a refusal is counted once and changes nothing else. */
public final class WildTest {
  private static final int[] EDGES = {Integer.MIN_VALUE, Integer.MIN_VALUE + 1, -1001, -10, -9, -7, -6, -5, -4, -3,
      -2, -1, 0, 1, 2, 3, 4, 5, 6, 7, 8, 9, 10, 11, 15, 16, 17, 48, 60, 61, 100, 101, 600, 999, 1000,
      1440, 9999, 10000, 1000000, Integer.MAX_VALUE - 1, Integer.MAX_VALUE};
  private static final long[] BYTES = {0, -1, Long.MIN_VALUE, Long.MAX_VALUE, Check.packed("p5s;e2;"),
      Check.packed("t0,500;"), Check.packed("t600,99;"), Check.packed("t1,999;"), Check.packed("p1d;p9s;")};

  private static Random r;
  private static PushedUp x;

  public static void main(String[] args) {
    for (int seed = 0; seed < 400; seed++) {
      r = new Random(seed);
      x = new PushedUp();
      for (int i = 0; i < 512; i++) {
        call(r.nextInt(30));
      }
    }
    refusalsChangeNothing();
    Check.end("WildTest");
  }

  private static int any() {
    return r.nextInt(9) == 0 ? r.nextInt() : EDGES[r.nextInt(EDGES.length)];
  }

  private static int call(int which) {
    switch (which) {
      case 0:
        return x.feed(any(), BYTES[r.nextInt(BYTES.length)]);
      case 1:
        int text = 4 + r.nextInt(5);
        x.feed(text == 8 ? 8 : text == 4 ? 7 : text == 5 ? 8 : 7, BYTES[text]);
        return x.line();
      case 2:
        return x.line();
      case 3:
        return x.piece(any(), any());
      case 4:
        return x.train(any(), any());
      case 5:
      case 6:
        return x.set(any(), any());
      case 7:
        return x.makeDouble(any(), r.nextBoolean());
      case 8:
        return x.order(any(), any());
      case 9:
        return x.order(3, 102);
      case 10:
        return x.climbs(any());
      case 11:
        return x.takes(any());
      case 12:
        return x.base();
      case 13:
        return x.waited(any());
      case 14:
        return x.began(any());
      case 15:
        return x.allWaited();
      case 16:
        return x.downs();
      case 17:
        return x.best(any());
      case 18:
        return x.fewest(any());
      case 19:
        return x.which();
      case 20:
        return x.edge(any());
      case 21:
        return x.chance(any());
      case 22:
        return x.heaviest();
      case 23:
        return x.yard();
      case 24:
      case 25:
        return x.row(any());
      case 26:
        return x.judge(any());
      case 27:
        return x.image();
      case 28:
        return x.on();
      default:
        return x.count(any());
    }
  }

  private static int refusals(PushedUp p) {
    int sum = 0;
    for (int what = 11; what <= 16; what++) {
      sum += p.count(what);
    }
    return sum;
  }

  private static void refusalsChangeNothing() {
    PushedUp p = Check.with("p5s;e1;t0,500;t1,500;t9,100;");
    p.order(2, 12);
    p.row(1);
    p.feed(2, 0L);
    int all = p.allWaited();
    int[] answers = {p.feed(0, 0L), p.feed(9, 0L), p.piece(1, 0), p.piece(0, 2), p.train(3, 0), p.train(0, 2),
        p.set(9, 0), p.set(0, 0), p.set(0, 1000), p.makeDouble(1, true), p.order(-1, 0), p.order(9, 0),
        p.order(1, 3), p.climbs(3), p.takes(3), p.waited(3), p.began(3), p.best(-2), p.fewest(-1), p.edge(3),
        p.chance(-1), p.chance(101), p.row(-1), p.row(10), p.judge(2), p.on()};
    int[] due = {-4, -6, -1, -2, -1, -2, -2, -4, -6, -1, -4, -6, -1, -1, -1, -1, -1, -4, -4, -2, -4, -6, -4, -6,
        -2, -3};
    for (int i = 0; i < due.length; i++) {
      Check.same("refused " + i, answers[i], due[i]);
    }
    Check.same("all are counted", refusals(p), due.length);
    Check.same("pieces", p.count(0), 1);
    Check.same("trains", p.count(1), 3);
    Check.same("order", p.count(5), 2);
    Check.same("row", p.count(6), 1);
    Check.same("tape", p.count(7), 2);
    Check.same("day", p.allWaited(), all);
  }
}

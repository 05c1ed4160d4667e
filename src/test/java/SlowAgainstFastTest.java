import java.util.Random;

/** Runs of calls on PushedUp and on SlowHill, which must answer alike; the seeds are told, so each run is the same. */
public final class SlowAgainstFastTest {
  private static final int RUNS = Integer.getInteger("pushedup.runs", 400);

  private static Random r;
  private static PushedUp x;
  private static SlowHill y;
  private static String run;

  public static void main(String[] args) {
    for (int seed = 0; seed < RUNS; seed++) {
      r = new Random(seed);
      x = new PushedUp();
      y = new SlowHill();
      run = "seed " + seed + ", ";
      for (int i = 0; i < 120; i++) {
        call();
      }
      for (int what = 0; what <= 17; what++) {
        Check.same(run + "count " + what, x.count(what), y.count(what));
      }
    }
    Check.end("SlowAgainstFastTest");
  }

  private static int among(int least, int most) {
    return least + r.nextInt(most - least + 1);
  }

  private static String statement() {
    switch (r.nextInt(6)) {
      case 0:
      case 1:
        return "p" + among(r.nextInt(30) == 0 ? 0 : 1, 9) + (r.nextInt(3) == 0 ? "d;" : "s;");
      case 2:
        return "e" + among(0, r.nextInt(40) == 0 ? 9 : 4) + ";";
      default:
        int latest = r.nextInt(20) == 0 ? 620 : r.nextInt(3) == 0 ? 600 : 40;
        return "t" + among(0, latest) + "," + among(r.nextInt(50) == 0 ? 0 : 1, 999) + ";";
    }
  }

  private static void line() {
    StringBuilder text = new StringBuilder();
    int n = among(0, 6);
    for (int i = 0; i < n; i++) {
      text.append(statement());
    }
    if (r.nextInt(8) == 0 && text.length() > 0) {
      int at = r.nextInt(text.length());
      switch (r.nextInt(3)) {
        case 0:
          text.setLength(at);
          break;
        case 1:
          text.deleteCharAt(at);
          break;
        default:
          text.setCharAt(at, "pted0159,;s\u00e9".charAt(r.nextInt(12)));
          break;
      }
    }
    for (int from = 0; from < text.length(); from += 8) {
      int to = Math.min(text.length(), from + 8);
      long bytes = Check.packed(text.substring(from, to));
      Check.same(run + "feed", x.feed(to - from, bytes), y.feed(to - from, bytes));
    }
    Check.same(run + "line of " + text, x.line(), y.line());
  }

  private static void row() {
    int n = among(0, 17);
    for (int i = 0; i < n; i++) {
      int v = r.nextInt(3) == 0 ? 9 : r.nextInt(30) == 0 ? among(-1, 10) : Math.floorMod(i, 8);
      Check.same(run + "row " + v, x.row(v), y.row(v));
    }
    if (r.nextInt(6) != 0) {
      int what = among(0, r.nextInt(20) == 0 ? 3 : 1);
      Check.same(run + "judge " + what, x.judge(what), y.judge(what));
    }
  }

  private static void call() {
    int t = among(-1, 8);
    switch (r.nextInt(26)) {
      case 0:
      case 1:
        line();
        break;
      case 2:
      case 3:
      case 4:
        int what = among(r.nextInt(20) == 0 ? -1 : 0, r.nextInt(20) == 0 ? 9 : 8);
        int[] most = {1000, 1000, 91, 21, 21, 61, 1, 3, 1};
        int v = what < 0 || what > 8 ? 1 : among(0, most[what]);
        Check.same(run + "set " + what + " " + v, x.set(what, v), y.set(what, v));
        break;
      case 5:
        boolean is = r.nextBoolean();
        Check.same(run + "makeDouble", x.makeDouble(t, is), y.makeDouble(t, is));
        break;
      case 6:
        order();
        break;
      case 7:
        row();
        break;
      case 8:
        Check.same(run + "piece", x.piece(t, 0), y.piece(t, 0));
        Check.same(run + "piece", x.piece(t, 1), y.piece(t, 1));
        Check.same(run + "train", x.train(t, 0), y.train(t, 0));
        Check.same(run + "train", x.train(t, 1), y.train(t, 1));
        break;
      case 9:
        Check.same(run + "image", x.image(), y.image());
        break;
      case 10:
        if (r.nextInt(3) == 0) {
          Check.same(run + "on", x.on(), y.on());
        }
        break;
      case 11:
        Check.same(run + "climbs", x.climbs(t), y.climbs(t));
        Check.same(run + "takes", x.takes(t), y.takes(t));
        Check.same(run + "base", x.base(), y.base());
        break;
      default:
        ask(t);
        break;
    }
  }

  private static void order() {
    int n = r.nextInt(20) == 0 ? among(-1, 9) : among(0, 5);
    int digits = 0;
    int start = r.nextInt(8);
    for (int i = Math.max(0, Math.min(7, n - 1)); i >= 0; i--) {
      digits = digits * 10 + (start + (r.nextInt(12) == 0 ? 1 : i)) % Math.max(1, x.count(1));
    }
    Check.same(run + "order " + n + " " + digits, x.order(n, digits), y.order(n, digits));
  }

  private static void ask(int t) {
    switch (r.nextInt(13)) {
      case 0:
        Check.same(run + "waited", x.waited(t), y.waited(t));
        break;
      case 1:
        for (int i = 0; i < 8; i++) {
          Check.same(run + "began", x.began(i), y.began(i));
        }
        break;
      case 2:
      case 3:
        Check.same(run + "allWaited", x.allWaited(), y.allWaited());
        break;
      case 4:
        Check.same(run + "downs", x.downs(), y.downs());
        break;
      case 5:
        int i = among(-2, 5);
        if (x.count(1) < 5 || r.nextInt(10) == 0) {
          Check.same(run + "best " + i, x.best(i), y.best(i));
        }
        break;
      case 6:
        int most = r.nextInt(20) == 0 ? -1 : r.nextInt(10) == 0 ? among(0, 9000) : among(0, 200);
        Check.same(run + "fewest " + most, x.fewest(most), y.fewest(most));
        break;
      case 7:
        Check.same(run + "which", x.which(), y.which());
        break;
      case 8:
        int kind = among(-1, 3);
        Check.same(run + "edge " + kind, x.edge(kind), y.edge(kind));
        break;
      case 9:
        int hundredths = among(-1, 101);
        Check.same(run + "chance " + hundredths, x.chance(hundredths), y.chance(hundredths));
        break;
      case 10:
        Check.same(run + "heaviest", x.heaviest(), y.heaviest());
        break;
      case 11:
        Check.same(run + "yard", x.yard(), y.yard());
        break;
      default:
        Check.same(run + "begin", x.count(4), y.count(4));
        break;
    }
  }
}

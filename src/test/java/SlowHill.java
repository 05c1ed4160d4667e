import java.util.ArrayList;
import java.util.List;

/** The document once more, told minute by minute with nothing skipped, to compare with. */
final class SlowHill {
  /** Something that goes up or comes down. */
  private static final class Move {
    int begin;
    int done;
    boolean isUp;
    boolean isDivided;
    boolean hasEngine;
    boolean isOver;
  }

  private static final class State {
    List<int[]> pieces = new ArrayList<>();
    List<int[]> trains = new ArrayList<>();
    int engines = 0;
    int[] settings = {300, 600, 20, 3, 2, 5, 0, 0, 0};
    List<Integer> order = new ArrayList<>();

    State copy() {
      State c = new State();
      for (int[] p : pieces) {
        c.pieces.add(p.clone());
      }
      for (int[] t : trains) {
        c.trains.add(t.clone());
      }
      c.engines = engines;
      c.settings = settings.clone();
      c.order = new ArrayList<>(order);
      return c;
    }

    int base() {
      int sum = 0;
      for (int[] p : pieces) {
        sum += p[0];
      }
      return sum;
    }

    boolean someSingle() {
      for (int[] p : pieces) {
        if (p[1] == 0) {
          return true;
        }
      }
      return false;
    }

    int kind(int weight) {
      int alone = settings[0];
      int pushed = settings[1];
      if (settings[6] == 1) {
        alone -= alone * settings[2] / 100;
        pushed -= pushed * settings[2] / 100;
      }
      if (weight <= alone) {
        return 0;
      }
      if (weight <= pushed) {
        return 1;
      }
      int half = weight / 2 + weight % 2;
      return half <= pushed ? 2 : 3;
    }

    int takes(int kind) {
      int b = base();
      int p = settings[3] + b + settings[4];
      return kind == 0 ? b : kind == 1 ? p : kind == 2 ? p + p + b : -9;
    }
  }

  /** The line and its engines while minutes go by. */
  private static final class World {
    final State s;
    final List<Move> moves = new ArrayList<>();
    int foot;
    int top;

    World(State s) {
      this.s = s;
      foot = s.engines;
    }

    void finish(int m) {
      for (Move v : moves) {
        if (!v.isOver && v.done <= m) {
          v.isOver = true;
          if (v.hasEngine && v.isUp) {
            top++;
          } else if (v.hasEngine) {
            foot++;
          }
        }
      }
    }

    boolean lets(int m, boolean up, boolean divided) {
      int lastSame = -1000;
      for (Move v : moves) {
        if (!v.isOver && (v.isDivided || divided)) {
          return false;
        }
        if (!v.isOver && v.isUp != up && s.someSingle()) {
          return false;
        }
        if (v.isUp == up) {
          lastSame = Math.max(lastSame, v.begin);
        }
      }
      return m - lastSame >= s.settings[5];
    }

    boolean letsTrain(int m, int t) {
      int kind = s.kind(s.trains.get(t)[1]);
      return kind != 3 && (kind == 0 || foot > 0) && lets(m, true, kind == 2);
    }

    boolean letsDown(int m) {
      return top > 0 && lets(m, false, false);
    }

    void up(int m, int t) {
      int kind = s.kind(s.trains.get(t)[1]);
      Move v = new Move();
      v.begin = m;
      v.done = m + s.takes(kind);
      v.isUp = true;
      v.isDivided = kind == 2;
      v.hasEngine = kind != 0;
      if (v.hasEngine) {
        foot--;
      }
      moves.add(v);
    }

    void down(int m) {
      Move v = new Move();
      v.begin = m;
      v.done = m + s.base();
      v.hasEngine = true;
      top--;
      moves.add(v);
    }
  }

  private static final class Result {
    int[] began;
    int downs;
    int all;
    int weight;
    int count;
  }

  private State s = new State();
  private State image = null;
  private final StringBuilder tape = new StringBuilder();
  private List<Integer> row = new ArrayList<>();
  private final int[] refused = new int[7];

  private int refuse(int n) {
    refused[-n]++;
    return n;
  }

  private static boolean before(State s, int a, int b) {
    int[] x = s.trains.get(a);
    int[] y = s.trains.get(b);
    int rule = s.settings[7];
    if (rule == 1 && x[1] != y[1]) {
      return x[1] > y[1];
    }
    if (rule == 2 && x[1] != y[1]) {
      return x[1] < y[1];
    }
    if (rule == 3) {
      int i = s.order.indexOf(a);
      int j = s.order.indexOf(b);
      if (i >= 0 && j >= 0) {
        return i < j;
      }
      if (i >= 0 || j >= 0) {
        return i >= 0;
      }
    }
    return x[0] != y[0] ? x[0] < y[0] : a < b;
  }

  private static Result day(State s) {
    int n = s.trains.size();
    Result r = new Result();
    r.began = new int[n];
    java.util.Arrays.fill(r.began, -9);
    World w = new World(s);
    for (int m = 0; m <= 1440; m++) {
      w.finish(m);
      List<Integer> waiting = new ArrayList<>();
      for (int t = 0; t < n; t++) {
        if (r.began[t] == -9 && s.trains.get(t)[0] <= m && s.kind(s.trains.get(t)[1]) != 3) {
          int at = 0;
          while (at < waiting.size() && before(s, waiting.get(at), t)) {
            at++;
          }
          waiting.add(at, t);
        }
      }
      if (w.letsDown(m) && (s.settings[8] == 0 || w.foot == 0 || waiting.isEmpty())) {
        w.down(m);
        r.downs++;
        continue;
      }
      for (int t : waiting) {
        if (w.letsTrain(m, t)) {
          w.up(m, t);
          r.began[t] = m;
          break;
        }
      }
    }
    for (int t = 0; t < n; t++) {
      int[] x = s.trains.get(t);
      if (r.began[t] != -9) {
        r.all += r.began[t] - x[0];
        r.weight += x[1];
        r.count++;
      } else if (s.kind(x[1]) != 3) {
        r.all += 1440 - x[0];
      }
    }
    return r;
  }

  int feed(int n, long bytes) {
    if (n < 1) {
      return refuse(-4);
    }
    if (n > 8 || tape.length() + n > 48) {
      return refuse(-6);
    }
    for (int i = 0; i < n; i++) {
      tape.append((char) (bytes >> 8 * i & 255));
    }
    return tape.length();
  }

  /** Whether some text of statements begins with these signs. */
  private static boolean canGoOn(String text) {
    String form = "(p[0-9][sd];|t[0-9]{1,3},[0-9]{1,3};|e[0-9];)*";
    String part = "(p|p[0-9]|p[0-9][sd]|t|t[0-9]{1,3}|t[0-9]{1,3},|t[0-9]{1,3},[0-9]{1,3}|e|e[0-9])?";
    return text.matches(form + part);
  }

  int line() {
    String text = tape.toString();
    tape.setLength(0);
    int fits = 0;
    while (fits < text.length() && canGoOn(text.substring(0, fits + 1))) {
      fits++;
    }
    if (fits < text.length() || !text.endsWith(";")) {
      return -1000 - fits;
    }
    State c = s.copy();
    int place = 0;
    int n = 0;
    for (String part : text.split(";")) {
      boolean is;
      if (part.charAt(0) == 'p') {
        int minutes = part.charAt(1) - '0';
        is = minutes >= 1 && c.pieces.size() < 5;
        c.pieces.add(new int[] {minutes, part.charAt(2) == 'd' ? 1 : 0});
      } else if (part.charAt(0) == 't') {
        String[] two = part.substring(1).split(",");
        int comes = Integer.parseInt(two[0]);
        int weight = Integer.parseInt(two[1]);
        is = comes <= 600 && weight >= 1 && c.trains.size() < 8;
        c.trains.add(new int[] {comes, weight});
      } else {
        c.engines = part.charAt(1) - '0';
        is = c.engines <= 4;
      }
      if (!is) {
        return -2000 - place;
      }
      place += part.length() + 1;
      n++;
    }
    s = c;
    return n;
  }

  private boolean noTrain(int t) {
    return t < 0 || t >= s.trains.size();
  }

  int piece(int p, int what) {
    if (p < 0 || p >= s.pieces.size()) {
      return refuse(-1);
    }
    return what < 0 || what > 1 ? refuse(-2) : s.pieces.get(p)[what];
  }

  int train(int t, int what) {
    if (noTrain(t)) {
      return refuse(-1);
    }
    return what < 0 || what > 1 ? refuse(-2) : s.trains.get(t)[what];
  }

  int set(int what, int v) {
    int[][] ranges = {{1, 999}, {1, 999}, {0, 90}, {0, 20}, {0, 20}, {1, 60}, {0, 1}, {0, 3}, {0, 1}};
    if (what < 0 || what > 8) {
      return refuse(-2);
    }
    if (v < ranges[what][0]) {
      return refuse(-4);
    }
    if (v > ranges[what][1]) {
      return refuse(-6);
    }
    int was = s.settings[what];
    s.settings[what] = v;
    return was;
  }

  int makeDouble(int p, boolean is) {
    if (p < 0 || p >= s.pieces.size()) {
      return refuse(-1);
    }
    int was = s.pieces.get(p)[1];
    s.pieces.get(p)[1] = is ? 1 : 0;
    return was == s.pieces.get(p)[1] ? 0 : 1;
  }

  int order(int n, int trains) {
    if (n < 0) {
      return refuse(-4);
    }
    if (n > 8) {
      return refuse(-6);
    }
    List<Integer> told = new ArrayList<>();
    int tens = 1;
    for (int i = 0; i < n; i++) {
      int t = trains / tens % 10;
      if (noTrain(t) || told.contains(t)) {
        return refuse(-1);
      }
      told.add(t);
      tens *= 10;
    }
    int was = s.order.size();
    s.order = told;
    return was;
  }

  int climbs(int t) {
    return noTrain(t) ? refuse(-1) : s.kind(s.trains.get(t)[1]);
  }

  int takes(int t) {
    return noTrain(t) ? refuse(-1) : s.takes(s.kind(s.trains.get(t)[1]));
  }

  int base() {
    return s.base();
  }

  int waited(int t) {
    if (noTrain(t)) {
      return refuse(-1);
    }
    int began = day(s).began[t];
    return began == -9 ? -9 : began - s.trains.get(t)[0];
  }

  int began(int t) {
    return noTrain(t) ? refuse(-1) : day(s).began[t];
  }

  int allWaited() {
    return day(s).all;
  }

  int downs() {
    return day(s).downs;
  }

  private void orders(List<Integer> so, List<List<Integer>> all) {
    if (so.size() == s.trains.size()) {
      all.add(new ArrayList<>(so));
    }
    for (int t = 0; t < s.trains.size(); t++) {
      if (!so.contains(t)) {
        so.add(t);
        orders(so, all);
        so.remove(so.size() - 1);
      }
    }
  }

  int best(int i) {
    if (i < -1) {
      return refuse(-4);
    }
    if (s.trains.size() > 5) {
      return refuse(-6);
    }
    List<List<Integer>> all = new ArrayList<>();
    orders(new ArrayList<>(), all);
    State c = s.copy();
    c.settings[7] = 3;
    int least = -1;
    List<Integer> found = null;
    for (List<Integer> one : all) {
      c.order = one;
      int w = day(c).all;
      if (found == null || w < least) {
        least = w;
        found = one;
      }
    }
    return i == -1 ? least : i < found.size() ? found.get(i) : -9;
  }

  int fewest(int most) {
    if (most < 0) {
      return refuse(-4);
    }
    State c = s.copy();
    for (c.engines = 0; c.engines <= 4; c.engines++) {
      if (day(c).all <= most) {
        return c.engines;
      }
    }
    return -9;
  }

  int which() {
    int least = day(s).all;
    int found = -9;
    for (int p = 0; p < s.pieces.size(); p++) {
      State c = s.copy();
      c.pieces.get(p)[1] = 1;
      int w = day(c).all;
      if (w < least) {
        least = w;
        found = p;
      }
    }
    return found;
  }

  int edge(int kind) {
    if (kind < 0 || kind > 2) {
      return refuse(-2);
    }
    int found = -9;
    for (int w = 1; w <= 999; w++) {
      if (s.kind(w) == kind) {
        found = w;
      }
    }
    return found;
  }

  int chance(int hundredths) {
    if (hundredths < 0) {
      return refuse(-4);
    }
    if (hundredths > 100) {
      return refuse(-6);
    }
    State wet = s.copy();
    wet.settings[6] = 1;
    State dry = s.copy();
    dry.settings[6] = 0;
    return hundredths * day(wet).all + (100 - hundredths) * day(dry).all;
  }

  int heaviest() {
    return day(s).weight;
  }

  int yard() {
    if (s.trains.isEmpty()) {
      return -9;
    }
    int found = -9;
    int most = -1;
    for (int w = 50; w <= 950; w += 50) {
      State c = s.copy();
      for (int[] t : c.trains) {
        t[1] = w;
      }
      int sum = day(c).weight;
      if (sum > most) {
        most = sum;
        found = w;
      }
    }
    return found;
  }

  int row(int v) {
    if (v < 0) {
      return refuse(-4);
    }
    if (v > 9 || row.size() == 16) {
      return refuse(-6);
    }
    row.add(v);
    return row.size();
  }

  int judge(int what) {
    if (what < 0 || what > 1) {
      return refuse(-2);
    }
    World w = new World(s);
    List<Integer> gone = new ArrayList<>();
    int last = -9;
    int wrong = -9;
    int m = 0;
    for (int i = 0; i < row.size() && wrong == -9; i++) {
      int v = row.get(i);
      boolean began = false;
      if (v == 9 || !noTrain(v) && !gone.contains(v)) {
        for (; m <= 9999 && !began; m++) {
          w.finish(m);
          if (v == 9 && w.letsDown(m)) {
            w.down(m);
            began = true;
            last = m;
          } else if (v != 9 && s.trains.get(v)[0] <= m && w.letsTrain(m, v)) {
            w.up(m, v);
            began = true;
            last = m;
          }
        }
      }
      gone.add(v);
      if (!began) {
        wrong = i;
      }
    }
    row = new ArrayList<>();
    return what == 0 ? wrong : last;
  }

  int image() {
    image = s.copy();
    return s.trains.size();
  }

  int on() {
    if (image == null) {
      return refuse(-3);
    }
    s = image.copy();
    return s.trains.size();
  }

  int count(int what) {
    int single = 0;
    for (int[] p : s.pieces) {
      single += 1 - p[1];
    }
    if (what >= 11 && what <= 16) {
      return refused[what - 10];
    }
    if (what == 4) {
      return day(s).count;
    }
    int[] plain = {s.pieces.size(), s.trains.size(), s.engines, single, 0, s.order.size(), row.size(), tape.length()};
    return what >= 0 && what <= 7 ? plain[what] : -9;
  }
}

/**
 * Trains that come to the foot of a hill, the engines that push them up it, and what a day of
 * them looks like. Every promise is told in DOC.md; the words here are the words there.
 */
public final class PushedUp {
  private static final int NOBODY = -1;
  private static final int OTHER = -2;
  private static final int STATE = -3;
  private static final int BELOW = -4;
  private static final int ROOM = -6;
  private static final int NONE = -9;

  private static final int FAULT_OF_FORM = -1000;
  private static final int FAULT_OF_SENSE = -2000;

  private static final int MOST_BYTES = 48;
  private static final int MOST_FED = 8;
  private static final int MOST_PIECES = 5;
  private static final int MOST_MINUTES = 9;
  private static final int MOST_TRAINS = 8;
  private static final int LATEST_COMING = 600;
  private static final int MOST_WEIGHT = 999;
  private static final int MOST_ENGINES = 4;
  private static final int MOST_IN_ROW = 16;
  private static final int MOST_TRAINS_FOR_BEST = 5;
  private static final int ORDERS_OF_FIVE = 120;

  private static final int LAST_MINUTE_OF_DAY = 1440;
  private static final int LAST_MINUTE_OF_ROW = 9999;
  /** Above every minute, and low enough that nothing added to it wraps around. */
  private static final int NEVER = 1000000;

  private static final int SETTING_ALONE = 0;
  private static final int SETTING_PUSHED = 1;
  private static final int SETTING_LESS = 2;
  private static final int SETTING_PUT = 3;
  private static final int SETTING_DROP = 4;
  private static final int SETTING_HEADWAY = 5;
  private static final int SETTING_WET = 6;
  private static final int SETTING_RULE = 7;
  private static final int SETTING_HANG = 8;
  private static final int SETTINGS = 9;
  private static final int[] LEAST_SETTING = {1, 1, 0, 0, 0, 1, 0, 0, 0};
  private static final int[] MOST_SETTING = {999, 999, 90, 20, 20, 60, 1, 3, 1};

  private static final int KIND_ALONE = 0;
  private static final int KIND_PUSHED = 1;
  private static final int KIND_DIVIDED = 2;
  private static final int KIND_NONE = 3;

  private static final int RULE_HEAVY = 1;
  private static final int RULE_LIGHT = 2;
  private static final int RULE_TOLD = 3;

  private static final int LIGHTEST_OF_YARD = 50;
  private static final int HEAVIEST_OF_YARD = 950;
  private static final int STEP_OF_YARD = 50;

  /** In a row of beginnings: an engine that comes down, no train. */
  private static final int DOWN = 9;

  private final Day day = new Day();
  private final Hill hill = day.hill;
  /** What would be if something were otherwise is tried on this one, so that the hill stays. */
  private final Day trialDay = new Day();
  private final Hill trial = trialDay.hill;
  private final Hill kept = new Hill();
  private boolean isKept;
  private final Tape tape = new Tape();
  private final Row row = new Row();
  private final int[] bestOrder = new int[MOST_TRAINS];
  private final int[] refusals = new int[1 - ROOM];

  public PushedUp() {
  }

  public int feed(int n, long bytes) {
    if (n < 1) {
      return refuse(BELOW);
    }
    if (n > MOST_FED || !tape.hasRoom(n)) {
      return refuse(ROOM);
    }
    tape.put(n, bytes);
    return tape.size;
  }

  public int line() {
    trial.copyFrom(hill);
    int answer = tape.readInto(trial);
    if (answer >= 0) {
      hill.copyFrom(trial);
    }
    return answer;
  }

  public int piece(int piece, int what) {
    if (!hill.hasPiece(piece)) {
      return refuse(NOBODY);
    }
    switch (what) {
      case 0:
        return hill.minutes[piece];
      case 1:
        return hill.doubled[piece];
      default:
        return refuse(OTHER);
    }
  }

  public int train(int train, int what) {
    if (!hill.hasTrain(train)) {
      return refuse(NOBODY);
    }
    switch (what) {
      case 0:
        return hill.comes[train];
      case 1:
        return hill.weights[train];
      default:
        return refuse(OTHER);
    }
  }

  public int set(int what, int v) {
    if (what < 0 || what >= SETTINGS) {
      return refuse(OTHER);
    }
    if (v < LEAST_SETTING[what]) {
      return refuse(BELOW);
    }
    if (v > MOST_SETTING[what]) {
      return refuse(ROOM);
    }
    int before = hill.settings[what];
    hill.settings[what] = v;
    return before;
  }

  public int makeDouble(int piece, boolean is) {
    if (!hill.hasPiece(piece)) {
      return refuse(NOBODY);
    }
    int doubled = is ? 1 : 0;
    if (hill.doubled[piece] == doubled) {
      return 0;
    }
    hill.doubled[piece] = doubled;
    return 1;
  }

  public int order(int n, int trains) {
    if (n < 0) {
      return refuse(BELOW);
    }
    if (n > MOST_TRAINS) {
      return refuse(ROOM);
    }
    if (!hill.areDifferentTrains(n, trains)) {
      return refuse(NOBODY);
    }
    int before = hill.ordered;
    hill.putOrder(n, trains);
    return before;
  }

  public int climbs(int train) {
    return hill.hasTrain(train) ? hill.kindOf(hill.weights[train]) : refuse(NOBODY);
  }

  public int takes(int train) {
    if (!hill.hasTrain(train)) {
      return refuse(NOBODY);
    }
    return hill.climbMinutes(hill.kindOf(hill.weights[train]));
  }

  public int base() {
    return hill.baseMinutes();
  }

  public int waited(int train) {
    if (!hill.hasTrain(train)) {
      return refuse(NOBODY);
    }
    day.run();
    int begun = day.begun[train];
    return begun == NONE ? NONE : begun - hill.comes[train];
  }

  public int began(int train) {
    if (!hill.hasTrain(train)) {
      return refuse(NOBODY);
    }
    day.run();
    return day.begun[train];
  }

  public int allWaited() {
    day.run();
    return day.waitedByAll();
  }

  public int downs() {
    day.run();
    return day.comingsDown;
  }

  public int best(int i) {
    if (i < -1) {
      return refuse(BELOW);
    }
    if (hill.trains > MOST_TRAINS_FOR_BEST) {
      return refuse(ROOM);
    }
    if (i >= hill.trains) {
      return NONE;
    }
    int least = findBestOrder();
    return i < 0 ? least : bestOrder[i];
  }

  public int fewest(int most) {
    if (most < 0) {
      return refuse(BELOW);
    }
    trial.copyFrom(hill);
    for (int engines = 0; engines <= MOST_ENGINES; engines++) {
      trial.engines = engines;
      if (waitedOnTrial() <= most) {
        return engines;
      }
    }
    return NONE;
  }

  public int which() {
    trial.copyFrom(hill);
    int least = waitedOnTrial();
    int answer = NONE;
    for (int piece = 0; piece < hill.pieces; piece++) {
      if (hill.doubled[piece] == 0) {
        trial.doubled[piece] = 1;
        int waited = waitedOnTrial();
        trial.doubled[piece] = 0;
        if (waited < least) {
          least = waited;
          answer = piece;
        }
      }
    }
    return answer;
  }

  public int edge(int kind) {
    if (kind < KIND_ALONE || kind > KIND_DIVIDED) {
      return refuse(OTHER);
    }
    for (int weight = MOST_WEIGHT; weight >= 1; weight--) {
      if (hill.kindOf(weight) == kind) {
        return weight;
      }
    }
    return NONE;
  }

  public int chance(int hundredths) {
    if (hundredths < 0) {
      return refuse(BELOW);
    }
    if (hundredths > 100) {
      return refuse(ROOM);
    }
    trial.copyFrom(hill);
    trial.settings[SETTING_WET] = 1;
    int onWet = waitedOnTrial();
    trial.settings[SETTING_WET] = 0;
    int onDry = waitedOnTrial();
    return hundredths * onWet + (100 - hundredths) * onDry;
  }

  public int heaviest() {
    day.run();
    return day.weightBegun();
  }

  public int yard() {
    if (hill.trains == 0) {
      return NONE;
    }
    trial.copyFrom(hill);
    int greatest = -1;
    int answer = NONE;
    for (int weight = LIGHTEST_OF_YARD; weight <= HEAVIEST_OF_YARD; weight += STEP_OF_YARD) {
      trial.makeAllWeigh(weight);
      trialDay.run();
      int sum = trialDay.weightBegun();
      if (sum > greatest) {
        greatest = sum;
        answer = weight;
      }
    }
    return answer;
  }

  public int row(int v) {
    if (v < 0) {
      return refuse(BELOW);
    }
    if (v > DOWN || row.size >= MOST_IN_ROW) {
      return refuse(ROOM);
    }
    row.add(v);
    return row.size;
  }

  public int judge(int what) {
    if (what < 0 || what > 1) {
      return refuse(OTHER);
    }
    row.lookAt(hill);
    return what == 0 ? row.judged : row.last;
  }

  public int image() {
    kept.copyFrom(hill);
    isKept = true;
    return kept.trains;
  }

  public int on() {
    if (!isKept) {
      return refuse(STATE);
    }
    hill.copyFrom(kept);
    return hill.trains;
  }

  public int count(int what) {
    switch (what) {
      case 0:
        return hill.pieces;
      case 1:
        return hill.trains;
      case 2:
        return hill.engines;
      case 3:
        return hill.singles();
      case 4:
        day.run();
        return day.trainsBegun();
      case 5:
        return hill.ordered;
      case 6:
        return row.size;
      case 7:
        return tape.size;
      default:
        return what >= 11 && what <= 16 ? refusals[what - 10] : NONE;
    }
  }

  private int refuse(int number) {
    int place = -number;
    if (place >= 0 && place < refusals.length) {
      refusals[place]++;
    }
    return number;
  }

  private int waitedOnTrial() {
    trialDay.run();
    return trialDay.waitedByAll();
  }

  /** Leaves the order itself in bestOrder, and answers what all wait by it. */
  private int findBestOrder() {
    trial.copyFrom(hill);
    trial.settings[SETTING_RULE] = RULE_TOLD;
    trial.orderByNumber();
    int least = NONE;
    boolean isMore = true;
    for (int tries = 0; tries < ORDERS_OF_FIVE && isMore; tries++) {
      int waited = waitedOnTrial();
      if (least == NONE || waited < least) {
        least = waited;
        System.arraycopy(trial.inOrder, 0, bestOrder, 0, MOST_TRAINS);
      }
      isMore = trial.goToNextOrder();
    }
    return least;
  }

  /** All that the image holds: pieces, trains, engines, settings and the order. */
  private static final class Hill {
    int pieces;
    final int[] minutes = new int[MOST_PIECES];
    final int[] doubled = new int[MOST_PIECES];
    int trains;
    final int[] comes = new int[MOST_TRAINS];
    final int[] weights = new int[MOST_TRAINS];
    int engines;
    final int[] settings = {300, 600, 20, 3, 2, 5, 0, 0, 0};
    int ordered;
    final int[] inOrder = new int[MOST_TRAINS];

    Hill() {
    }

    void copyFrom(Hill other) {
      pieces = other.pieces;
      System.arraycopy(other.minutes, 0, minutes, 0, MOST_PIECES);
      System.arraycopy(other.doubled, 0, doubled, 0, MOST_PIECES);
      trains = other.trains;
      System.arraycopy(other.comes, 0, comes, 0, MOST_TRAINS);
      System.arraycopy(other.weights, 0, weights, 0, MOST_TRAINS);
      engines = other.engines;
      System.arraycopy(other.settings, 0, settings, 0, SETTINGS);
      ordered = other.ordered;
      System.arraycopy(other.inOrder, 0, inOrder, 0, MOST_TRAINS);
    }

    boolean hasPiece(int number) {
      return number >= 0 && number < pieces;
    }

    boolean hasTrain(int number) {
      return number >= 0 && number < trains;
    }

    /** Answers false, and adds none, if the piece is not as it must be or there is no room. */
    boolean addPiece(int itsMinutes, int isDouble) {
      if (itsMinutes < 1 || itsMinutes > MOST_MINUTES || pieces >= MOST_PIECES) {
        return false;
      }
      minutes[pieces] = itsMinutes;
      doubled[pieces] = isDouble;
      pieces++;
      return true;
    }

    /** Answers false, and adds none, if the train is not as it must be or there is no room. */
    boolean addTrain(int coming, int weight) {
      if (coming < 0 || coming > LATEST_COMING || weight < 1 || weight > MOST_WEIGHT
          || trains >= MOST_TRAINS) {
        return false;
      }
      comes[trains] = coming;
      weights[trains] = weight;
      trains++;
      return true;
    }

    boolean putEngines(int number) {
      if (number < 0 || number > MOST_ENGINES) {
        return false;
      }
      engines = number;
      return true;
    }

    void makeAllWeigh(int weight) {
      for (int i = 0; i < trains; i++) {
        weights[i] = weight;
      }
    }

    int baseMinutes() {
      int sum = 0;
      for (int i = 0; i < pieces; i++) {
        sum += minutes[i];
      }
      return sum;
    }

    int singles() {
      int found = 0;
      for (int i = 0; i < pieces; i++) {
        if (doubled[i] == 0) {
          found++;
        }
      }
      return found;
    }

    private int onThisRail(int weight) {
      return settings[SETTING_WET] == 1 ? weight - weight * settings[SETTING_LESS] / 100 : weight;
    }

    int kindOf(int weight) {
      if (weight <= onThisRail(settings[SETTING_ALONE])) {
        return KIND_ALONE;
      }
      int pushed = onThisRail(settings[SETTING_PUSHED]);
      if (weight <= pushed) {
        return KIND_PUSHED;
      }
      return (weight + 1) / 2 <= pushed ? KIND_DIVIDED : KIND_NONE;
    }

    int climbMinutes(int kind) {
      int base = baseMinutes();
      int pushed = settings[SETTING_PUT] + base + settings[SETTING_DROP];
      switch (kind) {
        case KIND_ALONE:
          return base;
        case KIND_PUSHED:
          return pushed;
        case KIND_DIVIDED:
          return 2 * pushed + base;
        default:
          return NONE;
      }
    }

    boolean areDifferentTrains(int n, int digits) {
      int seen = 0;
      int rest = digits;
      for (int i = 0; i < n; i++) {
        int number = rest % 10;
        rest /= 10;
        if (!hasTrain(number) || (seen >> number & 1) == 1) {
          return false;
        }
        seen |= 1 << number;
      }
      return true;
    }

    void putOrder(int n, int digits) {
      int rest = digits;
      for (int i = 0; i < n && i < MOST_TRAINS; i++) {
        inOrder[i] = rest % 10;
        rest /= 10;
      }
      ordered = n;
    }

    void orderByNumber() {
      ordered = trains;
      for (int i = 0; i < trains; i++) {
        inOrder[i] = i;
      }
    }

    /** The next order by numbers of the same trains; false if this was the last. */
    boolean goToNextOrder() {
      int place = ordered - 2;
      while (place >= 0 && inOrder[place] > inOrder[place + 1]) {
        place--;
      }
      if (place < 0) {
        return false;
      }
      int other = ordered - 1;
      while (other > place && inOrder[other] < inOrder[place]) {
        other--;
      }
      swapInOrder(place, other);
      int low = place + 1;
      int high = ordered - 1;
      while (low < high) {
        swapInOrder(low, high);
        low++;
        high--;
      }
      return true;
    }

    private void swapInOrder(int a, int b) {
      int number = inOrder[a];
      inOrder[a] = inOrder[b];
      inOrder[b] = number;
    }
  }

  /** The bytes fed, and what their statements say. */
  private static final class Tape {
    private static final int END = -1;

    int size;
    private final int[] bytes = new int[MOST_BYTES];
    private int at;
    private boolean isBroken;
    private int letter;
    private int first;
    private int second;

    Tape() {
    }

    boolean hasRoom(int n) {
      return n <= MOST_BYTES - size;
    }

    void put(int n, long more) {
      for (int i = 0; i < n && size < MOST_BYTES; i++) {
        bytes[size] = (int) (more >>> 8 * i) & 255;
        size++;
      }
    }

    /** How many statements came to the hill, or the fault; then the hill is no longer of use. */
    int readInto(Hill hill) {
      int answer = formFault();
      if (answer >= 0) {
        answer = bring(hill);
      }
      size = 0;
      return answer;
    }

    private int formFault() {
      at = 0;
      isBroken = false;
      readStatement();
      for (int i = 1; i < MOST_BYTES && !isBroken && at < size; i++) {
        readStatement();
      }
      return isBroken ? FAULT_OF_FORM - at : 0;
    }

    private int bring(Hill hill) {
      at = 0;
      int statements = 0;
      for (int i = 0; i < MOST_BYTES && at < size; i++) {
        int place = at;
        readStatement();
        if (!bringStatement(hill)) {
          return FAULT_OF_SENSE - place;
        }
        statements++;
      }
      return statements;
    }

    private boolean bringStatement(Hill hill) {
      switch (letter) {
        case 'p':
          return hill.addPiece(first, second == 'd' ? 1 : 0);
        case 't':
          return hill.addTrain(first, second);
        default:
          return hill.putEngines(first);
      }
    }

    /** Where it breaks, the place stays at the byte that fits nowhere: that is the fault told. */
    private void readStatement() {
      letter = look();
      switch (letter) {
        case 'p':
          at++;
          first = readNumber(1);
          second = look();
          take(second == 's' || second == 'd');
          break;
        case 't':
          at++;
          first = readNumber(3);
          take(look() == ',');
          second = readNumber(3);
          break;
        case 'e':
          at++;
          first = readNumber(1);
          break;
        default:
          isBroken = true;
          break;
      }
      take(look() == ';');
    }

    private int look() {
      return at < size && at < MOST_BYTES ? bytes[at] : END;
    }

    private void take(boolean fits) {
      if (!fits) {
        isBroken = true;
      }
      if (!isBroken) {
        at++;
      }
    }

    private int readNumber(int mostDigits) {
      int number = 0;
      int digits = 0;
      int sign = look();
      while (!isBroken && digits < mostDigits && sign >= '0' && sign <= '9') {
        number = number * 10 + sign - '0';
        digits++;
        at++;
        sign = look();
      }
      if (digits == 0) {
        isBroken = true;
      }
      return number;
    }
  }

  /**
   * What is under way and where the engines are, told as the minutes from which something may
   * begin: every condition of the line, once it holds, holds until the next beginning.
   */
  private static final class Traffic {
    final int[] upFrom = new int[KIND_NONE];
    int downFrom;
    int footFrom;
    private final int[] climbMinutes = new int[KIND_NONE];
    private int downMinutes;
    private int headway;
    private boolean isSingle;
    private int engines;
    private final int[] standsFrom = new int[MOST_ENGINES];
    private final boolean[] isAtTop = new boolean[MOST_ENGINES];
    private int upDone;
    private int downDone;
    private int dividedDone;
    private int upAfterHeadway;
    private int downAfterHeadway;

    Traffic() {
    }

    void start(Hill hill) {
      for (int kind = KIND_ALONE; kind <= KIND_DIVIDED; kind++) {
        climbMinutes[kind] = hill.climbMinutes(kind);
      }
      downMinutes = hill.baseMinutes();
      headway = hill.settings[SETTING_HEADWAY];
      isSingle = hill.singles() > 0;
      engines = hill.engines;
      upDone = 0;
      downDone = 0;
      dividedDone = 0;
      upAfterHeadway = 0;
      downAfterHeadway = 0;
      for (int i = 0; i < MOST_ENGINES; i++) {
        standsFrom[i] = 0;
        isAtTop[i] = false;
      }
      lookAhead();
    }

    void goUp(int kind, int minute) {
      if (kind < KIND_ALONE || kind > KIND_DIVIDED) {
        return;
      }
      int done = minute + climbMinutes[kind];
      upDone = Math.max(upDone, done);
      upAfterHeadway = minute + headway;
      if (kind == KIND_DIVIDED) {
        dividedDone = done;
      }
      if (kind != KIND_ALONE) {
        moveEngine(false, done);
      }
      lookAhead();
    }

    void comeDown(int minute) {
      downDone = minute + downMinutes;
      downAfterHeadway = minute + headway;
      moveEngine(true, downDone);
      lookAhead();
    }

    private void lookAhead() {
      int atFoot = firstEngine(false);
      int atTop = firstEngine(true);
      footFrom = atFoot < 0 ? NEVER : standsFrom[atFoot];
      int up = Math.max(dividedDone, upAfterHeadway);
      int down = Math.max(dividedDone, downAfterHeadway);
      if (isSingle) {
        up = Math.max(up, downDone);
        down = Math.max(down, upDone);
      }
      upFrom[KIND_ALONE] = up;
      upFrom[KIND_PUSHED] = Math.max(up, footFrom);
      upFrom[KIND_DIVIDED] = Math.max(upFrom[KIND_PUSHED], Math.max(upDone, downDone));
      downFrom = atTop < 0 ? NEVER : Math.max(down, standsFrom[atTop]);
    }

    /** Of the engines at the top (or foot), or on the way there, the one there first; -1 none. */
    private int firstEngine(boolean top) {
      int found = -1;
      for (int i = 0; i < engines && i < MOST_ENGINES; i++) {
        if (isAtTop[i] == top && (found < 0 || standsFrom[i] < standsFrom[found])) {
          found = i;
        }
      }
      return found;
    }

    private void moveEngine(boolean fromTop, int minute) {
      int engine = firstEngine(fromTop);
      if (engine >= 0) {
        isAtTop[engine] = !fromTop;
        standsFrom[engine] = minute;
      }
    }
  }

  /** A hill, and a day of it. */
  private static final class Day {
    final Hill hill = new Hill();
    final int[] begun = new int[MOST_TRAINS];
    int comingsDown;
    private final Traffic traffic = new Traffic();
    private final int[] kinds = new int[MOST_TRAINS];
    /** The less it is, the sooner the rule lets the train go; alike where only coming counts. */
    private final int[] turns = new int[MOST_TRAINS];

    Day() {
    }

    void run() {
      start();
      int minute = 0;
      // Between two beginnings most minutes are alike, so the day goes on to the next that is not.
      for (int i = 0; i <= LAST_MINUTE_OF_DAY && minute <= LAST_MINUTE_OF_DAY; i++) {
        minute = beginOne(minute) ? minute + 1 : nextChance(minute);
      }
    }

    int waitedByAll() {
      int sum = 0;
      for (int i = 0; i < hill.trains; i++) {
        if (kinds[i] != KIND_NONE) {
          sum += (begun[i] == NONE ? LAST_MINUTE_OF_DAY : begun[i]) - hill.comes[i];
        }
      }
      return sum;
    }

    int weightBegun() {
      int sum = 0;
      for (int i = 0; i < hill.trains; i++) {
        if (begun[i] != NONE) {
          sum += hill.weights[i];
        }
      }
      return sum;
    }

    int trainsBegun() {
      int found = 0;
      for (int i = 0; i < hill.trains; i++) {
        if (begun[i] != NONE) {
          found++;
        }
      }
      return found;
    }

    private void start() {
      traffic.start(hill);
      comingsDown = 0;
      for (int i = 0; i < hill.trains; i++) {
        begun[i] = NONE;
        kinds[i] = hill.kindOf(hill.weights[i]);
      }
      findTurns();
    }

    private void findTurns() {
      int rule = hill.settings[SETTING_RULE];
      for (int i = 0; i < hill.trains; i++) {
        switch (rule) {
          case RULE_HEAVY:
            turns[i] = -hill.weights[i];
            break;
          case RULE_LIGHT:
            turns[i] = hill.weights[i];
            break;
          case RULE_TOLD:
            turns[i] = MOST_TRAINS;
            break;
          default:
            turns[i] = 0;
            break;
        }
      }
      for (int i = 0; rule == RULE_TOLD && i < hill.ordered; i++) {
        int train = hill.inOrder[i];
        if (hill.hasTrain(train)) {
          turns[train] = i;
        }
      }
    }

    private boolean beginOne(int minute) {
      if (traffic.downFrom <= minute && !hangs(minute)) {
        traffic.comeDown(minute);
        comingsDown++;
        return true;
      }
      int train = firstThatCan(minute);
      if (train < 0) {
        return false;
      }
      traffic.goUp(kinds[train], minute);
      begun[train] = minute;
      return true;
    }

    private boolean hangs(int minute) {
      return hill.settings[SETTING_HANG] == 1 && traffic.footFrom <= minute && someWaits(minute);
    }

    private boolean someWaits(int minute) {
      for (int i = 0; i < hill.trains; i++) {
        if (isToCome(i) && hill.comes[i] <= minute) {
          return true;
        }
      }
      return false;
    }

    private int firstThatCan(int minute) {
      int found = -1;
      for (int i = 0; i < hill.trains; i++) {
        if (canFrom(i) <= minute && (found < 0 || isBefore(i, found))) {
          found = i;
        }
      }
      return found;
    }

    private boolean isToCome(int train) {
      return begun[train] == NONE && kinds[train] != KIND_NONE;
    }

    private int canFrom(int train) {
      return isToCome(train) ? Math.max(hill.comes[train], traffic.upFrom[kinds[train]]) : NEVER;
    }

    private boolean isBefore(int train, int other) {
      if (turns[train] != turns[other]) {
        return turns[train] < turns[other];
      }
      if (hill.comes[train] != hill.comes[other]) {
        return hill.comes[train] < hill.comes[other];
      }
      return train < other;
    }

    /** An engine that hangs needs no look: it does so until a train begins. */
    private int nextChance(int minute) {
      int next = traffic.downFrom > minute ? traffic.downFrom : NEVER;
      for (int i = 0; i < hill.trains; i++) {
        next = Math.min(next, canFrom(i));
      }
      return Math.max(next, minute + 1);
    }
  }

  /** The row of beginnings told. */
  private static final class Row {
    int size;
    int judged;
    int last;
    private final Traffic traffic = new Traffic();
    private final int[] bytes = new int[MOST_IN_ROW];
    /** A bit for each train, so that none begins twice. */
    private int begun;

    Row() {
    }

    void add(int v) {
      if (size < MOST_IN_ROW) {
        bytes[size] = v;
        size++;
      }
    }

    /** Finds what is judged, and the last minute; the row has none then. */
    void lookAt(Hill hill) {
      judged = NONE;
      last = NONE;
      begun = 0;
      traffic.start(hill);
      int minute = 0;
      for (int i = 0; i < size && i < MOST_IN_ROW && judged == NONE; i++) {
        minute = Math.max(minute, canFrom(hill, bytes[i]));
        if (minute > LAST_MINUTE_OF_ROW) {
          judged = i;
        } else {
          begin(hill, bytes[i], minute);
          last = minute;
          minute++;
        }
      }
      size = 0;
    }

    private int canFrom(Hill hill, int v) {
      if (v == DOWN) {
        return traffic.downFrom;
      }
      if (!hill.hasTrain(v) || (begun >> v & 1) == 1) {
        return NEVER;
      }
      int kind = hill.kindOf(hill.weights[v]);
      return kind == KIND_NONE ? NEVER : Math.max(hill.comes[v], traffic.upFrom[kind]);
    }

    private void begin(Hill hill, int v, int minute) {
      if (v == DOWN) {
        traffic.comeDown(minute);
      } else if (hill.hasTrain(v)) {
        traffic.goUp(hill.kindOf(hill.weights[v]), minute);
        begun |= 1 << v;
      }
    }
  }
}

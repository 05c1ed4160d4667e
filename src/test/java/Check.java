/** What the tests share: they count what is not as due, and end with exit code 1 if anything was. */
final class Check {
  private static int looked = 0;
  private static int wrong = 0;

  private Check() {
  }

  static void same(String call, long got, long due) {
    looked++;
    if (got != due) {
      wrong++;
      if (wrong <= 50) {
        System.out.println(call + " answered " + got + ", due is " + due);
      }
    }
  }

  static void holds(String what, boolean isSo) {
    looked++;
    if (!isSo) {
      wrong++;
      System.out.println("not so: " + what);
    }
  }

  static void end(String test) {
    System.out.println(test + ": " + looked + " looked at, " + wrong + " wrong");
    if (wrong != 0) {
      System.exit(1);
    }
  }

  /** Feeds a text by as many bytes at once as go, and answers what the last feed did. */
  static int feed(PushedUp x, String text) {
    int answer = 0;
    for (int from = 0; from < text.length(); from += 8) {
      int to = Math.min(text.length(), from + 8);
      answer = x.feed(to - from, packed(text.substring(from, to)));
    }
    return answer;
  }

  static int line(PushedUp x, String text) {
    feed(x, text);
    return x.line();
  }

  /** A new object with the lines told. */
  static PushedUp with(String... texts) {
    PushedUp x = new PushedUp();
    for (String text : texts) {
      holds("a line comes: " + text, line(x, text) > 0);
    }
    return x;
  }

  static long packed(String text) {
    long bytes = 0;
    for (int i = text.length() - 1; i >= 0; i--) {
      bytes = bytes << 8 | text.charAt(i) & 255;
    }
    return bytes;
  }

  static void began(PushedUp x, String what, int... due) {
    for (int i = 0; i < due.length; i++) {
      same(what + ": began(" + i + ")", x.began(i), due[i]);
    }
  }

  static void refused(PushedUp x, int number, int due) {
    same("count(" + (10 - number) + ")", x.count(10 - number), due);
  }
}

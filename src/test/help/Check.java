import java.nio.charset.StandardCharsets;

/** What the tests by hand share: answers held against what is due, texts fed, objects made ready. */
abstract class Check {
  static final int NONE = -1, UNKNOWN = -1001, OUTSIDE = -1002, NOT = -1003, FULL = -1004;
  static final int FILE = 0, LIVE = 1, PLOUGH = 2, GIVE_UP = 3, CONTEST = 4, PROVE = 5, DEATH = 6;
  static final int MIN = Integer.MIN_VALUE, MAX = Integer.MAX_VALUE;

  private static int wrong = 0;
  private static String part = "";

  static void part(String name) {
    part = name;
  }

  static void due(String what, long got, long want) {
    if (got == want) return;
    wrong++;
    System.out.println(part + ": " + what + " answered " + got + ", due is " + want);
  }

  static void end(String whenAllIsWell) {
    System.out.println(wrong == 0 ? whenAllIsWell : wrong + " answers are not as due");
    if (wrong != 0) System.exit(1);
  }

  static void feed(Land x, String text) {
    byte[] bytes = text.getBytes(StandardCharsets.ISO_8859_1);
    for (int at = 0; at < bytes.length; at += 8) {
      int n = Math.min(8, bytes.length - at);
      long packed = 0;
      for (int i = 0; i < n; i++) packed = packed << 8 | (bytes[at + i] & 255);
      x.feed(n, packed);
    }
  }

  /** Feeds a text and makes a law of it. */
  static int law(Land x, int day, String text) {
    feed(x, text);
    return x.law(day);
  }

  /** An object with persons born on day 0 and citizens from day 0 on, and a law from day 0 on. */
  static Land with(int persons, String text) {
    Land x = new Land();
    for (int p = 0; p < persons; p++) x.person(0, 0);
    due("the law of '" + text + "'", law(x, 0, text), 0);
    return x;
  }
}

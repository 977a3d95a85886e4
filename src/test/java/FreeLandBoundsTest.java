/**
 * The sentences of "What it is" and "Terms" 1 to 4 that name a boundary case, in the document's
 * order: the last value inside a bound and the first one outside it, the empty thing and the full
 * one, the day on which something begins or ends, and which of two reasons comes first. The
 * refusals of each call are in FreeLandRefusalsTest, corners and areas in FreeLandCornersTest.
 */
public final class FreeLandBoundsTest extends Check {
  private static final int LAST = 20000;
  /** Nothing of the law but what a test names stands in the way. */
  private static final String FREE = "age 0 live 0 gap 99999 plough 0 term 99999 most 99 ";

  /** Tells a line that is not refused: its number. */
  private static int tell(Land x, int day, int sort, int p, int q, int n) {
    int l = x.line(day, sort, p, q, n);
    if (l < 0) due("line(" + day + ", " + sort + ", " + p + ", " + q + ", " + n + ")", l, x.count(2));
    return l;
  }

  private static int tell(Land x, int day, int sort, int p, int q) {
    return tell(x, day, sort, p, q, 0);
  }

  /** Tells a line, holds what it comes to against what is due, and strikes it again. */
  private static void trial(String what, Land x, int day, int sort, int p, int q, int want) {
    int l = tell(x, day, sort, p, q);
    due(what, x.outcome(l, NONE), want);
    x.strike(l, true);
  }

  // ---- What it is

  private static void lastCall() {
    part("an object is used for at most 512 calls");
    Land x = with(12, FREE + "idle 3 prefer 2");
    for (int l = 0; l < 120; l++) tell(x, 119 - l, l % 6, l % 12, l % 7, 1 + l % 9);
    int all = x.digest(NONE);
    while (x.left() > 2) due("digest with " + x.left() + " calls left", x.digest(NONE), all);
    due("the 511th call", x.strike(119, true), 0);
    due("the 512th call", x.outcome(119, NONE), NONE);
  }

  private static void bookEmptyOfAll() {
    part("questions of an object to which nothing was told");
    Land x = new Land();
    int d = 7;
    for (int q = 0; q < 64; q++) d = 31 * d - 1;
    due("digest of all", x.digest(NONE), d);
    due("digest of the first 0", x.digest(0), d);
    due("a quarter's holder as known by none", x.holds(63, LAST, 0, 0), NONE);
    due("place of no law", x.place(), NONE);
    due("a first person", x.person(0, 0), 0);
    due("what a person holds of an empty book", x.holdings(0, NONE), 0);
    due("what a person holds by none", x.holdings(0, 0), 0);
  }

  // ---- 1 quarters, days, the map, persons

  private static void oddQuarters() {
    part("one is ODD, if x / 2 and y / 2 (cut) are odd in all");
    String[] rows = {"..##..##", "..##..##", "##..##..", "##..##..", "..##..##", "..##..##", "##..##..", "##..##.."};
    Land x = with(1, FREE);
    due("map(0)", x.map(0), 20001);
    for (int q = 0; q < 64; q++) {
      boolean odd = rows[q / 8].charAt(q % 8) == '#';
      due("standing of quarter " + q, x.holds(q, 0, NONE, 1), odd ? 4 : 0);
      due("FILE on quarter " + q, x.outcome(tell(x, 0, FILE, 0, q), NONE), odd ? 4 : 0);
    }
  }

  private static void daysOfTheMap() {
    part("from THE MAP's DAY on (20001 at first: never) ODD ones are the RAILROAD's");
    Land x = with(1, FREE);
    due("at first, on the last day", x.holds(2, LAST, NONE, 1), 0);
    int[] days = {0, 1, 77, LAST};
    int before = 20001;
    for (int day : days) {
      due("what it was ahead of " + day, x.map(day), before);
      before = day;
      if (day > 0) due("the day ahead of " + day, x.holds(2, day - 1, NONE, 1), 0);
      due("the day " + day, x.holds(2, day, NONE, 1), 4);
      if (day < LAST) due("the day behind " + day, x.holds(2, day + 1, NONE, 1), 4);
      due("an even one", x.holds(1, LAST, NONE, 1), 0);
      if (day > 0) trial("FILE on the day ahead of " + day, x, day - 1, FILE, 0, 2, 0);
      trial("FILE on the day " + day, x, day, FILE, 0, 2, 4);
    }
    due("never again", x.map(20001), LAST);
    due("never, on the last day", x.holds(2, LAST, NONE, 1), 0);
    trial("FILE on the last day", x, LAST, FILE, 0, 2, 0);
    due("what it was", x.map(20001), 20001);
  }

  private static void mapAndEntries() {
    part("the RAILROAD's: no ENTRY holds it");
    Land x = with(2, FREE);
    tell(x, 5, FILE, 0, 2);
    tell(x, 9, PROVE, 0, 2);
    x.map(7);
    due("LIVE, on the map's day", x.holds(2, 7, NONE, 1), 1);
    due("its HOLDER", x.holds(2, 7, NONE, 0), 0);
    due("PROVED behind it", x.holds(2, 9, NONE, 1), 2);
    x.strike(1, true);
    tell(x, 8, GIVE_UP, 0, 2);
    due("given up behind it", x.holds(2, 8, NONE, 1), 4);
    due("the day ahead", x.holds(2, 7, NONE, 1), 1);
    trial("FILE behind that", x, 8, FILE, 1, 2, 4);
  }

  private static void twelvePersons() {
    part("PERSONS (12 at most)");
    Land x = new Land();
    for (int p = 0; p < 12; p++) due("person", x.person(p - 20000, p), p);
    due("a thirteenth", x.person(0, 0), FULL);
    law(x, 0, FREE);
    for (int p = 0; p < 12; p++) {
      trial("person " + p + ", on the day ahead of being a CITIZEN", x, Math.max(0, p - 1), FILE, p, p, p == 0 ? 0 : 3);
      tell(x, p, FILE, p, p);
      due("person " + p + " is the HOLDER", x.holds(p, p, NONE, 0), p);
    }
    for (int p = 0; p < 11; p++) tell(x, 20 + p, DEATH, p, 0, p + 1);
    due("what the twelfth holds behind all", x.holdings(11, NONE), 12);
    due("what the eleventh holds", x.holdings(10, NONE), 0);
    due("dead ones", x.count(9), 11);
    tell(x, 40, LIVE, 0, 0, 1);
    due("the dead one's living", x.outcome(x.count(2) - 1, NONE), 1);
    tell(x, 19, LIVE, 11, 0, 1);
    due("the twelfth, who has been its HOLDER too", x.holds(0, 50, NONE, 4), 1);
  }

  private static void birthAndCitizenship() {
    part("a DAY of BIRTH (-20000 .. 20000) and a DAY from which they are CITIZENS (-20000 .. 20001)");
    Land x = new Land();
    due("the first birth", x.person(-20000, -20000), 0);
    due("the last birth", x.person(20000, 0), 1);
    due("a citizen from the last day on", x.person(0, 20000), 2);
    due("never a citizen", x.person(0, 20001), 3);
    due("a citizen from day 0 on", x.person(0, 0), 4);
    due("a citizen from day 1 on", x.person(0, 1), 5);
    law(x, 0, FREE);
    trial("of 20000 days on day 0", x, 0, FILE, 0, 0, 0);
    trial("born on the last day, on it", x, LAST, FILE, 1, 0, 0);
    trial("born on the last day, the day ahead", x, LAST - 1, FILE, 1, 0, 2);
    trial("citizen from the last day on, on it", x, LAST, FILE, 2, 0, 0);
    trial("citizen from the last day on, the day ahead", x, LAST - 1, FILE, 2, 0, 3);
    trial("never a citizen, on the last day", x, LAST, FILE, 3, 0, 3);
    trial("citizen from day 0 on, on it", x, 0, FILE, 4, 0, 0);
    trial("citizen from day 1 on, on day 0", x, 0, FILE, 5, 0, 3);
    trial("citizen from day 1 on, on it", x, 1, FILE, 5, 0, 0);
    law(x, 0, "age 40000");
    trial("40000 days, the oldest of all", x, LAST, FILE, 0, 0, 0);
    trial("a day less", x, LAST - 1, FILE, 0, 0, 2);
    law(x, 0, "age 40001");
    trial("more than can be", x, LAST, FILE, 0, 0, 2);
  }

  // ---- 2 laws

  private static void firstLaw() {
    part("what words set, at first");
    Land x = new Land();
    int[] first = {7600, 1800, 180, 10, 2600, 180, 30, 1, 100, 0};
    due("an empty text", x.law(8), 0);
    first[9] = 8;
    for (int what = 0; what <= 9; what++) due("sets(0, " + what + ")", x.sets(0, what), first[what]);
    x.person(-7600, 0);
    x.person(-7599, 0);
    trial("age: 7600 days", x, 0, FILE, 0, 0, 0);
    trial("age: 7599 days", x, 0, FILE, 1, 0, 2);
    tell(x, 1, FILE, 0, 0);
    trial("most: one", x, 1, FILE, 0, 1, 7);
    trial("idle: 180 days, the ENTRY on the first of them", x, 181, CONTEST, 1, 0, 11);
    int l = tell(x, 182, CONTEST, 1, 0);
    due("idle: the ENTRY the day ahead of these", x.outcome(l, NONE), 0);
    due("prefer: the 30th day behind", x.holds(0, 212, NONE, 3), 1);
    due("prefer: the 31st", x.holds(0, 213, NONE, 3), NONE);
    x.strike(l, true);
    tell(x, 1, LIVE, 0, 0, 1799);
    trial("live: 1799 days", x, 1900, PROVE, 0, 0, 13);
    tell(x, 1800, LIVE, 0, 0, 1);
    tell(x, 5, PLOUGH, 0, 0, 9);
    trial("plough: 9 acres", x, 1900, PROVE, 0, 0, 15);
    tell(x, 5, PLOUGH, 0, 0, 1);
    trial("gap: 180 days", x, 1981, PROVE, 0, 0, 0);
    trial("gap: 181 days", x, 1982, PROVE, 0, 0, 14);
    tell(x, 1982, LIVE, 0, 0, 5000);
    trial("term: 2601 days", x, 2602, PROVE, 0, 0, 12);
    trial("gap: 181 days in between", x, 2601, PROVE, 0, 0, 14);
    tell(x, 1981, LIVE, 0, 0, 1);
    due("term: 2600 days", x.outcome(tell(x, 2601, PROVE, 0, 0), NONE), 0);
    due("bind: 99 days later", x.holds(0, 2700, NONE, 1), 2);
    due("bind: 100 days later", x.holds(0, 2701, NONE, 1), 3);
  }

  private static void eightLaws() {
    part("LAWS (8 at most)");
    Land x = new Land();
    for (int l = 0; l < 8; l++) due("law", law(x, 800 - 100 * l, "gap " + l), l);
    due("a ninth", law(x, 0, "gap 9"), FULL);
    due("eight", x.count(1), 8);
    for (int l = 0; l < 8; l++) {
      due("gap of " + l, x.sets(l, 2), l);
      due("day of " + l, x.sets(l, 9), 800 - 100 * l);
      due("LAW of its day", x.lawOf(800 - 100 * l), l);
      due("LAW of the day ahead", x.lawOf(799 - 100 * l), l == 7 ? NONE : l + 1);
    }
    due("law 8", x.sets(8, 2), UNKNOWN);
  }

  private static String blanks(int n) {
    return " ".repeat(n);
  }

  private static void textsOf120Bytes() {
    part("texts of 120 bytes at most");
    reads(blanks(120), 0, NONE);
    reads("gap 12" + blanks(114), 0, NONE);
    reads(blanks(114) + "gap 12", 0, NONE);
    reads(blanks(117) + "gap", 1, 120);
    reads(blanks(116) + "gap ", 1, 120);
    reads(blanks(119) + "x", 1, 119);
    reads("x".repeat(120), 1, 0);
    reads("gap " + "7".repeat(116), 2, 4);
    reads("gap " + "7".repeat(115) + "x", 1, 4);
    reads("gap 12" + blanks(111) + "gap", 3, 117);
    Land x = new Land();
    String full = "gap " + blanks(111) + "12345";
    feed(x, full);
    due("bytes", x.count(4), 120);
    due("a full text is a law", x.law(3), 0);
    due("its last figure counts", x.sets(0, 2), 12345);
    due("empty then", x.count(4), 0);
    feed(x, full);
    due("full anew", x.count(4), 120);
    due("one over", x.feed(1, 32), FULL);
  }

  private static void textsByFeeds() {
    part("the n lowest bytes of a long, the highest of these first");
    long gap7 = 0x6761702037L;
    for (int n = 1; n <= 8; n++) {
      Land x = new Land();
      feed(x, "gap 7age 5".substring(0, 8 - n));
      String left = "gap 7age 5".substring(8 - n, 8);
      long packed = n == 8 ? 0 : -1L << (8 * n);
      for (int i = 0; i < n; i++) packed |= (long) left.charAt(i) << (8 * (n - 1 - i));
      due("feed of " + n, x.feed(n, packed), 8);
      due("a figure, then letters", x.law(0), -11);
      due("its place", x.place(), 4);
    }
    Land y = new Land();
    due("five of eight", y.feed(5, gap7 | 0x3131310000000000L), 5);
    due("law", y.law(0), 0);
    due("gap", y.sets(0, 2), 7);
    Land z = new Land();
    for (int n = 1; n <= 8; n++) due("feed of " + n, z.feed(n, -1L), n * (n + 1) / 2);
    due("bytes 255 are no blanks", z.law(0), -11);
    due("their place", z.place(), 0);
    due("0 bytes", z.feed(0, 0), OUTSIDE);
    due("9 bytes", z.feed(9, 0), OUTSIDE);
    due("nothing came", z.count(4), 0);
  }

  private static void anyNumberOfPairs() {
    part("any number of pairs: a word, then a number of one to five figures");
    reads("", 0, NONE);
    reads("bind 1", 0, NONE);
    reads("age 99999 live 99999 gap 99999 plough 99999 term 99999 idle 99999 prefer 99999 most 99999 bind 99999", 0, NONE);
    Land x = new Land();
    law(x, 0, "age 0 live 9 gap 10 plough 99 term 100 idle 999 prefer 1000 most 9999 bind 10000");
    int[] want = {0, 9, 10, 99, 100, 999, 1000, 9999, 10000};
    for (int what = 0; what < 9; what++) due("sets(0, " + what + ")", x.sets(0, what), want[what]);
    law(x, 0, " bind  00000 most 00001   prefer 00010 idle 00100 term 01000 plough 99999 gap 1 live 0 age 12345 ");
    int[] then = {12345, 0, 1, 99999, 1000, 100, 10, 1, 0};
    for (int what = 0; what < 9; what++) due("sets(1, " + what + ")", x.sets(1, what), then[what]);
    for (int what = 0; what < 9; what++) due("sets(0, " + what + ") still", x.sets(0, what), want[what]);
  }

  /** Reads a text as the second law of an object whose first text had a fault elsewhere. */
  private static void reads(String text, int fault, int place) {
    Land x = new Land();
    law(x, 0, "age 1 nothing");
    feed(x, text);
    due("law of '" + text + "'", x.law(LAST), fault == 0 ? 0 : -10 - fault);
    due("place of '" + text + "'", x.place(), place);
    due("text behind '" + text + "'", x.count(4), 0);
    due("laws behind '" + text + "'", x.count(1), fault == 0 ? 1 : 0);
    due("a law of nothing behind '" + text + "'", x.law(0), fault == 0 ? 1 : 0);
    due("place of that", x.place(), NONE);
  }

  private static void noFault() {
    part("an empty text (or one of blanks alone) has no FAULT");
    reads("", 0, NONE);
    reads(" ", 0, NONE);
    reads(blanks(119), 0, NONE);
    reads(" age 1 ", 0, NONE);
    reads("age" + blanks(20) + "1" + blanks(20) + "live 2", 0, NONE);
  }

  private static void misplaced() {
    part("FAULT 1: it cannot stand there");
    String[] words = {"age", "live", "gap", "plough", "term", "idle", "prefer", "most", "bind"};
    for (String word : words) {
      reads(word + " 1", 0, NONE);
      reads(word.substring(0, word.length() - 1) + " 1", 1, 0);
      reads(word.substring(1) + " 1", 1, 0);
      reads(word + "s 1", 1, 0);
      reads("a" + word + " 1", 1, 0);
      reads(word.substring(0, word.length() - 1) + "? 1", 1, 0);
      reads(word.toUpperCase() + " 1", 1, 0);
      reads(word + "1", 1, 0);
      reads(word, 1, word.length());
      reads(word + "   ", 1, word.length() + 3);
      reads("  " + word + " " + word, 1, word.length() + 3);
    }
    reads("7", 1, 0);
    reads("  7 8", 1, 2);
    reads("age 1 7", 1, 6);
    reads("age 1 live", 1, 10);
    reads("age -1", 1, 4);
    reads("age +1", 1, 4);
    reads("age 1.", 1, 4);
    reads("age 1,live 2", 1, 4);
    reads("age x1", 1, 4);
    reads("age 12x45", 1, 4);
    reads("age live 1", 1, 4);
    reads("age 1 live 1 agelive 1", 1, 13);
  }

  private static void bytesBesideThese() {
    part("blanks (32), other bytes than 0 .. 9");
    char[] others = {0, 1, 9, 10, 13, 31, 33, 47, 58, 127, 128, 160, 176, 185, 255};
    for (char other : others) {
      reads("age" + other + "1", 1, 0);
      reads("age " + other, 1, 4);
      reads("age 1" + other, 1, 4);
      reads("age " + other + "1", 1, 4);
      reads("age 1 " + other, 1, 6);
      reads(other + "age 1", 1, 0);
    }
    for (char figure = '0'; figure <= '9'; figure++) {
      Land x = new Land();
      due("figure " + figure, law(x, 0, "gap " + figure + figure), 0);
      due("gap of " + figure + figure, x.sets(0, 2), 11 * (figure - '0'));
    }
  }

  private static void tooLong() {
    part("FAULT 2: a number of six figures or more");
    reads("age 99999", 0, NONE);
    reads("age 00000", 0, NONE);
    reads("age 100000", 2, 4);
    reads("age 000000", 2, 4);
    reads("age 999999 live", 2, 4);
    reads(" age 1  gap 123456", 2, 12);
    reads("age 4294967296", 2, 4);
    reads("age 18446744073709551617", 2, 4);
    reads("bind 123456 bind", 2, 5);
  }

  private static void twice() {
    part("FAULT 3: a word for the second time");
    String[] words = {"age", "live", "gap", "plough", "term", "idle", "prefer", "most", "bind"};
    for (String word : words) {
      reads(word + " 0 " + word + " 0", 3, word.length() + 3);
      reads(word + " 99999 " + word, 3, word.length() + 7);
    }
    reads("age 1 live 2 gap 3 age 4", 3, 19);
    reads("age 1 live 2 live 3 age 4", 3, 13);
    Land x = new Land();
    law(x, 0, "age 5");
    due("a word of another text is none of these", law(x, 0, "age 6"), 1);
    due("a word of a faulty text", law(x, 0, "live 1 live 2"), -13);
    due("is none of these either", law(x, 0, "live 3"), 2);
    due("nothing of the faulty text is kept", law(x, 0, "gap 7 1"), -11);
    due("law", law(x, 0, ""), 3);
    due("gap", x.sets(3, 2), 180);
    due("live", x.sets(3, 1), 3);
  }

  private static void firstOfFaults() {
    part("the first thing that has a FAULT; of several the least");
    reads("age 1234567 age 1 age", 2, 4);
    reads("x 123456", 1, 0);
    reads("age 123456 x 1", 2, 4);
    reads("age 1 age 123456", 3, 6);
    reads("123456 age 1", 1, 0);
    reads("age 1 123456", 1, 6);
    reads("age 12345x", 1, 4);
    reads("age 1 live age", 1, 11);
    reads("age 1 age age", 3, 6);
    reads("age 1 age x", 3, 6);
    reads("age 1 live 2 x live 3", 1, 13);
  }

  private static void lawsBeforeALaw() {
    part("for other words what the LAW before it has (by their DAYS, then as they come)");
    Land x = new Land();
    law(x, LAST, "age 1");
    law(x, 0, "live 2");
    law(x, LAST, "live 3");
    law(x, 0, "age 4 gap 0");
    law(x, 50, "term 5");
    int[][] want = {{1, 2, 0, 5}, {7600, 2, 180, 2600}, {1, 3, 0, 5}, {4, 2, 0, 2600}, {4, 2, 0, 5}};
    for (int l = 0; l < 5; l++) {
      due("age of " + l, x.sets(l, 0), want[l][0]);
      due("live of " + l, x.sets(l, 1), want[l][1]);
      due("gap of " + l, x.sets(l, 2), want[l][2]);
      due("term of " + l, x.sets(l, 4), want[l][3]);
    }
    law(x, 50, "term 6 age 5");
    due("a later one of the DAY", x.sets(5, 4), 6);
    due("the one of the DAY ahead of it", x.sets(4, 4), 5);
    due("what comes behind has the later one's", x.sets(0, 4), 6);
    due("what sets it has its own", x.sets(0, 0), 1);
    due("none has none of these", x.sets(NONE, 0), 7600);
  }

  private static void lawsOfDays() {
    part("LAW OF A DAY: the last one whose DAY is not above it; ahead of all: NONE");
    Land x = new Land();
    due("no laws, day 0", x.lawOf(0), NONE);
    due("no laws, day 20000", x.lawOf(LAST), NONE);
    law(x, LAST, "");
    due("the last day", x.lawOf(LAST), 0);
    due("the day ahead of it", x.lawOf(LAST - 1), NONE);
    law(x, 1, "");
    due("day 1", x.lawOf(1), 1);
    due("day 0", x.lawOf(0), NONE);
    due("the day ahead of the last", x.lawOf(LAST - 1), 1);
    law(x, 1, "");
    due("of two of one DAY the later one", x.lawOf(1), 2);
    law(x, 0, "");
    due("day 0, from day 0 on", x.lawOf(0), 3);
    due("day 1 still", x.lawOf(1), 2);
    due("the last day still", x.lawOf(LAST), 0);
    due("a text with a FAULT is no LAW", law(x, 1, "?"), -11);
    due("day 1, after all", x.lawOf(1), 2);
  }

  private static void lawOfTheDayOfALine() {
    part("FILE, by the LAW of the DAY; an ENTRY comes, under that LAW");
    Land x = new Land();
    x.person(0, 0);
    x.person(0, 0);
    law(x, 10, "age 0 most 9");
    law(x, 20, "age 15 idle 3 prefer 1");
    law(x, 30, "age 31 idle 100 prefer 50 live 7");
    trial("ahead of all laws", x, 9, FILE, 0, 0, 2);
    trial("on the first one's day", x, 10, FILE, 0, 0, 0);
    trial("the day ahead of the second", x, 19, FILE, 0, 0, 0);
    trial("on the second one's day", x, 20, FILE, 0, 0, 0);
    trial("on the third one's day", x, 30, FILE, 0, 0, 2);
    trial("a day later", x, 31, FILE, 0, 0, 0);
    tell(x, 29, FILE, 0, 0);
    int l = tell(x, 33, CONTEST, 1, 0);
    due("idle by the ENTRY's law", x.outcome(l, NONE), 0);
    due("prefer by the ENTRY's law", x.holds(0, 34, NONE, 3), 1);
    due("and no longer", x.holds(0, 35, NONE, 3), NONE);
    law(x, 25, "idle 4");
    due("a law told late puts it right", x.outcome(l, NONE), 11);
    due("the ENTRY holds", x.holds(0, 35, NONE, 0), 0);
    law(x, 29, "age 30");
    due("one of the day itself", x.outcome(l, NONE), 9);
    due("no ENTRY holds", x.holds(0, 35, NONE, 0), NONE);
  }

  private static void greatNumbersOfALaw() {
    part("a number of five figures");
    Land x = with(2, "age 0 idle 99999 most 99999 bind 99999 prefer 99999 live 0 plough 0 gap 99999 term 99999");
    tell(x, 0, FILE, 0, 0);
    trial("idle 99999", x, LAST, CONTEST, 1, 0, 11);
    tell(x, 1, PROVE, 0, 0);
    due("gap 99999, term 99999", x.outcome(2, NONE), 0);
    due("bind 99999", x.holds(0, LAST, NONE, 1), 2);
    law(x, 0, "live 99999 plough 99999 idle 0 most 9");
    due("live 99999", x.outcome(2, NONE), 13);
    tell(x, LAST, CONTEST, 1, 0);
    due("idle 0", x.outcome(3, NONE), 0);
    due("prefer 99999", x.holds(0, LAST, NONE, 3), 1);
    law(x, 0, "live 0");
    due("plough 99999", x.outcome(2, NONE), 15);
    law(x, 0, "age 99999");
    due("age 99999", x.outcome(0, NONE), 2);
  }

  // ---- 3 the book

  private static void bookOf120() {
    part("THE BOOK has LINES (120 at most)");
    Land x = with(12, FREE);
    for (int l = 0; l < 120; l++) due("line", x.line(119 - l, l % 2 == 0 ? GIVE_UP : FILE, l % 12, l % 64, 0), l);
    due("one over", x.line(0, FILE, 0, 0, 0), FULL);
    x.strike(0, true);
    due("a STRUCK one takes its place still", x.line(0, FILE, 0, 0, 0), FULL);
    due("lines", x.count(2), 120);
    due("the last one told, the first by days", x.outcome(119, NONE), 0);
    due("the first one told", x.outcome(0, NONE), NONE);
    due("the second one told", x.outcome(1, NONE), 5);
    due("as known by 119", x.outcome(119, 119), NONE);
    due("as known by 120", x.outcome(119, 120), 0);
    due("as known by 121", x.outcome(119, 121), OUTSIDE);
    due("its quarter's line of FILE", x.holds(55, 0, NONE, 2), 119);
    due("told of it", x.told(119, 0), 0);
    due("line 120", x.told(120, 0), UNKNOWN);
  }

  private static void numbersOfLines() {
    part("LIVE (n 1 .. 5000), PLOUGH (n 1 .. 160)");
    Land x = with(1, FREE);
    tell(x, 0, FILE, 0, 0);
    due("LIVE of none", x.line(1, LIVE, 0, 0, 0), OUTSIDE);
    due("LIVE of 5001", x.line(1, LIVE, 0, 0, 5001), OUTSIDE);
    due("LIVE of 5000", x.line(1, LIVE, 0, 0, 5000), 1);
    due("all its days but one", x.holds(0, 4999, NONE, 4), 4999);
    due("all its days", x.holds(0, 5000, NONE, 4), 5000);
    due("no more behind these", x.holds(0, 5001, NONE, 4), 5000);
    due("LIVE of 1", x.line(6000, LIVE, 0, 0, 1), 2);
    due("ahead of it", x.holds(0, 5999, NONE, 4), 5000);
    due("that DAY the first", x.holds(0, 6000, NONE, 4), 5001);
    due("and the last", x.holds(0, 6001, NONE, 4), 5001);
    due("PLOUGH of none", x.line(1, PLOUGH, 0, 0, 0), OUTSIDE);
    due("PLOUGH of 161", x.line(1, PLOUGH, 0, 0, 161), OUTSIDE);
    due("PLOUGH of 160", x.line(1, PLOUGH, 0, 0, 160), 3);
    due("PLOUGH of 1", x.line(2, PLOUGH, 0, 0, 1), 4);
    due("acres of the first day", x.holds(0, 1, NONE, 5), 160);
    due("acres of both", x.holds(0, 2, NONE, 5), 161);
    due("LIVE of 5000 on the last day", x.line(LAST, LIVE, 0, 0, 5000), 5);
    due("that day counts", x.holds(0, LAST, NONE, 4), 5002);
    for (int l = 6; l < 120; l++) x.line(3, PLOUGH, 0, 0, 160);
    due("acres of a full book", x.holds(0, LAST, NONE, 5), 161 + 114 * 160);
  }

  private static void whatIsNotLookedAt() {
    part("n of others is not looked at; of DEATH q is not");
    Land x = with(2, FREE + "idle 0");
    int[] wild = {MIN, -1, 0, 64, 5001, MAX};
    for (int n : wild) {
      int file = x.line(1, FILE, 0, 3, n);
      int give = x.line(2, GIVE_UP, 0, 3, n);
      int file2 = x.line(2, FILE, 0, 3, n);
      int contest = x.line(3, CONTEST, 1, 3, n);
      int file3 = x.line(3, FILE, 1, 3, n);
      int prove = x.line(4, PROVE, 1, 3, n);
      int death = x.line(5, DEATH, 1, n, 0);
      int[] all = {file, give, file2, contest, file3, prove, death};
      for (int l : all) {
        due("line with " + n, l >= 0 ? 1 : 0, 1);
        due("outcome of " + l, x.outcome(l, NONE), 0);
        due("told of " + l, x.told(l, l == death ? 3 : 4), n);
      }
      due("the heir of 3 with " + n, x.holds(3, 5, NONE, 0), 0);
      for (int l : all) x.strike(l, true);
    }
  }

  private static void struckLines() {
    part("a LINE may be STRUCK, and then it is as if it had not been told");
    Land x = with(3, "age 0 live 1 gap 99999 plough 1 term 99999 most 99 idle 2 prefer 9");
    int file = tell(x, 10, FILE, 0, 0);
    int live = tell(x, 11, LIVE, 0, 0, 2);
    int plough = tell(x, 11, PLOUGH, 0, 0, 1);
    int contest = tell(x, 14, CONTEST, 1, 0);
    int prove = tell(x, 14, PROVE, 0, 0);
    int give = tell(x, 15, GIVE_UP, 0, 0);
    int death = tell(x, 16, DEATH, 0, 0, 2);
    int again = tell(x, 17, FILE, 2, 0);
    int[] all = {file, live, plough, contest, prove, give, death, again};
    struck(x, all, NONE, new int[] {0, 0, 0, 11, 0, 8, 0, 5}, 2);
    struck(x, all, file, new int[] {NONE, 0, 0, 9, 8, 8, 0, 0}, 2);
    struck(x, all, live, new int[] {0, NONE, 0, 0, 8, 8, 0, 6}, NONE);
    struck(x, all, plough, new int[] {0, 0, NONE, 11, 15, 0, 0, 0}, 2);
    struck(x, all, contest, new int[] {0, 0, 0, NONE, 0, 8, 0, 5}, 2);
    struck(x, all, prove, new int[] {0, 0, 0, 11, NONE, 0, 0, 0}, 2);
    struck(x, all, give, new int[] {0, 0, 0, 11, 0, NONE, 0, 5}, 2);
    struck(x, all, death, new int[] {0, 0, 0, 11, 0, 8, NONE, 5}, 0);
    struck(x, all, again, new int[] {0, 0, 0, 11, 0, 8, 0, NONE}, 2);
    for (int l : all) due("was not STRUCK", x.strike(l, true), 0);
    due("all STRUCK", x.count(3), 8);
    due("LINES still", x.count(2), 8);
    due("no ENTRIES", x.count(5), 0);
    for (int l : all) due("was STRUCK", x.strike(l, false), 1);
    due("none STRUCK", x.count(3), 0);
    struck(x, all, NONE, new int[] {0, 0, 0, 11, 0, 8, 0, 5}, 2);
  }

  /** What all lines come to, and who holds quarter 0 behind all, while one of them is struck. */
  private static void struck(Land x, int[] all, int one, int[] want, int holder) {
    if (one != NONE) due("strike(" + one + ", true)", x.strike(one, true), 0);
    for (int l : all) due("without " + one + ", outcome of " + l, x.outcome(l, NONE), want[l]);
    due("without " + one + ", the HOLDER", x.holds(0, LAST, NONE, 0), holder);
    if (one != NONE) due("strike(" + one + ", false)", x.strike(one, false), 1);
  }

  private static void linesByDays() {
    part("WORKED THROUGH by DAYS, LINES of one DAY as they came");
    Land x = with(3, FREE + "idle 0");
    tell(x, 5, FILE, 0, 0);
    tell(x, 5, FILE, 1, 0);
    tell(x, 4, FILE, 2, 0);
    tell(x, 5, GIVE_UP, 2, 0);
    tell(x, 4, GIVE_UP, 1, 0);
    due("told last, first by days", x.outcome(2, NONE), 0);
    due("the day behind, told first", x.outcome(0, NONE), 5);
    due("the day behind, told second", x.outcome(1, NONE), 5);
    due("of that day, told last", x.outcome(3, NONE), 0);
    due("not the HOLDER", x.outcome(4, NONE), 8);
    x.strike(2, true);
    due("of one day the first told", x.outcome(0, NONE), 0);
    due("of one day the second told", x.outcome(1, NONE), 5);
    tell(x, 4, FILE, 1, 0);
    tell(x, 4, GIVE_UP, 1, 0);
    due("of one day, GIVE UP ahead of FILE", x.outcome(4, NONE), 8);
    due("of one day, GIVE UP behind FILE", x.outcome(6, NONE), 0);
    due("behind that day nobody", x.holds(0, 4, NONE, 0), NONE);
    due("behind the next the first told", x.holds(0, 5, NONE, 0), 0);
    tell(x, 0, FILE, 2, 0);
    due("told on day 0", x.holds(0, 0, NONE, 0), 2);
    due("its outcome", x.outcome(7, NONE), 0);
    tell(x, LAST, GIVE_UP, 2, 0);
    due("ahead of the last day", x.holds(0, LAST - 1, NONE, 0), NONE);
    due("given up on day 5 already", x.outcome(3, NONE), 0);
    due("nothing to give up on the last day", x.outcome(8, NONE), 8);
  }

  private static void dead() {
    part("1: p is dead");
    Land x = with(3, FREE + "idle 0");
    tell(x, 5, FILE, 0, 0);
    tell(x, 9, LIVE, 0, 0, 1);
    tell(x, 9, DEATH, 0, 0, 1);
    tell(x, 9, LIVE, 0, 0, 1);
    due("of the day of death, ahead of it", x.outcome(1, NONE), 0);
    due("of the day of death, behind it", x.outcome(3, NONE), 1);
    for (int sort = FILE; sort <= DEATH; sort++) {
      int n = sort == DEATH ? 2 : 1;
      int ahead = tell(x, 8, sort, 0, 1, n);
      if (sort == DEATH) x.strike(2, true);
      due("sort " + sort + " the day ahead: not dead", x.outcome(ahead, NONE) == 1 ? 1 : 0, 0);
      x.strike(ahead, true);
      x.strike(2, false);
      int on = tell(x, 9, sort, 0, 1, n);
      due("sort " + sort + " of that day", x.outcome(on, NONE), 1);
      int last = tell(x, LAST, sort, 0, 1, n);
      due("sort " + sort + " of the last day", x.outcome(last, NONE), 1);
    }
    due("1 ahead of 16", x.outcome(tell(x, 10, DEATH, 0, 0, 0), NONE), 1);
    due("1 ahead of 8", x.outcome(tell(x, 10, GIVE_UP, 0, 5), NONE), 1);
    due("LIVE of another", x.outcome(tell(x, 10, LIVE, 2, 0, 1), NONE), 0);
    due("PLOUGH of another, on what he does not hold", x.outcome(tell(x, 10, PLOUGH, 2, 0, 1), NONE), 0);
    due("LIVE where nobody holds", x.outcome(tell(x, 0, LIVE, 2, 9, 1), NONE), 0);
    x.strike(2, true);
    due("the death STRUCK, not dead", x.outcome(3, NONE), 0);
  }

  private static void reasonsOfFile() {
    part("FILE: the first of these that fits");
    Land x = new Land();
    x.person(100, 200);
    x.person(0, 200);
    x.person(0, 0);
    x.person(0, 0);
    law(x, 0, "age 50 most 2 idle 0 prefer 20");
    tell(x, 90, FILE, 2, 2);
    tell(x, 90, FILE, 2, 0);
    x.map(100);
    trial("2 ahead of 3, 4, 5", x, 149, FILE, 0, 2, 2);
    trial("3 ahead of 4, 5", x, 150, FILE, 0, 2, 3);
    trial("2 ahead of 4", x, 40, FILE, 3, 2, 2);
    trial("4 ahead of 5", x, 150, FILE, 3, 2, 4);
    trial("4 ahead of 7", x, 150, FILE, 2, 2, 4);
    trial("5 ahead of 7", x, 150, FILE, 2, 0, 5);
    trial("3 ahead of 5", x, 150, FILE, 1, 0, 3);
    trial("7", x, 150, FILE, 2, 1, 7);
    int contest = tell(x, 160, CONTEST, 3, 0);
    due("contested", x.outcome(contest, NONE), 0);
    trial("3 ahead of 6", x, 170, FILE, 1, 0, 3);
    trial("6 ahead of 7", x, 170, FILE, 2, 0, 6);
    trial("no 6 for the one who has it", x, 170, FILE, 3, 0, 0);
    tell(x, 165, FILE, 3, 0);
    trial("5 ahead of 6 and 7", x, 170, FILE, 2, 0, 5);
    trial("5 for the HOLDER himself", x, 170, FILE, 3, 0, 5);
    x.map(20001);
    trial("no RAILROAD: 5", x, 150, FILE, 3, 2, 5);
  }

  private static void ageAndCitizens() {
    part("FILE 2: the DAY less BIRTH is below age. 3: p is no CITIZEN by then");
    Land x = new Land();
    x.person(1000, 5000);
    x.person(-1000, -5000);
    law(x, 0, "age 3000");
    trial("a day too young", x, 3999, FILE, 0, 0, 2);
    trial("old enough, no CITIZEN", x, 4000, FILE, 0, 0, 3);
    trial("the day ahead of being one", x, 4999, FILE, 0, 0, 3);
    trial("on that day", x, 5000, FILE, 0, 0, 0);
    trial("born ahead of day 0, a day too young", x, 1999, FILE, 1, 0, 2);
    trial("born ahead of day 0, old enough", x, 2000, FILE, 1, 0, 0);
    trial("ahead of birth", x, 500, FILE, 0, 0, 2);
    law(x, 0, "age 0");
    trial("on the day of birth, no CITIZEN", x, 1000, FILE, 0, 0, 3);
    trial("the day ahead of birth", x, 999, FILE, 0, 0, 2);
  }

  private static void heldQuarters() {
    part("FILE 5: an ENTRY holds q");
    Land x = with(2, FREE + "idle 0 bind 5");
    tell(x, 10, FILE, 0, 0);
    trial("on the day ahead", x, 9, FILE, 1, 0, 0);
    trial("on the same day, behind", x, 10, FILE, 1, 0, 5);
    trial("by the HOLDER himself", x, 10, FILE, 0, 0, 5);
    trial("on another quarter", x, 10, FILE, 1, 1, 0);
    int prove = tell(x, 20, PROVE, 0, 0);
    trial("PROVED", x, 20, FILE, 1, 0, 5);
    trial("BINDS", x, 25, FILE, 1, 0, 5);
    x.strike(prove, true);
    int give = tell(x, 20, GIVE_UP, 0, 0);
    due("GIVE UP", x.outcome(give, NONE), 0);
    trial("given up that day", x, 20, FILE, 1, 0, 0);
    trial("the day ahead of that", x, 19, FILE, 1, 0, 5);
    x.strike(give, true);
    tell(x, 30, CONTEST, 1, 0);
    trial("contested that day", x, 30, FILE, 1, 0, 0);
    trial("the day ahead of that", x, 29, FILE, 1, 0, 5);
  }

  private static void mostEntries() {
    part("FILE 7: p had most ENTRIES or more by FILE (in all, those that ENDED, too)");
    Land x = with(3, "age 0 most 2 live 0 plough 0 gap 999 idle 0");
    tell(x, 10, FILE, 0, 0);
    trial("one, of two", x, 11, FILE, 0, 9, 0);
    tell(x, 11, FILE, 0, 1);
    trial("two, of two", x, 12, FILE, 0, 9, 7);
    tell(x, 13, GIVE_UP, 0, 0);
    trial("two, one of them given up", x, 13, FILE, 0, 9, 7);
    tell(x, 14, PROVE, 0, 1);
    trial("two, one of them PROVED", x, 14, FILE, 0, 9, 7);
    trial("another one's quarter does not count", x, 14, FILE, 1, 9, 0);
    tell(x, 9, FILE, 1, 9);
    tell(x, 10, FILE, 0, 9);
    due("a FILE that was not done", x.outcome(x.count(2) - 1, NONE), 5);
    trial("counts for nothing", x, 10, FILE, 0, 10, 0);
    tell(x, 15, DEATH, 0, 0, 1);
    trial("what was left to one is not by FILE", x, 15, FILE, 1, 11, 0);
    tell(x, 15, FILE, 1, 11);
    trial("two of one's own", x, 15, FILE, 1, 12, 7);
    law(x, 16, "most 3");
    trial("the day ahead of the law", x, 15, FILE, 1, 12, 7);
    trial("by the law of the day", x, 16, FILE, 1, 12, 0);
    law(x, 20, "most 1");
    trial("more than most", x, 20, FILE, 1, 12, 7);
    trial("none, of one", x, 20, FILE, 2, 12, 0);
    law(x, 30, "most 0");
    trial("none, of none", x, 30, FILE, 2, 12, 7);
  }

  private static void givingUp() {
    part("GIVE UP 8: no ENTRY that is LIVE holds q for p");
    Land x = with(2, FREE + "idle 0");
    trial("no ENTRY", x, 10, GIVE_UP, 0, 0, 8);
    tell(x, 10, FILE, 0, 0);
    trial("another one's", x, 10, GIVE_UP, 1, 0, 8);
    trial("another quarter", x, 10, GIVE_UP, 0, 1, 8);
    trial("the day ahead of FILE", x, 9, GIVE_UP, 0, 0, 8);
    trial("the day of FILE", x, 10, GIVE_UP, 0, 0, 0);
    int prove = tell(x, 11, PROVE, 0, 0);
    trial("the day ahead of PROVE", x, 10, GIVE_UP, 0, 0, 0);
    trial("PROVED", x, 11, GIVE_UP, 0, 0, 8);
    x.strike(prove, true);
    tell(x, 12, GIVE_UP, 0, 0);
    trial("given up already", x, 12, GIVE_UP, 0, 0, 8);
    due("ENDED", x.count(8), 1);
    tell(x, 13, FILE, 0, 0);
    trial("filed anew", x, 13, GIVE_UP, 0, 0, 0);
    tell(x, 14, DEATH, 0, 0, 1);
    trial("by the heir", x, 14, GIVE_UP, 1, 0, 0);
    trial("by the heir, the day ahead", x, 13, GIVE_UP, 1, 0, 8);
    due("no preference comes of it", x.holds(0, 12, NONE, 3), NONE);
  }

  private static void contestable() {
    part("CONTEST 9: no ENTRY that is LIVE holds q. 10: p is its HOLDER");
    Land x = with(3, FREE + "idle 3 prefer 9");
    trial("no ENTRY", x, 10, CONTEST, 1, 0, 9);
    tell(x, 10, FILE, 0, 0);
    trial("the day ahead of FILE", x, 9, CONTEST, 1, 0, 9);
    trial("by the HOLDER, 10 ahead of 11", x, 10, CONTEST, 0, 0, 10);
    trial("by the HOLDER of an idle one", x, 50, CONTEST, 0, 0, 10);
    trial("another quarter", x, 50, CONTEST, 1, 1, 9);
    int prove = tell(x, 49, PROVE, 0, 0);
    trial("PROVED", x, 50, CONTEST, 1, 0, 9);
    trial("PROVED, by the HOLDER: 9 ahead of 10", x, 50, CONTEST, 0, 0, 9);
    x.strike(prove, true);
    tell(x, 40, DEATH, 0, 0, 2);
    trial("by the heir", x, 50, CONTEST, 2, 0, 10);
    trial("by the heir, ahead of the death", x, 39, CONTEST, 2, 0, 0);
    tell(x, 50, CONTEST, 1, 0);
    trial("contested already", x, 50, CONTEST, 1, 0, 9);
    due("a contest that is not done brings no preference", x.holds(0, 49, NONE, 3), NONE);
    due("one that is done does", x.holds(0, 50, NONE, 3), 1);
  }

  private static void idleDays() {
    part("CONTEST 11: on a DAY of the idle ones just ahead; the ENTRY came on one of these or today");
    Land x = with(3, FREE + "idle 10");
    tell(x, 100, FILE, 0, 0);
    trial("the ENTRY came today", x, 100, CONTEST, 1, 0, 11);
    trial("the ENTRY came yesterday", x, 101, CONTEST, 1, 0, 11);
    trial("the ENTRY came on the earliest of these", x, 110, CONTEST, 1, 0, 11);
    trial("the ENTRY came the day ahead of these", x, 111, CONTEST, 1, 0, 0);
    int live = tell(x, 190, LIVE, 0, 0, 11);
    trial("the last day lived is the earliest of these", x, 210, CONTEST, 1, 0, 11);
    trial("it is the day ahead of these", x, 211, CONTEST, 1, 0, 0);
    trial("the first day lived is yesterday", x, 191, CONTEST, 1, 0, 11);
    trial("it is today", x, 190, CONTEST, 1, 0, 0);
    trial("lived all along", x, 200, CONTEST, 1, 0, 11);
    x.strike(live, true);
    trial("the LINE is STRUCK", x, 200, CONTEST, 1, 0, 0);
    live = tell(x, 195, LIVE, 1, 0, 3);
    trial("another one lived there", x, 200, CONTEST, 1, 0, 0);
    tell(x, 195, LIVE, 0, 1, 3);
    trial("he lived elsewhere", x, 200, CONTEST, 1, 0, 0);
    tell(x, 195, PLOUGH, 0, 0, 3);
    trial("he ploughed", x, 200, CONTEST, 1, 0, 0);
    int death = tell(x, 199, DEATH, 0, 0, 1);
    trial("the heir lived there", x, 200, CONTEST, 2, 0, 11);
    x.strike(live, true);
    tell(x, 193, LIVE, 0, 0, 1);
    trial("who was its HOLDER lived there", x, 200, CONTEST, 2, 0, 11);
    trial("the same, the last day of it", x, 203, CONTEST, 2, 0, 11);
    trial("the same, a day later", x, 204, CONTEST, 2, 0, 0);
    tell(x, 200, LIVE, 0, 0, 4);
    trial("a LINE that was not done", x, 204, CONTEST, 2, 0, 0);
    x.strike(death, true);
    trial("the same, done", x, 204, CONTEST, 2, 0, 11);
  }

  private static void idleNone() {
    part("CONTEST 11, with idle 0 and idle 1");
    Land x = with(2, FREE + "idle 0");
    tell(x, 100, FILE, 0, 0);
    tell(x, 100, LIVE, 0, 0, 50);
    trial("idle 0, the ENTRY came today", x, 100, CONTEST, 1, 0, 11);
    trial("idle 0, the ENTRY came yesterday", x, 101, CONTEST, 1, 0, 0);
    law(x, 0, "idle 1");
    trial("idle 1, the ENTRY came yesterday", x, 101, CONTEST, 1, 0, 11);
    trial("idle 1, lived yesterday", x, 102, CONTEST, 1, 0, 11);
    trial("idle 1, lived yesterday for the last time", x, 150, CONTEST, 1, 0, 11);
    trial("idle 1, not lived yesterday", x, 151, CONTEST, 1, 0, 0);
    Land y = with(2, FREE + "idle 30");
    tell(y, 0, FILE, 0, 0);
    trial("DAYS ahead of day 0, today", y, 0, CONTEST, 1, 0, 11);
    trial("DAYS ahead of day 0", y, 10, CONTEST, 1, 0, 11);
    trial("day 0 the earliest", y, 30, CONTEST, 1, 0, 11);
    trial("day 1 the earliest", y, 31, CONTEST, 1, 0, 0);
  }

  private static void preferences() {
    part("p has a PREFERENCE for q on this DAY and the prefer ones behind it");
    Land x = with(4, FREE + "idle 3 prefer 5");
    tell(x, 10, FILE, 0, 0);
    int contest = tell(x, 20, CONTEST, 1, 0);
    due("the day ahead", x.holds(0, 19, NONE, 3), NONE);
    due("this DAY", x.holds(0, 20, NONE, 3), 1);
    due("the last of these", x.holds(0, 25, NONE, 3), 1);
    due("the day behind", x.holds(0, 26, NONE, 3), NONE);
    due("another quarter", x.holds(1, 20, NONE, 3), NONE);
    due("as known ahead of the LINE", x.holds(0, 20, contest, 3), NONE);
    due("as known with it", x.holds(0, 20, contest + 1, 3), 1);
    due("no ENTRY holds it", x.holds(0, 20, NONE, 0), NONE);
    due("it ENDED", x.count(8), 1);
    trial("another one, this DAY", x, 20, FILE, 2, 0, 6);
    trial("another one, the last of these", x, 25, FILE, 2, 0, 6);
    trial("another one, the day behind", x, 26, FILE, 2, 0, 0);
    trial("who was contested", x, 25, FILE, 0, 0, 6);
    trial("another quarter", x, 20, FILE, 2, 1, 0);
    trial("p, this DAY", x, 20, FILE, 1, 0, 0);
    trial("p, the day behind", x, 26, FILE, 1, 0, 0);
    tell(x, 21, FILE, 1, 0);
    due("it is p's still, who filed", x.holds(0, 21, NONE, 3), 1);
    int give = tell(x, 22, GIVE_UP, 1, 0);
    trial("given up, it is p's still", x, 23, FILE, 2, 0, 6);
    x.strike(give, true);
    tell(x, 25, CONTEST, 2, 0);
    due("in place of one there", x.holds(0, 25, NONE, 3), 2);
    trial("who had it ahead", x, 25, FILE, 1, 0, 6);
    due("its last day", x.holds(0, 30, NONE, 3), 2);
    due("the day behind that", x.holds(0, 31, NONE, 3), NONE);
    tell(x, 27, DEATH, 2, 0, 3);
    due("a dead one's is nobody else's", x.holds(0, 28, NONE, 3), 2);
    trial("the heir has none", x, 28, FILE, 3, 0, 6);
  }

  private static void preferenceInPlace() {
    part("a PREFERENCE in place of one there");
    Land x = with(4, FREE + "idle 0 prefer 50");
    law(x, 15, "prefer 2");
    law(x, 40, "prefer 0");
    tell(x, 10, FILE, 0, 0);
    tell(x, 12, CONTEST, 1, 0);
    tell(x, 20, FILE, 1, 0);
    due("50 days", x.holds(0, 62, NONE, 3), 1);
    int second = tell(x, 30, CONTEST, 2, 0);
    due("the second, its last day", x.holds(0, 32, NONE, 3), 2);
    due("the first one's is gone", x.holds(0, 33, NONE, 3), NONE);
    due("ahead of the second it is there", x.holds(0, 29, NONE, 3), 1);
    trial("FILE of a third one, then", x, 33, FILE, 3, 0, 0);
    x.strike(second, true);
    due("the second STRUCK, the first is there again", x.holds(0, 62, NONE, 3), 1);
    due("for its days", x.holds(0, 63, NONE, 3), NONE);
    Land y = with(3, FREE + "idle 0 prefer 0");
    tell(y, 10, FILE, 0, 0);
    tell(y, 12, CONTEST, 1, 0);
    due("prefer 0: this DAY", y.holds(0, 12, NONE, 3), 1);
    due("prefer 0: none behind it", y.holds(0, 13, NONE, 3), NONE);
    trial("prefer 0: this DAY, another one", y, 12, FILE, 2, 0, 6);
    trial("prefer 0: the day behind, another one", y, 13, FILE, 2, 0, 0);
  }

  private static void proving() {
    part("PROVE: the first of these that fits");
    Land x = with(2, "age 0 term 10 live 3 gap 3 plough 2 most 9");
    trial("no ENTRY", x, 100, PROVE, 0, 0, 8);
    tell(x, 100, FILE, 0, 0);
    trial("8 ahead of 12", x, 111, PROVE, 1, 0, 8);
    trial("8 ahead of 13", x, 101, PROVE, 1, 0, 8);
    trial("12 ahead of 13, 14, 15", x, 111, PROVE, 0, 0, 12);
    trial("13 ahead of 14, 15", x, 110, PROVE, 0, 0, 13);
    tell(x, 104, LIVE, 0, 0, 3);
    trial("14 ahead of 15", x, 110, PROVE, 0, 0, 14);
    tell(x, 100, LIVE, 0, 0, 1);
    trial("15", x, 110, PROVE, 0, 0, 15);
    tell(x, 110, PLOUGH, 0, 0, 2);
    trial("none", x, 110, PROVE, 0, 0, 0);
    trial("12 alone", x, 111, PROVE, 0, 0, 12);
    tell(x, 110, PROVE, 0, 0);
    trial("PROVED: 8 ahead of 12", x, 111, PROVE, 0, 0, 8);
    trial("PROVED: 8 on that day", x, 110, PROVE, 0, 0, 8);
    tell(x, 100, DEATH, 0, 0, 1);
    trial("the heir", x, 110, PROVE, 1, 0, 13);
  }

  private static void terms() {
    part("PROVE 12: the DAY is more than term behind that of the FILE");
    int[] terms = {0, 1, 50, 19900};
    for (int term : terms) {
      Land x = with(1, "age 0 live 0 plough 0 gap 99999 term " + term);
      tell(x, 100, FILE, 0, 0);
      trial("term " + term + ", on its last day", x, 100 + term, PROVE, 0, 0, 0);
      if (term < 19900) trial("term " + term + ", a day later", x, 101 + term, PROVE, 0, 0, 12);
    }
    Land y = with(1, "age 0 live 0 plough 0 gap 99999 term 5 most 9");
    tell(y, 10, FILE, 0, 0);
    tell(y, 12, GIVE_UP, 0, 0);
    tell(y, 13, FILE, 0, 0);
    trial("of the second FILE, its last day", y, 18, PROVE, 0, 0, 0);
    trial("of the second FILE, a day later", y, 19, PROVE, 0, 0, 12);
  }

  private static void daysLived() {
    part("PROVE 13: DAYS from that of FILE up to the one ahead of this are fewer than live");
    Land x = with(3, "age 0 live 5 plough 0 gap 99999 term 99999 most 9");
    tell(x, 100, FILE, 0, 0);
    int live = tell(x, 100, LIVE, 0, 0, 5);
    trial("4 days up to the one ahead", x, 104, PROVE, 0, 0, 13);
    trial("5 days up to the one ahead", x, 105, PROVE, 0, 0, 0);
    trial("long behind", x, 9000, PROVE, 0, 0, 0);
    x.strike(live, true);
    live = tell(x, 100, LIVE, 0, 0, 4);
    trial("4 days, long behind", x, 9000, PROVE, 0, 0, 13);
    int more = tell(x, 103, LIVE, 0, 0, 1);
    trial("the same day twice counts once", x, 200, PROVE, 0, 0, 13);
    x.strike(more, true);
    more = tell(x, 101, LIVE, 0, 0, 2);
    trial("days in the midst of others count once", x, 200, PROVE, 0, 0, 13);
    x.strike(more, true);
    more = tell(x, 103, LIVE, 0, 0, 2);
    trial("one day more", x, 200, PROVE, 0, 0, 0);
    x.strike(more, true);
    more = tell(x, 96, LIVE, 0, 0, 4);
    trial("days ahead of that of FILE", x, 200, PROVE, 0, 0, 13);
    x.strike(more, true);
    more = tell(x, 150, LIVE, 1, 0, 9);
    trial("another one's days", x, 200, PROVE, 0, 0, 13);
    more = tell(x, 150, LIVE, 0, 1, 9);
    trial("days elsewhere", x, 200, PROVE, 0, 0, 13);
    tell(x, 104, LIVE, 2, 0, 1);
    trial("a day of one who has not been its HOLDER", x, 200, PROVE, 0, 0, 13);
    int death = tell(x, 110, DEATH, 0, 0, 2);
    trial("the same of one who has", x, 200, PROVE, 2, 0, 0);
    trial("the days of both, of a day ahead of the death", x, 109, PROVE, 0, 0, 13);
    x.strike(death, true);
    x.strike(live, true);
    tell(x, 99, LIVE, 0, 0, 6);
    trial("told for the day ahead of FILE, five of six", x, 105, PROVE, 0, 0, 0);
    trial("told for the day ahead of FILE, four", x, 104, PROVE, 0, 0, 13);
  }

  private static void daysLivedAsTold() {
    part("DAYS lived there as for 13, up to that DAY and with it (0 without an ENTRY)");
    Land x = with(3, FREE);
    tell(x, 100, FILE, 0, 0);
    tell(x, 98, LIVE, 0, 0, 4);
    int late = tell(x, 110, LIVE, 0, 0, 10);
    tell(x, 115, LIVE, 0, 0, 2);
    tell(x, 118, LIVE, 0, 0, 5);
    int[] days = {99, 100, 101, 102, 109, 110, 119, 120, 122, 123, LAST};
    int[] want = {0, 1, 2, 2, 2, 3, 12, 13, 15, 15, 15};
    for (int i = 0; i < days.length; i++) due("on day " + days[i], x.holds(0, days[i], NONE, 4), want[i]);
    due("as known ahead of that LINE", x.holds(0, 119, late, 4), 2);
    due("another quarter", x.holds(1, 119, NONE, 4), 0);
    int prove = tell(x, 112, PROVE, 0, 0);
    due("PROVED", x.outcome(prove, NONE), 0);
    due("days go on", x.holds(0, 119, NONE, 4), 12);
    x.strike(prove, true);
    int give = tell(x, 112, GIVE_UP, 0, 0);
    due("given up: 0", x.holds(0, 112, NONE, 4), 0);
    due("the day ahead", x.holds(0, 111, NONE, 4), 4);
    tell(x, 120, FILE, 1, 0);
    tell(x, 121, LIVE, 1, 0, 1);
    due("of the ENTRY that holds it alone", x.holds(0, 130, NONE, 4), 1);
    x.strike(give, true);
    tell(x, 121, DEATH, 0, 0, 1);
    due("the days of both, one of them lived by both", x.holds(0, 130, NONE, 4), 15);
    due("on the day ahead, of the first alone", x.holds(0, 120, NONE, 4), 13);
  }

  private static void gapsOfDays() {
    part("PROVE 14: more than gap one behind the other are none on which such a one lived there");
    Land x = with(2, "age 0 live 0 plough 0 gap 4 term 99999 most 9");
    tell(x, 100, FILE, 0, 0);
    trial("4 days and none lived", x, 104, PROVE, 0, 0, 0);
    trial("5 days and none lived", x, 105, PROVE, 0, 0, 14);
    int live = tell(x, 104, LIVE, 0, 0, 2);
    trial("4 ahead of the first one lived", x, 106, PROVE, 0, 0, 0);
    trial("4 behind the last one", x, 110, PROVE, 0, 0, 0);
    trial("5 behind the last one", x, 111, PROVE, 0, 0, 14);
    x.strike(live, true);
    live = tell(x, 105, LIVE, 0, 0, 2);
    trial("5 ahead of the first one", x, 107, PROVE, 0, 0, 14);
    tell(x, 100, LIVE, 0, 0, 1);
    trial("4 in between", x, 107, PROVE, 0, 0, 0);
    x.strike(live, true);
    live = tell(x, 106, LIVE, 0, 0, 2);
    trial("5 in between", x, 108, PROVE, 0, 0, 14);
    int other = tell(x, 103, LIVE, 1, 0, 1);
    trial("another one in between", x, 108, PROVE, 0, 0, 14);
    tell(x, 90, LIVE, 0, 0, 10);
    trial("lived up to the day ahead of FILE", x, 108, PROVE, 0, 0, 14);
    int within = tell(x, 101, LIVE, 0, 0, 1);
    trial("lived the day behind the first", x, 108, PROVE, 0, 0, 0);
    x.strike(within, true);
    int death = tell(x, 107, DEATH, 0, 0, 1);
    trial("the heir's day in between", x, 108, PROVE, 1, 0, 0);
    x.strike(death, true);
    x.strike(other, true);
    tell(x, 101, LIVE, 0, 0, 30);
    tell(x, 103, LIVE, 0, 0, 2);
    trial("a short time in the midst of a long one", x, 135, PROVE, 0, 0, 0);
    trial("behind the long one", x, 136, PROVE, 0, 0, 14);
  }

  private static void gapNone() {
    part("PROVE 14, with gap 0");
    Land x = with(1, "age 0 live 0 plough 0 gap 0 term 99999");
    tell(x, 100, FILE, 0, 0);
    trial("on the day of FILE, no DAYS", x, 100, PROVE, 0, 0, 0);
    trial("one day, not lived", x, 101, PROVE, 0, 0, 14);
    int live = tell(x, 100, LIVE, 0, 0, 3);
    trial("all lived", x, 103, PROVE, 0, 0, 0);
    trial("the last not lived", x, 104, PROVE, 0, 0, 14);
    x.strike(live, true);
    tell(x, 101, LIVE, 0, 0, 3);
    trial("the first not lived", x, 103, PROVE, 0, 0, 14);
    tell(x, 100, LIVE, 0, 0, 1);
    trial("lived, one time hard upon the other", x, 104, PROVE, 0, 0, 0);
  }

  private static void acresPloughed() {
    part("PROVE 15: acres ploughed on q by such (by LINES done from FILE on) are fewer than plough");
    Land x = with(3, "age 0 live 0 gap 99999 plough 5 term 99999 most 99");
    int ahead = tell(x, 99, PLOUGH, 0, 0, 160);
    tell(x, 100, FILE, 0, 0);
    trial("none", x, 110, PROVE, 0, 0, 15);
    int four = tell(x, 100, PLOUGH, 0, 0, 4);
    due("told as known ahead of it", x.holds(0, 100, four, 5), 0);
    due("told as known with it", x.holds(0, 100, four + 1, 5), 4);
    trial("4 acres", x, 110, PROVE, 0, 0, 15);
    int one = tell(x, 110, PLOUGH, 0, 0, 1);
    trial("5 acres, the last today", x, 110, PROVE, 0, 0, 0);
    trial("the day ahead", x, 109, PROVE, 0, 0, 15);
    due("told on the day", x.holds(0, 110, NONE, 5), 5);
    due("told on the day ahead", x.holds(0, 109, NONE, 5), 4);
    due("told ahead of FILE", x.holds(0, 99, NONE, 5), 0);
    x.strike(one, true);
    tell(x, 105, PLOUGH, 1, 0, 1);
    trial("another one's acre", x, 110, PROVE, 0, 0, 15);
    tell(x, 105, PLOUGH, 0, 1, 1);
    trial("an acre elsewhere", x, 110, PROVE, 0, 0, 15);
    int death = tell(x, 106, DEATH, 0, 0, 1);
    trial("the heir's acre", x, 110, PROVE, 1, 0, 0);
    tell(x, 107, PLOUGH, 0, 0, 100);
    due("a LINE that was not done", x.holds(0, 110, NONE, 5), 5);
    x.strike(death, true);
    due("the same, done; the heir's is another one's", x.holds(0, 110, NONE, 5), 104);
    x.strike(ahead, true);
    due("what was ploughed ahead of FILE did not count", x.holds(0, 110, NONE, 5), 104);
    tell(x, 108, GIVE_UP, 0, 0);
    due("0 without an ENTRY", x.holds(0, 110, NONE, 5), 0);
    tell(x, 109, FILE, 0, 0);
    due("0 for the next ENTRY", x.holds(0, 110, NONE, 5), 0);
  }

  private static void binding() {
    part("it is PROVED; it BINDS from bind DAYS later on");
    int[] binds = {0, 1, 7};
    for (int bind : binds) {
      Land x = with(2, FREE + "bind " + bind);
      tell(x, 10, FILE, 0, 0);
      tell(x, 20, PROVE, 0, 0);
      due("ahead of PROVE", x.holds(0, 19, NONE, 1), 1);
      due("bind " + bind + ", that DAY", x.holds(0, 20, NONE, 1), bind == 0 ? 3 : 2);
      if (bind > 0) due("bind " + bind + ", the day ahead of it", x.holds(0, 19 + bind, NONE, 1), 2);
      due("bind " + bind + ", from that day on", x.holds(0, 20 + bind, NONE, 1), 3);
      due("on the last day", x.holds(0, LAST, NONE, 1), 3);
      due("as known ahead of PROVE", x.holds(0, LAST, 1, 1), 1);
      law(x, 20, "bind 99");
      due("by the ENTRY's LAW", x.holds(0, 20 + bind, NONE, 1), 3);
      tell(x, 21, DEATH, 0, 0, 1);
      due("the heir's BINDS too", x.holds(0, 20 + Math.max(1, bind), NONE, 1), 3);
      due("PROVED ones", x.count(7), 1);
      due("LIVE ones", x.count(6), 0);
    }
  }

  private static void deaths() {
    part("DEATH 16: the heir is dead, or p; ENTRIES that hold for p, hold for the heir");
    Land x = with(4, FREE + "idle 0");
    trial("one's own heir", x, 10, DEATH, 0, 0, 16);
    tell(x, 5, FILE, 0, 0);
    tell(x, 5, FILE, 0, 63);
    tell(x, 5, FILE, 1, 30);
    tell(x, 5, FILE, 0, 31);
    tell(x, 6, GIVE_UP, 0, 31);
    tell(x, 6, PROVE, 0, 63);
    due("one's own heir did not die", x.count(9), 0);
    int first = tell(x, 10, DEATH, 0, 0, 1);
    int again = tell(x, 10, DEATH, 1, 0, 0);
    due("done", x.outcome(first, NONE), 0);
    due("a dead heir", x.outcome(again, NONE), 16);
    due("who has a dead heir is not dead", x.outcome(tell(x, 11, LIVE, 1, 0, 1), NONE), 0);
    due("dead", x.count(9), 1);
    int[] quarters = {0, 63, 30, 31};
    int[] holders = {1, 1, 1, NONE};
    for (int i = 0; i < 4; i++) due("HOLDER of " + quarters[i], x.holds(quarters[i], 10, NONE, 0), holders[i]);
    due("the LINE of FILE is as it was", x.holds(0, 10, NONE, 2), x.holds(0, 9, NONE, 2));
    due("holdings of the heir", x.holdings(1, NONE), 3);
    due("holdings of the dead", x.holdings(0, NONE), 0);
    due("LIVE ones", x.count(6), 2);
    due("PROVED ones", x.count(7), 1);
    due("ENDED ones", x.count(8), 1);
    tell(x, 12, DEATH, 1, 0, 2);
    due("left again", x.holdings(2, NONE), 3);
    int swap = tell(x, 9, DEATH, 1, 0, 0);
    due("told late: the heir died ahead", x.outcome(first, NONE), 16);
    due("done", x.outcome(swap, NONE), 0);
    due("so he holds what the other had", x.holdings(0, NONE), 3);
    due("a DEATH of one who is dead", x.outcome(swap - 1, NONE), 1);
    due("dead", x.count(9), 1);
  }

  // ---- 4 as known

  private static void asKnown() {
    part("as of the first k LINES alone (k = NONE: of all; STRUCK ones are STRUCK in it, too)");
    Land x = with(2, FREE + "idle 0");
    tell(x, 30, FILE, 0, 0);
    tell(x, 20, FILE, 1, 0);
    tell(x, 40, GIVE_UP, 1, 0);
    tell(x, 10, DEATH, 1, 0, 0);
    int[][] outcomes = {{NONE, NONE, NONE, NONE}, {0, NONE, NONE, NONE}, {5, 0, NONE, NONE}, {5, 0, 0, NONE}, {0, 1, 1, 0}};
    int[] holders = {NONE, 0, 1, NONE, 0};
    for (int k = 0; k <= 4; k++) {
      int d = 7;
      for (int l = 0; l < 4; l++) {
        due("outcome of " + l + " by " + k, x.outcome(l, k), outcomes[k][l]);
        if (l < k) d = 31 * d + outcomes[k][l];
      }
      d = 31 * d + holders[k];
      for (int q = 1; q < 64; q++) d = 31 * d - 1;
      due("digest by " + k, x.digest(k), d);
      due("HOLDER by " + k, x.holds(0, LAST, k, 0), holders[k]);
      for (int p = 0; p < 2; p++) due("holdings of " + p + " by " + k, x.holdings(p, k), holders[k] == p ? 1 : 0);
    }
    for (int l = 0; l < 4; l++) due("outcome of " + l + " by all", x.outcome(l, NONE), outcomes[4][l]);
    due("digest by all", x.digest(NONE), x.digest(4));
    int[] outside = {-2, 5, MIN, MAX};
    for (int k : outside) {
      due("outcome by " + k, x.outcome(0, k), OUTSIDE);
      due("HOLDER by " + k, x.holds(0, 0, k, 0), OUTSIDE);
      due("holdings by " + k, x.holdings(0, k), OUTSIDE);
      due("digest by " + k, x.digest(k), OUTSIDE);
    }
    x.strike(1, true);
    due("STRUCK, by the first two", x.outcome(1, 2), NONE);
    due("the first one is done then", x.outcome(0, 2), 0);
    due("STRUCK, as known ahead of it", x.outcome(0, 1), 0);
  }

  private static void digestWraps() {
    part("digest: d becomes 31 d and that (wrapping)");
    Land x = with(3, FREE + "idle 1");
    for (int l = 0; l < 60; l++) tell(x, 60 - l, l % 7 == 6 ? LIVE : l % 6, l % 3, 7 * l % 64, 1);
    x.strike(17, true);
    int d = 7;
    long wide = 7;
    for (int l = 0; l < 60; l++) {
      int o = x.outcome(l, NONE);
      d = 31 * d + o;
      wide = Math.floorMod(31 * wide + o, 1L << 32);
    }
    for (int q = 0; q < 64; q++) {
      int h = x.holds(q, LAST, NONE, 0);
      d = 31 * d + h;
      wide = Math.floorMod(31 * wide + h, 1L << 32);
    }
    due("digest", x.digest(NONE), d);
    due("digest modulo 2 to the 32", Math.floorMod((long) x.digest(60), 1L << 32), wide);
  }

  private static void toldAsARefusalIs() {
    part("what is told may be as a refusal is");
    Land x = with(2, FREE);
    int[] refusals = {NONE, UNKNOWN, OUTSIDE, NOT, FULL};
    for (int r : refusals) {
      int file = x.line(0, FILE, 0, 0, r);
      due("n", x.told(file, 4), r);
      int death = x.line(0, DEATH, 0, r, 0);
      due("q of DEATH", x.told(death, 3), r);
    }
  }

  public static void main(String[] args) {
    lastCall();
    bookEmptyOfAll();
    oddQuarters();
    daysOfTheMap();
    mapAndEntries();
    twelvePersons();
    birthAndCitizenship();
    firstLaw();
    eightLaws();
    textsOf120Bytes();
    textsByFeeds();
    anyNumberOfPairs();
    noFault();
    misplaced();
    bytesBesideThese();
    tooLong();
    twice();
    firstOfFaults();
    lawsBeforeALaw();
    lawsOfDays();
    lawOfTheDayOfALine();
    greatNumbersOfALaw();
    bookOf120();
    numbersOfLines();
    whatIsNotLookedAt();
    struckLines();
    linesByDays();
    dead();
    reasonsOfFile();
    ageAndCitizens();
    heldQuarters();
    mostEntries();
    givingUp();
    contestable();
    idleDays();
    idleNone();
    preferences();
    preferenceInPlace();
    proving();
    terms();
    daysLived();
    daysLivedAsTold();
    gapsOfDays();
    gapNone();
    acresPloughed();
    binding();
    deaths();
    asKnown();
    digestWraps();
    toldAsARefusalIs();
    end("all boundary cases of the terms hold");
  }
}

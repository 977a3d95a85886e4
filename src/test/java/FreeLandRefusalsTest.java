import java.util.ArrayList;
import java.util.List;

/**
 * Every refusal of every call, on both sides of every bound, the order of two that would both fit,
 * and that what is refused changes nothing: of two objects made alike one is asked what is refused,
 * and then both answer alike to a round of questions that takes in all that was told.
 */
public final class FreeLandRefusalsTest extends Check {
  private interface Call {
    long on(Land x);
  }

  private interface Made {
    Land anew();
  }

  // ---- objects made alike

  private static Land empty() {
    return new Land();
  }

  /** Some of everything: 3 persons, 3 laws, a text, 9 lines, one of them struck, corners moved and lost. */
  private static Land some() {
    Land x = with(3, "age 0 live 2 gap 50 plough 1 idle 4 prefer 9 most 3");
    law(x, 40, "most 2 bind 3");
    law(x, 20, "gap gap");
    law(x, 20, "gap 40");
    x.map(300);
    x.line(50, FILE, 0, 0, 0);
    x.line(51, LIVE, 0, 0, 3);
    x.line(52, PLOUGH, 0, 0, 4);
    x.line(60, PROVE, 0, 0, 0);
    x.line(41, FILE, 1, 1, 0);
    x.line(70, CONTEST, 2, 1, 0);
    x.line(72, FILE, 0, 1, 0);
    x.line(80, DEATH, 0, 0, 2);
    x.line(10, FILE, 2, 0, 0);
    x.strike(8, true);
    x.corner(1, 1, 111, 122);
    x.lose(3, 0);
    x.lose(0, 0);
    law(x, 30, "live");
    feed(x, "gap 7");
    return x;
  }

  /** Full of all that can be full: 12 persons, 8 laws, a text of 120 bytes, 120 lines. */
  private static Land full() {
    Land x = with(12, "age 0 live 1 gap 90 plough 0 idle 0 most 30");
    for (int l = 1; l < 8; l++) x.law(100 * l);
    for (int l = 0; l < 120; l++) x.line(119 - l, l % 6, l % 12, l % 5, 1 + l % 3);
    x.strike(5, true);
    feed(x, "gap 123" + " ".repeat(113));
    return x;
  }

  // ---- a round of questions

  private static List<Long> answers(Land x) {
    List<Long> all = new ArrayList<>();
    for (int what = 0; what <= 10; what++) all.add((long) x.count(what));
    all.add((long) x.place());
    int laws = x.count(1);
    for (int l = NONE; l < laws; l++) {
      for (int what = 0; what <= 9; what++) all.add((long) x.sets(l, what));
    }
    for (int day = 0; day <= 60; day += 20) all.add((long) x.lawOf(day));
    int lines = x.count(2);
    for (int l = 0; l < lines; l += l < 8 ? 1 : 37) {
      for (int what = 0; what <= 5; what++) all.add((long) x.told(l, what));
    }
    all.add((long) x.digest(NONE));
    all.add((long) x.digest(lines / 2));
    for (int q = 0; q <= 2; q++) {
      for (int what = 0; what <= 5; what++) all.add((long) x.holds(q, 75, NONE, what));
    }
    for (int q = 0; q < 64; q += 3) all.add(x.area(q));
    for (int c = 0; c <= 8; c += 4) {
      for (int what = 0; what <= 2; what++) all.add((long) x.lies(c, 0, what));
    }
    all.add((long) x.map(5));
    all.add((long) x.law(11));
    all.add((long) x.place());
    for (int what = 0; what <= 9; what++) all.add((long) x.sets(laws, what));
    return all;
  }

  private static void refused(Made made, String what, Call call, int want) {
    Land x = made.anew();
    due(what, call.on(x), want);
    due(what + ", a second time", call.on(x), want);
    due(what + " changed something", answers(x).equals(answers(made.anew())) ? 0 : 1, 0);
  }

  /** Refused the same way by an object with nothing in it, with some of everything, and by a full one. */
  private static void always(String what, Call call, int want) {
    refused(FreeLandRefusalsTest::empty, what + " of an empty one", call, want);
    refused(FreeLandRefusalsTest::some, what, call, want);
    refused(FreeLandRefusalsTest::full, what + " of a full one", call, want);
  }

  private static void bySome(String what, Call call, int want) {
    refused(FreeLandRefusalsTest::some, what, call, want);
  }

  private static void byFull(String what, Call call, int want) {
    refused(FreeLandRefusalsTest::full, what + " of a full one", call, want);
  }

  // ---- the calls

  private static void questionsChangeNothing() {
    part("what is asked changes nothing");
    Land x = some();
    List<Long> first = answers(some());
    x.outcome(3, 4);
    x.holds(1, 71, 6, 3);
    x.holdings(2, 2);
    x.digest(1);
    x.lies(3, 0, 0);
    x.area(2);
    x.told(8, 5);
    x.sets(1, 4);
    x.count(10);
    due("answers as ahead", answers(x).equals(first) ? 1 : 0, 1);
    due("another object's differ", answers(full()).equals(first) ? 1 : 0, 0);
  }

  private static void persons() {
    part("2 person: OUTSIDE, FULL");
    int[] births = {-20001, 20001, MIN, MAX};
    for (int birth : births) always("birth " + birth, x -> x.person(birth, 0), OUTSIDE);
    int[] citizens = {-20001, 20002, MIN, MAX};
    for (int citizen : citizens) always("citizen " + citizen, x -> x.person(0, citizen), OUTSIDE);
    always("both", x -> x.person(20001, 20002), OUTSIDE);
    byFull("a thirteenth", x -> x.person(0, 0), FULL);
    byFull("a thirteenth at the first bounds", x -> x.person(-20000, -20000), FULL);
    byFull("a thirteenth at the last bounds", x -> x.person(20000, 20001), FULL);
    Land x = some();
    due("no number is lost by what was refused", x.person(0, 20002) == OUTSIDE ? x.person(0, 0) : -9, 3);
  }

  private static void maps() {
    part("3 map: OUTSIDE");
    int[] days = {-1, 20002, MIN, MAX};
    for (int day : days) always("map " + day, x -> x.map(day), OUTSIDE);
  }

  private static void feeds() {
    part("4 feed: OUTSIDE, FULL");
    int[] ns = {0, 9, -1, MIN, MAX, 120, 121};
    for (int n : ns) always("feed " + n, x -> x.feed(n, 0x6161616161616161L), OUTSIDE);
    for (int n = 1; n <= 8; n++) {
      int more = n;
      byFull("feed " + n, x -> x.feed(more, -1L), FULL);
    }
    for (int room = 1; room <= 7; room++) {
      Land x = new Land();
      for (int i = 0; i < 14; i++) x.feed(8, 0x2020202020202020L);
      due("room of " + room, x.feed(8 - room, 0x2020202020202020L), 120 - room);
      for (int n = room + 1; n <= 8; n++) due("of " + n + " none come", x.feed(n, -1L), FULL);
      due("bytes", x.count(4), 120 - room);
      due("as many as there is room for", x.feed(room, 0x2020202020202020L), 120);
      due("one more", x.feed(1, 32), FULL);
      due("blanks alone", x.law(0), 0);
      due("room again", x.feed(8, 0x2020202020202020L), 8);
    }
  }

  private static void laws() {
    part("5 law: OUTSIDE (it stays then), FULL (likewise)");
    int[] days = {-1, 20001, MIN, MAX};
    for (int day : days) always("law from " + day, x -> x.law(day), OUTSIDE);
    int[] within = {0, 20000};
    for (int day : within) byFull("law from " + day, x -> x.law(day), FULL);
    Land x = new Land();
    for (int l = 0; l < 7; l++) x.law(l);
    law(x, 0, "live 1 live");
    due("place", x.place(), 7);
    feed(x, "live");
    due("OUTSIDE", x.law(20001), OUTSIDE);
    due("place as of the latest that was not refused", x.place(), 7);
    due("the text stayed, with its FAULT", x.law(0), -11);
    due("its place", x.place(), 4);
    due("a text with a FAULT takes no law's place", x.law(0), 7);
    due("place", x.place(), NONE);
    feed(x, "?");
    due("FULL, with a FAULT", x.law(0), FULL);
    due("place still", x.place(), NONE);
    due("the text stays", x.count(4), 1);
  }

  private static void setsOfLaws() {
    part("7 sets: UNKNOWN, OUTSIDE");
    int[] never = {-2, 8, MIN, MAX};
    int[] wild = {-1, 10, MIN, MAX};
    for (int l : never) {
      always("law " + l, x -> x.sets(l, 0), UNKNOWN);
      always("law " + l + ", its day", x -> x.sets(l, 9), UNKNOWN);
      for (int what : wild) always("law " + l + ", what " + what, x -> x.sets(l, what), UNKNOWN);
    }
    bySome("one over", x -> x.sets(3, 0), UNKNOWN);
    refused(FreeLandRefusalsTest::empty, "the first of none", x -> x.sets(0, 0), UNKNOWN);
    for (int what : wild) {
      always("of none, what " + what, x -> x.sets(NONE, what), OUTSIDE);
      bySome("what " + what, x -> x.sets(2, what), OUTSIDE);
      byFull("what " + what, x -> x.sets(7, what), OUTSIDE);
    }
  }

  private static void lawsOfDays() {
    part("8 lawOf: OUTSIDE");
    int[] days = {-1, 20001, MIN, MAX};
    for (int day : days) always("LAW of " + day, x -> x.lawOf(day), OUTSIDE);
  }

  private static void linesUnknown() {
    part("9 line: UNKNOWN (p; q; an heir)");
    int[] persons = {-1, 12, MIN, MAX};
    int[] quarters = {-1, 64, MIN, MAX};
    for (int sort = FILE; sort <= DEATH; sort++) {
      int s = sort;
      for (int p : persons) always("sort " + s + ", p " + p, x -> x.line(0, s, p, 0, 1), UNKNOWN);
      bySome("sort " + s + ", p one over", x -> x.line(0, s, 3, 0, 1), UNKNOWN);
      refused(FreeLandRefusalsTest::empty, "sort " + s + ", p of none", x -> x.line(0, s, 0, 0, 0), UNKNOWN);
      for (int q : quarters) {
        if (s == DEATH) continue;
        bySome("sort " + s + ", q " + q, x -> x.line(0, s, 0, q, 1), UNKNOWN);
        bySome("UNKNOWN ahead of OUTSIDE, sort " + s + ", q " + q, x -> x.line(20001, s, 0, q, 0), UNKNOWN);
        byFull("UNKNOWN ahead of FULL, sort " + s + ", q " + q, x -> x.line(0, s, 0, q, 1), UNKNOWN);
      }
      bySome("UNKNOWN ahead of OUTSIDE, sort " + s, x -> x.line(-1, s, 3, 0, 0), UNKNOWN);
      byFull("UNKNOWN ahead of OUTSIDE and FULL, sort " + s, x -> x.line(-1, s, 12, 0, 0), UNKNOWN);
    }
    for (int heir : persons) {
      bySome("heir " + heir, x -> x.line(0, DEATH, 0, 0, heir), UNKNOWN);
      bySome("UNKNOWN ahead of OUTSIDE, heir " + heir, x -> x.line(20001, DEATH, 0, 0, heir), UNKNOWN);
      byFull("UNKNOWN ahead of FULL, heir " + heir, x -> x.line(0, DEATH, 0, 0, heir), UNKNOWN);
    }
    bySome("an heir one over", x -> x.line(0, DEATH, 0, 0, 3), UNKNOWN);
  }

  private static void linesOutside() {
    part("9 line: OUTSIDE (the DAY, SORT, n)");
    int[] days = {-1, 20001, MIN, MAX};
    int[] sorts = {-1, 7, MIN, MAX};
    for (int sort : sorts) {
      bySome("sort " + sort, x -> x.line(0, sort, 0, 0, 1), OUTSIDE);
      always("no such SORT: OUTSIDE alone, with p UNKNOWN, " + sort, x -> x.line(0, sort, 99, 0, 1), OUTSIDE);
      always("no such SORT: OUTSIDE alone, with all UNKNOWN, " + sort, x -> x.line(-1, sort, -1, 64, -1), OUTSIDE);
      byFull("OUTSIDE ahead of FULL, sort " + sort, x -> x.line(0, sort, 0, 0, 1), OUTSIDE);
    }
    for (int day : days) {
      for (int sort = FILE; sort <= DEATH; sort++) {
        int s = sort;
        bySome("sort " + s + " of day " + day, x -> x.line(day, s, 0, 0, 1), OUTSIDE);
        byFull("OUTSIDE ahead of FULL, sort " + s + " of day " + day, x -> x.line(day, s, 0, 0, 1), OUTSIDE);
      }
    }
    int[] living = {0, -1, 5001, MIN, MAX};
    for (int n : living) {
      bySome("LIVE of " + n, x -> x.line(0, LIVE, 0, 0, n), OUTSIDE);
      byFull("OUTSIDE ahead of FULL, LIVE of " + n, x -> x.line(0, LIVE, 0, 0, n), OUTSIDE);
    }
    int[] ploughing = {0, -1, 161, 5000, MIN, MAX};
    for (int n : ploughing) {
      bySome("PLOUGH of " + n, x -> x.line(0, PLOUGH, 0, 0, n), OUTSIDE);
      byFull("OUTSIDE ahead of FULL, PLOUGH of " + n, x -> x.line(0, PLOUGH, 0, 0, n), OUTSIDE);
    }
  }

  private static void linesFull() {
    part("9 line: FULL");
    for (int sort = FILE; sort <= DEATH; sort++) {
      int s = sort;
      byFull("sort " + s, x -> x.line(0, s, 0, 0, 1), FULL);
      byFull("sort " + s + " at the last bounds", x -> x.line(20000, s, 11, 63, s == DEATH ? 11 : 160), FULL);
    }
  }

  private static void strikes() {
    part("10 strike: UNKNOWN");
    int[] lines = {-1, -2, 120, MIN, MAX};
    for (int l : lines) {
      always("strike " + l, x -> x.strike(l, true), UNKNOWN);
      always("strike not " + l, x -> x.strike(l, false), UNKNOWN);
    }
    bySome("one over", x -> x.strike(9, true), UNKNOWN);
    refused(FreeLandRefusalsTest::empty, "the first of none", x -> x.strike(0, true), UNKNOWN);
  }

  private static void tellings() {
    part("11 told: UNKNOWN, OUTSIDE");
    int[] lines = {-1, 120, MIN, MAX};
    int[] wild = {-1, 6, MIN, MAX};
    for (int l : lines) {
      for (int what = 0; what <= 5; what++) {
        int w = what;
        always("line " + l + ", what " + w, x -> x.told(l, w), UNKNOWN);
      }
      for (int what : wild) always("UNKNOWN ahead of OUTSIDE, line " + l, x -> x.told(l, what), UNKNOWN);
    }
    bySome("one over", x -> x.told(9, 0), UNKNOWN);
    refused(FreeLandRefusalsTest::empty, "the first of none", x -> x.told(0, 0), UNKNOWN);
    for (int what : wild) {
      bySome("what " + what, x -> x.told(8, what), OUTSIDE);
      byFull("what " + what, x -> x.told(119, what), OUTSIDE);
    }
  }

  private static void outcomes() {
    part("12 outcome: UNKNOWN, OUTSIDE: k not NONE, 0 .. LINES");
    int[] lines = {-1, 120, MIN, MAX};
    int[] wild = {-2, 121, MIN, MAX};
    for (int l : lines) {
      always("line " + l, x -> x.outcome(l, NONE), UNKNOWN);
      always("line " + l + " by none", x -> x.outcome(l, 0), UNKNOWN);
      for (int k : wild) always("UNKNOWN ahead of OUTSIDE, line " + l, x -> x.outcome(l, k), UNKNOWN);
    }
    bySome("one over", x -> x.outcome(9, NONE), UNKNOWN);
    refused(FreeLandRefusalsTest::empty, "the first of none", x -> x.outcome(0, 0), UNKNOWN);
    for (int k : wild) {
      bySome("k " + k, x -> x.outcome(0, k), OUTSIDE);
      byFull("k " + k, x -> x.outcome(119, k), OUTSIDE);
    }
    bySome("k one over", x -> x.outcome(8, 10), OUTSIDE);
  }

  private static void counts() {
    part("13 count: OUTSIDE");
    int[] wild = {-1, 11, MIN, MAX};
    for (int what : wild) always("count " + what, x -> x.count(what), OUTSIDE);
  }

  private static void holding() {
    part("14 holds: UNKNOWN, OUTSIDE");
    int[] quarters = {-1, 64, MIN, MAX};
    int[] days = {-1, 20001, MIN, MAX};
    int[] wildKs = {-2, 121, MIN, MAX};
    int[] wild = {-1, 6, MIN, MAX};
    for (int q : quarters) {
      for (int what = 0; what <= 5; what++) {
        int w = what;
        always("quarter " + q + ", what " + w, x -> x.holds(q, 0, NONE, w), UNKNOWN);
      }
      always("UNKNOWN ahead of OUTSIDE, the day", x -> x.holds(q, 20001, NONE, 0), UNKNOWN);
      always("UNKNOWN ahead of OUTSIDE, k", x -> x.holds(q, 0, 121, 0), UNKNOWN);
      always("UNKNOWN ahead of OUTSIDE, what", x -> x.holds(q, 0, NONE, 6), UNKNOWN);
    }
    for (int what = 0; what <= 5; what++) {
      int w = what;
      for (int day : days) always("day " + day, x -> x.holds(0, day, NONE, w), OUTSIDE);
      for (int k : wildKs) always("k " + k, x -> x.holds(0, 0, k, w), OUTSIDE);
      bySome("k one over", x -> x.holds(0, 0, 10, w), OUTSIDE);
      refused(FreeLandRefusalsTest::empty, "k one over of none", x -> x.holds(0, 0, 1, w), OUTSIDE);
    }
    for (int what : wild) always("what " + what, x -> x.holds(63, 20000, NONE, what), OUTSIDE);
  }

  private static void holdingsAndDigests() {
    part("15 holdings: UNKNOWN, OUTSIDE; 16 digest: OUTSIDE");
    int[] persons = {-1, 12, MIN, MAX};
    int[] wildKs = {-2, 121, MIN, MAX};
    for (int p : persons) {
      always("person " + p, x -> x.holdings(p, NONE), UNKNOWN);
      for (int k : wildKs) always("UNKNOWN ahead of OUTSIDE, person " + p, x -> x.holdings(p, k), UNKNOWN);
    }
    bySome("a person one over", x -> x.holdings(3, NONE), UNKNOWN);
    refused(FreeLandRefusalsTest::empty, "the first of none", x -> x.holdings(0, 0), UNKNOWN);
    for (int k : wildKs) {
      bySome("k " + k, x -> x.holdings(2, k), OUTSIDE);
      byFull("k " + k, x -> x.holdings(11, k), OUTSIDE);
      always("digest by " + k, x -> x.digest(k), OUTSIDE);
    }
    bySome("holdings by one over", x -> x.holdings(0, 10), OUTSIDE);
    bySome("digest by one over", x -> x.digest(10), OUTSIDE);
    refused(FreeLandRefusalsTest::empty, "digest by one of none", x -> x.digest(1), OUTSIDE);
  }

  private static void corners() {
    part("17 corner, 18 lose, 19 lies: OUTSIDE");
    int[] wild = {-1, 9, MIN, MAX};
    for (int c : wild) {
      always("corner " + c + ", 0", x -> x.corner(c, 0, 1, 1), OUTSIDE);
      always("corner 0, " + c, x -> x.corner(0, c, 1, 1), OUTSIDE);
      always("lose " + c + ", 0", x -> x.lose(c, 0), OUTSIDE);
      always("lose 0, " + c, x -> x.lose(0, c), OUTSIDE);
      for (int what = 0; what <= 2; what++) {
        int w = what;
        always("lies " + c + ", 0", x -> x.lies(c, 0, w), OUTSIDE);
        always("lies 0, " + c, x -> x.lies(0, c, w), OUTSIDE);
      }
    }
    int[] far = {-10001, 10001, MIN, MAX};
    for (int f : far) {
      always("corner at x " + f, x -> x.corner(3, 0, f, 0), OUTSIDE);
      always("corner at y " + f, x -> x.corner(3, 0, 0, f), OUTSIDE);
    }
    int[] wildWhats = {-1, 3, MIN, MAX};
    for (int what : wildWhats) {
      always("lies, what " + what, x -> x.lies(0, 0, what), OUTSIDE);
      bySome("lies, of one KNOWN, what " + what, x -> x.lies(1, 1, what), OUTSIDE);
    }
    bySome("nowhere: NOT", x -> x.lies(0, 0, 0), NOT);
  }

  private static void areas() {
    part("20 area: UNKNOWN; NOT");
    int[] quarters = {-1, 64, MIN, MAX};
    for (int q : quarters) always("quarter " + q, x -> x.area(q), UNKNOWN);
    bySome("a CORNER lies nowhere", x -> x.area(0), NOT);
  }

  public static void main(String[] args) {
    questionsChangeNothing();
    persons();
    maps();
    feeds();
    laws();
    setsOfLaws();
    lawsOfDays();
    linesUnknown();
    linesOutside();
    linesFull();
    strikes();
    tellings();
    outcomes();
    counts();
    holding();
    holdingsAndDigests();
    corners();
    areas();
    end("all refusals are as due, and change nothing");
  }
}

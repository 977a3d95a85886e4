/** Each promise by hand: ordinary inputs, the edges that the document names, and wrong inputs. */
public final class FreeLandPromisesTest extends Check {
  private static void newObject() {
    part("1 a new object");
    Land x = new Land();
    for (int what = 0; what <= 10; what++) due("count(" + what + ")", x.count(what), 0);
    due("map(20001)", x.map(20001), 20001);
    due("place()", x.place(), NONE);
    due("lawOf(20000)", x.lawOf(20000), NONE);
    for (int i = 0; i <= 8; i++) {
      for (int j = 0; j <= 8; j++) {
        due("lies x of " + i + ", " + j, x.lies(i, j, 0), 84000 * i);
        due("lies y of " + i + ", " + j, x.lies(i, j, 1), 84000 * j);
        due("known " + i + ", " + j, x.lies(i, j, 2), 1);
      }
    }
    Land z = new Land();
    for (int q = 0; q < 64; q++) {
      due("holder of " + q, z.holds(q, 20000, NONE, 0), NONE);
      due("standing of " + q, z.holds(q, 20000, NONE, 1), 0);
      due("line of " + q, z.holds(q, 20000, NONE, 2), NONE);
      due("preference for " + q, z.holds(q, 20000, NONE, 3), NONE);
      due("days of " + q, z.holds(q, 20000, NONE, 4), 0);
      due("acres of " + q, z.holds(q, 20000, NONE, 5), 0);
    }
    Land y = new Land();
    y.person(0, 0);
    y.lose(1, 1);
    due("another object's persons", x.count(0), 0);
    due("another object's corner", x.lies(1, 1, 2), 1);
  }

  private static void persons() {
    part("2 person");
    Land x = new Land();
    due("birth too early", x.person(-20001, 0), OUTSIDE);
    due("birth too late", x.person(20001, 0), OUTSIDE);
    due("citizen too early", x.person(0, -20001), OUTSIDE);
    due("citizen too late", x.person(0, 20002), OUTSIDE);
    due("wild birth", x.person(MIN, 0), OUTSIDE);
    due("wild citizen", x.person(0, MAX), OUTSIDE);
    due("none came of these", x.count(0), 0);
    due("lowest", x.person(-20000, -20000), 0);
    due("highest", x.person(20000, 20001), 1);
    for (int p = 2; p < 12; p++) due("person " + p, x.person(0, 0), p);
    due("a thirteenth", x.person(0, 0), FULL);
    due("OUTSIDE ahead of FULL", x.person(20001, 0), OUTSIDE);
    due("twelve", x.count(0), 12);
  }

  private static void map() {
    part("3 map");
    Land x = with(2, "age 0 most 99 idle 0");
    due("map(-1)", x.map(-1), OUTSIDE);
    due("map(20002)", x.map(20002), OUTSIDE);
    due("map(MIN)", x.map(MIN), OUTSIDE);
    due("at first", x.map(0), 20001);
    due("then", x.map(20001), 0);
    due("never, on the last day", x.holds(2, 20000, NONE, 1), 0);
    x.map(20000);
    due("on the last day", x.holds(2, 20000, NONE, 1), 4);
    due("ahead of it", x.holds(2, 19999, NONE, 1), 0);
    x.map(50);
    for (int q = 0; q < 64; q++) {
      boolean odd = (q % 8 / 2 + q / 16) % 2 == 1;
      due("quarter " + q, x.holds(q, 50, NONE, 1), odd ? 4 : 0);
    }
    due("file ahead of the map", x.line(49, FILE, 0, 2, 0), 0);
    due("file on its day", x.line(50, FILE, 0, 3, 0), 1);
    due("file on one that is held and odd", x.line(51, FILE, 1, 2, 0), 2);
    due("ahead", x.outcome(0, NONE), 0);
    due("on its day", x.outcome(1, NONE), 4);
    due("the RAILROAD's comes ahead of the ENTRY", x.outcome(2, NONE), 4);
    due("what is held is not told as the RAILROAD's", x.holds(2, 60, NONE, 1), 1);
    x.line(70, GIVE_UP, 0, 2, 0);
    due("given up, it is", x.holds(2, 70, NONE, 1), 4);
    x.map(51);
    due("a later map puts it right", x.outcome(1, NONE), 0);
  }

  private static void feeds() {
    part("4 feed");
    Land x = new Land();
    due("feed(0)", x.feed(0, 0), OUTSIDE);
    due("feed(9)", x.feed(9, 0), OUTSIDE);
    due("feed(-1)", x.feed(-1, 0), OUTSIDE);
    due("feed(MAX)", x.feed(MAX, 0), OUTSIDE);
    due("the three lowest, the highest first", x.feed(3, 0x7878787878616765L), 3);
    due("eight", x.feed(8, 0x2020202020202037L), 11);
    due("law", x.law(0), 0);
    due("age", x.sets(0, 0), 7);
    for (int i = 1; i <= 14; i++) x.feed(8, 0x2020202020202020L);
    due("seven more", x.feed(7, 0x20202020202020L), 119);
    due("two over", x.feed(2, 0x2020L), FULL);
    due("OUTSIDE ahead of FULL", x.feed(9, 0), OUTSIDE);
    due("the last one", x.feed(1, 32), 120);
    due("one over", x.feed(1, 32), FULL);
    due("bytes", x.count(4), 120);
    due("blanks alone", x.law(0), 1);
    due("empty then", x.count(4), 0);
  }

  private static void fault(String text, int number, int place) {
    Land x = new Land();
    feed(x, "age");
    x.law(0);
    feed(x, text);
    due("law of '" + text + "'", x.law(0), number == 0 ? 0 : -10 - number);
    due("place of '" + text + "'", x.place(), place);
    due("text behind '" + text + "'", x.count(4), 0);
    due("laws behind '" + text + "'", x.count(1), number == 0 ? 1 : 0);
  }

  private static void lawsAndPlaces() {
    part("5 law, 6 place");
    fault("", 0, NONE);
    fault("    ", 0, NONE);
    fault("age 1", 0, NONE);
    fault("  age   00001  ", 0, NONE);
    fault("age 1 live 2 gap 3 plough 4 term 5 idle 6 prefer 7 most 8 bind 9", 0, NONE);
    fault("age", 1, 3);
    fault("age  ", 1, 5);
    fault("age 1 gap", 1, 9);
    fault(" 12", 1, 1);
    fault("ag 1", 1, 0);
    fault("ages 1", 1, 0);
    fault("Age 1", 1, 0);
    fault("\u00e1ge 1", 1, 0);
    fault("age 1 2", 1, 6);
    fault("age live 2", 1, 4);
    fault("age 1x", 1, 4);
    fault("age -1", 1, 4);
    fault("age 1234x67", 1, 4);
    fault("age /", 1, 4);
    fault("age :", 1, 4);
    fault("age\t1", 1, 0);
    fault("age 99999", 0, NONE);
    fault("age 100000", 2, 4);
    fault("age 000001", 2, 4);
    fault("age 1 age 2", 3, 6);
    fault("age 1 age", 3, 6);
    fault("age 1 live 1 age 0000000", 3, 13);
    fault("age 1234567 age", 2, 4);
    Land x = new Land();
    feed(x, "gap 5");
    due("day -1", x.law(-1), OUTSIDE);
    due("day 20001", x.law(20001), OUTSIDE);
    due("day MIN", x.law(MIN), OUTSIDE);
    due("the text stays", x.count(4), 5);
    due("day 20000", x.law(20000), 0);
    due("gap", x.sets(0, 2), 5);
    due("a fault", law(x, 0, "gap gap"), -11);
    feed(x, "gap 6");
    x.law(20001);
    due("place stays when refused", x.place(), 4);
    due("day 0", x.law(0), 1);
    due("place of none", x.place(), NONE);
    for (int l = 2; l < 8; l++) due("law " + l, law(x, l, ""), l);
    feed(x, "gap");
    due("a ninth", x.law(0), FULL);
    due("OUTSIDE ahead of FULL", x.law(20001), OUTSIDE);
    due("the text stays when FULL", x.count(4), 3);
    due("place stays when FULL", x.place(), NONE);
    due("eight", x.count(1), 8);
  }

  private static void setsOfLaws() {
    part("7 sets");
    Land x = new Land();
    int[] first = {7600, 1800, 180, 10, 2600, 180, 30, 1, 100, 0};
    for (int what = 0; what <= 9; what++) due("sets(NONE, " + what + ")", x.sets(NONE, what), first[what]);
    due("no law", x.sets(0, 0), UNKNOWN);
    due("-2", x.sets(-2, 0), UNKNOWN);
    due("UNKNOWN ahead of OUTSIDE", x.sets(0, 10), UNKNOWN);
    due("what 10", x.sets(NONE, 10), OUTSIDE);
    due("what -1", x.sets(NONE, -1), OUTSIDE);
    law(x, 300, "bind 9 most 8 prefer 7 idle 6 term 5 plough 4 gap 3 live 2 age 1");
    for (int what = 0; what <= 8; what++) due("sets(0, " + what + ")", x.sets(0, what), what + 1);
    due("its day", x.sets(0, 9), 300);
    law(x, 100, "age 50");
    law(x, 400, "live 0");
    law(x, 300, "gap 70");
    law(x, 200, "gap 71 term 72 age 73");
    due("gap of the earliest: as at first", x.sets(1, 2), 180);
    due("age of a law in between", x.sets(4, 0), 73);
    due("plough ahead of the one that sets it", x.sets(4, 3), 10);
    due("of one DAY, as they came", x.sets(3, 0), 1);
    due("of one DAY, the earlier one has not the later one's", x.sets(0, 2), 3);
    due("the last has the gap of the one before", x.sets(2, 2), 70);
    due("what is set to 0 is set", x.sets(2, 1), 0);
    due("NONE is none still", x.sets(NONE, 0), 7600);
    for (int l = 5; l < 8; l++) law(x, 500, "idle " + l);
    due("the last of eight", x.sets(7, 5), 7);
    due("the last of eight, of one before", x.sets(7, 2), 70);
    due("the last of eight, as at first none", x.sets(NONE, 5), 180);
    due("the law of the last day", x.lawOf(20000), 7);
  }

  private static void lawsOfDays() {
    part("8 lawOf");
    Land x = new Land();
    law(x, 10, "");
    law(x, 5, "");
    law(x, 10, "");
    law(x, 7, "");
    due("4", x.lawOf(4), NONE);
    due("5", x.lawOf(5), 1);
    due("6", x.lawOf(6), 1);
    due("7", x.lawOf(7), 3);
    due("9", x.lawOf(9), 3);
    due("10: the last that came", x.lawOf(10), 2);
    due("20000", x.lawOf(20000), 2);
    due("-1", x.lawOf(-1), OUTSIDE);
    due("20001", x.lawOf(20001), OUTSIDE);
    due("MIN", x.lawOf(MIN), OUTSIDE);
  }

  private static void linesTold() {
    part("9 line, 11 told");
    Land x = new Land();
    x.person(0, 0);
    x.person(0, 0);
    due("p 2", x.line(0, FILE, 2, 0, 0), UNKNOWN);
    due("p -1", x.line(0, FILE, -1, 0, 0), UNKNOWN);
    due("q 64", x.line(0, FILE, 0, 64, 0), UNKNOWN);
    due("q -1", x.line(0, PROVE, 0, -1, 0), UNKNOWN);
    due("heir 2", x.line(0, DEATH, 0, 0, 2), UNKNOWN);
    due("heir -1", x.line(0, DEATH, 0, 0, -1), UNKNOWN);
    due("who dies 2", x.line(0, DEATH, 2, 0, 0), UNKNOWN);
    due("sort 7, and p unknown", x.line(0, 7, 99, 0, 0), OUTSIDE);
    due("sort -1, and q unknown", x.line(0, -1, 0, 99, 0), OUTSIDE);
    due("UNKNOWN ahead of OUTSIDE", x.line(-1, LIVE, 2, 0, 0), UNKNOWN);
    due("day -1", x.line(-1, FILE, 0, 0, 0), OUTSIDE);
    due("day 20001", x.line(20001, FILE, 0, 0, 0), OUTSIDE);
    due("day of a death", x.line(20001, DEATH, 0, 0, 0), OUTSIDE);
    due("n 0 of LIVE", x.line(0, LIVE, 0, 0, 0), OUTSIDE);
    due("n 5001 of LIVE", x.line(0, LIVE, 0, 0, 5001), OUTSIDE);
    due("n 0 of PLOUGH", x.line(0, PLOUGH, 0, 0, 0), OUTSIDE);
    due("n 161 of PLOUGH", x.line(0, PLOUGH, 0, 0, 161), OUTSIDE);
    due("none came of these", x.count(2), 0);
    due("n of FILE is not looked at", x.line(0, FILE, 0, 0, MIN), 0);
    due("q of DEATH is not looked at", x.line(20000, DEATH, 1, MAX, 0), 1);
    due("n 5000", x.line(3, LIVE, 0, 63, 5000), 2);
    due("n 160", x.line(4, PLOUGH, 1, 62, 160), 3);
    due("n 1", x.line(4, LIVE, 1, 62, 1), 4);
    due("n 1 acre", x.line(4, PLOUGH, 1, 62, 1), 5);
    long[][] want = {{0, 0, 0, 0, MIN, 0}, {20000, 6, 1, MAX, 0, 0}, {3, 1, 0, 63, 5000, 0}, {4, 2, 1, 62, 160, 0}};
    for (int l = 0; l < want.length; l++) {
      for (int what = 0; what < 6; what++) due("told(" + l + ", " + what + ")", x.told(l, what), want[l][what]);
    }
    due("told of none", x.told(6, 0), UNKNOWN);
    due("told(-1)", x.told(-1, 9), UNKNOWN);
    due("what 6", x.told(0, 6), OUTSIDE);
    due("what -1", x.told(0, -1), OUTSIDE);
    x.strike(2, true);
    due("struck", x.told(2, 5), 1);
    due("told as it was", x.told(2, 4), 5000);
    for (int l = 6; l < 120; l++) due("line " + l, x.line(l % 7, GIVE_UP, 0, 0, -1001), l);
    due("told as a refusal is", x.told(119, 4), -1001);
    due("full", x.line(0, FILE, 0, 0, 0), FULL);
    due("OUTSIDE ahead of FULL", x.line(20001, FILE, 0, 0, 0), OUTSIDE);
    due("lines", x.count(2), 120);
    due("the last one's outcome", x.outcome(119, NONE), 8);
    for (int what = 0; what <= 10; what++) due("of a full book, count(" + what + ") is told", x.count(what) >= 0 ? 1 : 0, 1);
    Land y = with(2, "age 0 live 1 plough 1 gap 20000 term 20000");
    y.line(0, FILE, 0, 0, 0);
    for (int l = 1; l < 119; l++) y.line(l, l % 2 == 0 ? LIVE : PLOUGH, 0, 0, 1);
    due("the last that fits", y.line(300, PROVE, 0, 0, 0), 119);
    due("days of a full book", y.holds(0, 300, NONE, 4), 59);
    due("acres of a full book", y.holds(0, 300, NONE, 5), 59);
    due("proved by a full book", y.outcome(119, 120), 0);
  }

  private static void strikes() {
    part("10 strike");
    Land x = with(2, "age 0 most 9");
    due("no line", x.strike(0, true), UNKNOWN);
    due("-1", x.strike(-1, true), UNKNOWN);
    x.line(5, FILE, 0, 4, 0);
    x.line(6, FILE, 1, 4, 0);
    due("was not", x.strike(0, false), 0);
    due("was not, is", x.strike(0, true), 0);
    due("struck ones", x.count(3), 1);
    due("the other one is done", x.outcome(1, NONE), 0);
    due("as known by the first, too", x.holds(4, 9, 1, 0), NONE);
    due("was, is", x.strike(0, true), 1);
    due("was, is not", x.strike(0, false), 1);
    due("none struck", x.count(3), 0);
    due("the other one is not done", x.outcome(1, NONE), 5);
  }

  private static void outcomesOfFiling() {
    part("12 outcome of FILE");
    Land x = new Land();
    x.person(100, 0);
    x.person(0, 131);
    x.person(0, 0);
    x.person(0, 0);
    due("a law", law(x, 0, "age 30 most 2 idle 5 prefer 10"), 0);
    x.line(129, FILE, 0, 0, 0);
    x.line(130, FILE, 0, 0, 0);
    x.line(130, FILE, 1, 4, 0);
    x.line(131, FILE, 1, 0, 0);
    x.line(131, FILE, 1, 4, 0);
    x.line(131, FILE, 0, 5, 0);
    x.line(131, GIVE_UP, 0, 5, 0);
    x.line(132, FILE, 0, 5, 0);
    int[] want = {2, 0, 3, 5, 0, 0, 0, 7};
    for (int l = 0; l < want.length; l++) due("line " + l, x.outcome(l, NONE), want[l]);
    law(x, 132, "most 3");
    due("by the law of the day", x.outcome(7, NONE), 0);
    due("most at first", new Land().sets(NONE, 7), 1);
    x.line(140, CONTEST, 2, 0, 0);
    x.line(150, FILE, 3, 0, 0);
    x.line(151, FILE, 3, 0, 0);
    due("contest", x.outcome(8, NONE), 0);
    due("another has a preference", x.outcome(9, NONE), 6);
    due("no more on the day behind", x.outcome(10, NONE), 0);
    due("outcome of none", x.outcome(11, NONE), UNKNOWN);
    due("outcome(-1)", x.outcome(-1, -7), UNKNOWN);
    due("k -2", x.outcome(0, -2), OUTSIDE);
    due("k over", x.outcome(0, 12), OUTSIDE);
    due("k of all", x.outcome(10, 11), 0);
    due("not among them", x.outcome(10, 10), NONE);
    due("k 0", x.outcome(0, 0), NONE);
    Land y = with(1, "age 0 most 0");
    y.line(0, FILE, 0, 0, 0);
    due("most 0", y.outcome(0, NONE), 7);
  }

  private static void outcomesOfContests() {
    part("12 outcome of CONTEST");
    Land x = with(3, "age 0 idle 10 prefer 3 most 9");
    int[] days = {110, 111, 139, 140, 141};
    x.line(100, FILE, 0, 0, 0);
    x.line(120, LIVE, 0, 0, 10);
    x.line(101, LIVE, 1, 0, 90);
    for (int i = 0; i < days.length; i++) x.line(days[i], CONTEST, 1, 0, 0);
    due("the ENTRY came on one of the idle ones", x.outcome(3, NONE), 11);
    due("idle, the ENTRY came ahead: another one's living is none", x.outcome(4, NONE), 0);
    due("nothing to contest then", x.outcome(5, NONE), 9);
    x.strike(4, true);
    due("lived on the earliest of the idle ones", x.outcome(5, NONE), 11);
    due("not on one of these", x.outcome(6, NONE), 0);
    due("nothing to contest", x.outcome(7, NONE), 9);
    x.strike(6, true);
    due("a day behind", x.outcome(7, NONE), 0);
    due("preference on the day", x.holds(0, 141, NONE, 3), 1);
    due("preference on the last", x.holds(0, 144, NONE, 3), 1);
    due("preference behind it", x.holds(0, 145, NONE, 3), NONE);
    due("preference ahead of it", x.holds(0, 140, NONE, 3), NONE);
    x.line(142, FILE, 1, 0, 0);
    x.line(143, CONTEST, 1, 0, 0);
    x.line(143, CONTEST, 2, 0, 0);
    due("p is its HOLDER", x.outcome(9, NONE), 10);
    law(x, 142, "idle 0");
    due("the preference of who contested first", x.outcome(8, NONE), 0);
    due("idle 0, the ENTRY came yesterday", x.outcome(10, NONE), 0);
    due("another preference in place of one there", x.holds(0, 144, NONE, 3), 2);
    x.line(142, CONTEST, 2, 0, 0);
    due("idle 0, the ENTRY came today", x.outcome(11, NONE), 11);
    Land y = with(2, "age 0 idle 10");
    y.line(0, FILE, 0, 0, 0);
    y.line(19, LIVE, 0, 0, 1);
    y.line(20, CONTEST, 1, 0, 0);
    due("lived yesterday", y.outcome(2, NONE), 11);
    y.strike(1, true);
    due("not lived", y.outcome(2, NONE), 0);
    y.line(20, LIVE, 0, 0, 1);
    due("today is none of those ahead", y.outcome(2, NONE), 0);
    law(x, 143, "prefer 0 idle 10000");
    due("by the ENTRY's law, not the day's", x.outcome(10, NONE), 0);
    due("prefer by the ENTRY's law", x.holds(0, 146, NONE, 3), 2);
  }

  private static void outcomesOfProofs() {
    part("12 outcome of PROVE");
    Land x = with(3, "age 0 live 10 gap 4 plough 6 term 50 bind 5 idle 9");
    x.line(100, FILE, 0, 0, 0);
    x.line(95, LIVE, 0, 0, 8);
    x.line(106, LIVE, 0, 0, 8);
    x.line(99, PLOUGH, 0, 0, 160);
    x.line(100, PLOUGH, 0, 0, 4);
    x.line(114, PLOUGH, 0, 0, 2);
    x.line(112, PROVE, 0, 0, 0);
    x.line(113, PROVE, 0, 0, 0);
    x.line(118, PROVE, 0, 0, 0);
    due("9 days", x.outcome(6, NONE), 13);
    due("10 days, 4 acres", x.outcome(7, NONE), 15);
    due("9 days are told", x.holds(0, 111, NONE, 4), 9);
    due("10 days are told", x.holds(0, 112, NONE, 4), 10);
    due("living told ahead of FILE counts from FILE on", x.holds(0, 100, NONE, 4), 1);
    due("ploughing ahead of FILE does not", x.holds(0, 113, NONE, 5), 4);
    due("6 acres", x.outcome(8, NONE), 0);
    due("LIVE", x.holds(0, 117, NONE, 1), 1);
    due("PROVED", x.holds(0, 122, NONE, 1), 2);
    due("BINDS", x.holds(0, 123, NONE, 1), 3);
    due("days go on behind the proof", x.holds(0, 123, NONE, 4), 11);
    x.line(119, PROVE, 0, 0, 0);
    x.line(119, CONTEST, 1, 0, 0);
    x.line(119, GIVE_UP, 0, 0, 0);
    due("PROVED: not LIVE", x.outcome(9, NONE), 8);
    due("not to be contested", x.outcome(10, NONE), 9);
    due("not to be given up", x.outcome(11, NONE), 8);
    x.line(119, FILE, 1, 0, 0);
    due("it holds", x.outcome(12, NONE), 5);
    x.strike(8, true);
    due("5 days behind the last one: a gap of 5", x.outcome(9, NONE), 14);
    x.strike(11, true);
    x.strike(1, true);
    x.line(103, LIVE, 0, 0, 1);
    x.line(105, LIVE, 0, 0, 6);
    due("struck, fewer days", x.outcome(7, NONE), 13);
    due("days lived twice count once", x.holds(0, 113, NONE, 4), 10);
    x.line(150, LIVE, 0, 0, 1);
    x.line(150, PROVE, 0, 0, 0);
    x.line(151, PROVE, 0, 0, 0);
    x.line(151, PROVE, 1, 0, 0);
    due("on the last day of term", x.outcome(16, NONE), 14);
    due("over the term", x.outcome(17, NONE), 12);
    due("not the HOLDER", x.outcome(18, NONE), 8);
  }

  private static void gaps() {
    part("12 gaps");
    Land x = with(1, "age 0 live 0 gap 3 plough 0 term 100");
    x.line(10, FILE, 0, 9, 0);
    x.line(13, PROVE, 0, 9, 0);
    due("3 days", x.outcome(1, NONE), 0);
    x.strike(1, true);
    x.line(14, PROVE, 0, 9, 0);
    due("4 days", x.outcome(2, NONE), 14);
    x.line(13, LIVE, 0, 9, 1);
    due("first one on the fourth", x.outcome(2, NONE), 0);
    x.strike(3, true);
    x.line(14, LIVE, 0, 9, 1);
    due("living today is not among the days ahead", x.outcome(2, NONE), 14);
    x.strike(2, true);
    x.line(12, LIVE, 0, 9, 1);
    x.line(18, PROVE, 0, 9, 0);
    due("12, 14, and 3 behind", x.outcome(6, NONE), 0);
    x.strike(4, true);
    due("5 behind 12", x.outcome(6, NONE), 14);
    Land z = with(1, "age 0 live 2 gap 3 plough 0 term 100");
    z.line(10, FILE, 0, 9, 0);
    z.line(10, LIVE, 0, 9, 1);
    z.line(15, LIVE, 0, 9, 1);
    z.line(16, PROVE, 0, 9, 0);
    due("4 days in between", z.outcome(3, NONE), 14);
    z.line(14, LIVE, 0, 9, 2);
    due("3 days in between", z.outcome(3, NONE), 0);
    z.strike(1, true);
    z.line(5, LIVE, 0, 9, 5);
    due("lived up to the day ahead of FILE", z.outcome(3, NONE), 14);
    due("none of these days count", z.holds(9, 13, NONE, 4), 0);
    z.line(10, LIVE, 0, 9, 1);
    due("lived on its day", z.outcome(3, NONE), 0);
    Land y = with(1, "age 0 live 0 plough 0 gap 0 term 0");
    y.line(10, FILE, 0, 9, 0);
    y.line(10, PROVE, 0, 9, 0);
    due("proved on the day of FILE", y.outcome(1, NONE), 0);
  }

  private static void deaths() {
    part("12 outcome of DEATH");
    Land x = with(4, "age 0 live 6 gap 99 plough 5 most 2");
    x.line(10, FILE, 0, 0, 0);
    x.line(10, FILE, 0, 1, 0);
    x.line(12, GIVE_UP, 0, 1, 0);
    x.line(11, LIVE, 0, 0, 2);
    x.line(13, LIVE, 1, 0, 2);
    x.line(13, PLOUGH, 1, 0, 3);
    x.line(13, LIVE, 2, 0, 50);
    x.line(18, LIVE, 0, 0, 3);
    due("ahead of the death", x.holds(0, 19, NONE, 4), 4);
    x.line(20, DEATH, 0, -5, 1);
    due("done", x.outcome(8, NONE), 0);
    due("the heir's own days count, those of the dead, too", x.holds(0, 20, NONE, 4), 7);
    due("the heir's acres", x.holds(0, 20, NONE, 5), 3);
    due("the heir", x.holds(0, 20, NONE, 0), 1);
    due("the HOLDER ahead", x.holds(0, 19, NONE, 0), 0);
    due("what was given up is not left", x.holds(1, 20, NONE, 0), NONE);
    for (int sort = FILE; sort <= PROVE; sort++) {
      x.line(20, sort, 0, 0, 1);
      due("dead, sort " + sort, x.outcome(9 + sort, NONE), 1);
    }
    x.line(20, DEATH, 0, 0, 0);
    due("dead, dies", x.outcome(15, NONE), 1);
    x.line(21, DEATH, 1, 0, 0);
    due("a dead heir", x.outcome(16, NONE), 16);
    x.line(21, DEATH, 1, 0, 1);
    due("one's own heir", x.outcome(17, NONE), 16);
    x.line(22, PLOUGH, 1, 0, 2);
    x.line(22, PROVE, 1, 0, 0);
    due("the heir proves", x.outcome(19, NONE), 0);
    x.line(23, DEATH, 1, 0, 3);
    due("PROVED ones are left, too", x.holds(0, 30, NONE, 0), 3);
    due("PROVED still", x.holds(0, 30, NONE, 1), 2);
    x.line(24, FILE, 3, 8, 0);
    x.line(24, FILE, 3, 9, 0);
    x.line(24, FILE, 3, 10, 0);
    due("what is left to one is not by FILE", x.outcome(22, NONE), 0);
    due("two of one's own", x.outcome(23, NONE), 7);
    due("dead", x.count(9), 2);
  }

  private static void counts() {
    part("13 count");
    Land x = with(3, "age 0 most 9 live 0 gap 9999 plough 0 idle 2");
    feed(x, "abc");
    x.line(1, FILE, 0, 0, 0);
    x.line(1, FILE, 0, 1, 0);
    x.line(1, FILE, 0, 8, 0);
    x.line(1, FILE, 1, 9, 0);
    x.line(1, FILE, 1, 9, 0);
    x.line(2, PROVE, 0, 0, 0);
    x.line(3, GIVE_UP, 0, 1, 0);
    x.line(9, CONTEST, 1, 8, 0);
    x.line(10, DEATH, 1, 0, 2);
    x.line(11, DEATH, 1, 0, 2);
    x.line(11, FILE, 1, 30, 2);
    x.strike(10, true);
    long[] want = {3, 1, 11, 1, 3, 4, 1, 1, 2, 1, 2};
    for (int what = 0; what <= 10; what++) due("count(" + what + ")", x.count(what), want[what]);
    for (int l = 0; l < 11; l++) x.strike(l, true);
    long[] none = {3, 1, 11, 11, 3, 0, 0, 0, 0, 0, 0};
    for (int what = 0; what <= 10; what++) due("all struck, count(" + what + ")", x.count(what), none[what]);
    x.strike(6, false);
    due("the first one not done", x.count(10), 1);
    Land y = new Land();
    y.person(0, 0);
    y.line(0, GIVE_UP, 0, 0, 0);
    due("the first LINE not done", y.count(10), 1);
    due("count(-1)", x.count(-1), OUTSIDE);
    due("count(11)", x.count(11), OUTSIDE);
    due("count(MIN)", x.count(MIN), OUTSIDE);
  }

  private static void holding() {
    part("14 holds");
    Land x = with(2, "age 0 most 9 idle 3 prefer 4 live 1 plough 0");
    x.line(10, FILE, 0, 63, 0);
    x.line(5, FILE, 1, 63, 0);
    x.line(12, LIVE, 0, 63, 5000);
    due("told later, came earlier", x.holds(63, 20000, NONE, 0), 1);
    due("as known by the first", x.holds(63, 20000, 1, 0), 0);
    due("its line", x.holds(63, 20000, 2, 2), 1);
    due("its line, as known by the first", x.holds(63, 20000, 1, 2), 0);
    due("another one's living", x.holds(63, 30, NONE, 4), 0);
    x.strike(1, true);
    due("days up to that day and with it", x.holds(63, 30, NONE, 4), 19);
    due("the first", x.holds(63, 12, NONE, 4), 1);
    due("ahead of it", x.holds(63, 11, NONE, 4), 0);
    due("all of them", x.holds(63, 20000, NONE, 4), 5000);
    x.line(6000, CONTEST, 1, 63, 0);
    due("ended", x.holds(63, 6000, NONE, 1), 0);
    due("no days without an ENTRY", x.holds(63, 6000, NONE, 4), 0);
    due("no line", x.holds(63, 6000, NONE, 2), NONE);
    due("preferred", x.holds(63, 6004, NONE, 3), 1);
    due("not as known by the first three", x.holds(63, 6004, 3, 3), NONE);
    due("LIVE as known by the first three", x.holds(63, 6004, 3, 1), 1);
    due("q 64", x.holds(64, 0, NONE, 0), UNKNOWN);
    due("q -1 ahead of OUTSIDE", x.holds(-1, -1, -2, 6), UNKNOWN);
    due("day -1", x.holds(0, -1, NONE, 0), OUTSIDE);
    due("day 20001", x.holds(0, 20001, NONE, 0), OUTSIDE);
    due("k -2", x.holds(0, 0, -2, 0), OUTSIDE);
    due("k 5", x.holds(0, 0, 5, 0), OUTSIDE);
    due("k 4", x.holds(0, 0, 4, 0), NONE);
    due("what 6", x.holds(0, 0, NONE, 6), OUTSIDE);
    due("what -1", x.holds(0, 0, NONE, -1), OUTSIDE);
    Land y = with(1, "age 0");
    y.line(5, PLOUGH, 0, 7, 9);
    y.line(5, FILE, 0, 7, 0);
    y.line(5, PLOUGH, 0, 7, 3);
    due("of one DAY: ploughed from the LINE of FILE on", y.holds(7, 5, NONE, 5), 3);
  }

  private static void holdingsOf() {
    part("15 holdings");
    Land x = with(2, "age 0 most 9 live 0 plough 0");
    for (int q = 0; q < 5; q++) x.line(q, FILE, q % 2, q, 0);
    x.line(4, PROVE, 0, 4, 0);
    x.line(5, GIVE_UP, 0, 0, 0);
    due("p 0", x.holdings(0, NONE), 2);
    due("p 1", x.holdings(1, NONE), 2);
    due("p 0, by the first five", x.holdings(0, 5), 3);
    due("by none", x.holdings(0, 0), 0);
    x.line(20000, DEATH, 0, 0, 1);
    due("left", x.holdings(1, NONE), 4);
    due("the dead", x.holdings(0, NONE), 0);
    due("p 2", x.holdings(2, -9), UNKNOWN);
    due("p -1", x.holdings(-1, 0), UNKNOWN);
    due("k 9", x.holdings(0, 9), OUTSIDE);
    due("k -2", x.holdings(0, -2), OUTSIDE);
  }

  private static void digests() {
    part("16 digest");
    Land x = with(2, "age 0 most 2");
    int d = 7;
    for (int q = 0; q < 64; q++) d = 31 * d - 1;
    due("of none", x.digest(NONE), d);
    x.line(9, FILE, 0, 0, 0);
    x.line(8, FILE, 1, 0, 0);
    x.line(7, FILE, 1, 63, 0);
    x.line(6, FILE, 1, 62, 0);
    x.strike(3, true);
    int[] outcomes = {5, 0, 0, -1};
    d = 7;
    for (int o : outcomes) d = 31 * d + o;
    for (int q = 0; q < 64; q++) d = 31 * d + (q == 0 || q == 63 ? 1 : -1);
    due("lines in their numbers' order", x.digest(NONE), d);
    due("k 4", x.digest(4), d);
    d = 31 * 7;
    for (int q = 0; q < 64; q++) d = 31 * d + (q == 0 ? 0 : -1);
    due("k 1", x.digest(1), d);
    due("k 5", x.digest(5), OUTSIDE);
    due("k -2", x.digest(-2), OUTSIDE);
  }

  private static void corners() {
    part("17 corner, 18 lose, 19 lies");
    Land x = new Land();
    int[][] out = {{-1, 0, 0, 0}, {9, 0, 0, 0}, {0, -1, 0, 0}, {0, 9, 0, 0}, {0, 0, -10001, 0}, {0, 0, 10001, 0}, {0, 0, 0, -10001}, {0, 0, 0, 10001}, {MIN, MAX, MIN, MAX}};
    for (int[] o : out) due("corner out of bounds", x.corner(o[0], o[1], o[2], o[3]), OUTSIDE);
    due("nothing changed", x.lies(0, 0, 0), 0);
    int[][] lost = {{-1, 0}, {9, 0}, {0, -1}, {0, 9}, {MIN, MAX}};
    for (int[] o : lost) due("lose out of bounds", x.lose(o[0], o[1]), OUTSIDE);
    for (int[] o : lost) due("lies out of bounds", x.lies(o[0], o[1], 0), OUTSIDE);
    due("what -1", x.lies(0, 0, -1), OUTSIDE);
    due("what 3", x.lies(0, 0, 3), OUTSIDE);
    due("corner", x.corner(0, 3, -10000, 10000), 1);
    due("x", x.lies(0, 3, 0), -8400000);
    due("y", x.lies(0, 3, 1), 8400000);
    x.corner(7, 3, 10000, -10000);
    for (int i = 1; i < 7; i++) due("was KNOWN", x.lose(i, 3), 1);
    due("was LOST", x.lose(1, 3), 0);
    for (int i = 1; i < 7; i++) {
      due("x of " + i, x.lies(i, 3, 0), -8400000 + 16800000 * i / 7);
      due("y of " + i, x.lies(i, 3, 1), 8400000 - 16800000 * i / 7);
      due("LOST " + i, x.lies(i, 3, 2), 0);
    }
    x.corner(4, 3, 1, 2);
    due("KNOWN again", x.lies(4, 3, 2), 1);
    due("the nearest", x.lies(5, 3, 0), 840 + 280 * 9999);
    due("the nearest ahead", x.lies(3, 3, 1), 8400000 + 630 * (2 - 10000));
    x.corner(8, 8, 7, 9);
    due("told as a refusal is", x.corner(8, 7, -1, 0), 1);
    x.lose(8, 8);
    due("a corner of all, LOST", x.lies(8, 8, 0), NOT);
    due("a corner of all, LOST", x.lies(8, 8, 1), NOT);
    due("whether KNOWN, where it lies nowhere", x.lies(8, 8, 2), NOT);
  }

  private static void cornersByJ() {
    part("19 lies, along the other line");
    Land x = new Land();
    x.corner(0, 2, 11, 207);
    x.lose(0, 3);
    x.lose(0, 4);
    due("by j, x", x.lies(0, 3, 0), 840 * 11 - 280 * 11);
    due("by j, y", x.lies(0, 4, 1), 840 * 207 + 560 * (500 - 207));
    x.corner(8, 4, 801, 400);
    x.lose(8, 3);
    due("at the other side, by j", x.lies(8, 3, 0), 420 * (800 + 801));
    x.corner(3, 4, 300, 350);
    x.lose(4, 4);
    due("by i ahead of by j", x.lies(4, 4, 1), 840 * 375);
    for (int i = 5; i <= 8; i++) x.lose(i, 4);
    due("none behind: by j", x.lies(4, 4, 1), 840 * 400);
    for (int j = 5; j <= 8; j++) x.lose(4, j);
    due("none behind on either", x.lies(4, 4, 1), NOT);
    due("its neighbour by i", x.lies(4, 5, 0), 840 * 400);
    x.corner(4, 8, 400, 1200);
    due("by j, from far", x.lies(4, 4, 1), 840 * 300 + 168 * 900);
    Land y = new Land();
    for (int i = 0; i <= 8; i++) {
      for (int j = 0; j <= 8; j++) y.lose(i, j);
    }
    due("all LOST", y.lies(4, 4, 0), NOT);
    due("all LOST, area", y.area(0), NOT);
  }

  private static void areas() {
    part("20 area");
    Land x = new Land();
    for (int q = 0; q < 64; q++) due("quarter " + q, x.area(q), 20000L * 840 * 840);
    due("q 64", x.area(64), UNKNOWN);
    due("q -1", x.area(-1), UNKNOWN);
    due("q MIN", x.area(MIN), UNKNOWN);
    x.corner(3, 2, 10000, -10000);
    x.corner(4, 2, -10000, -10000);
    x.corner(4, 3, -10000, 10000);
    x.corner(3, 3, 10000, 10000);
    due("the other way round", x.area(19), -800000000L * 840 * 840);
    x.corner(3, 2, -10000, -10000);
    x.corner(4, 2, 10000, -10000);
    x.corner(4, 3, 10000, 10000);
    x.corner(3, 3, -10000, 10000);
    due("the greatest", x.area(19), 800000000L * 840 * 840);
    x.lose(8, 8);
    due("a corner nowhere", x.area(63), NOT);
    due("its neighbour", x.area(62), 20000L * 840 * 840);
    Land y = new Land();
    y.corner(0, 0, 0, 1);
    y.corner(2, 0, 201, 0);
    y.lose(1, 0);
    long mid = 840 * 201 / 2;
    long sum = 0 * 420L - mid * 840 + mid * 84000 - 84000 * 420L + 84000L * 84000 - 0 + 0 - 0;
    due("a LOST corner by 840ths", y.area(0), sum);
  }

  /** What is asked, or refused, changes nothing that is asked later. */
  private static void asOftenAsAsked() {
    part("asking");
    Land x = with(3, "age 0 most 9 live 2 gap 5 plough 0 idle 2");
    x.line(10, FILE, 0, 0, 0);
    x.line(11, LIVE, 0, 0, 3);
    x.line(14, PROVE, 0, 0, 0);
    x.line(30, DEATH, 0, 0, 1);
    int all = x.digest(NONE);
    for (int k = 4; k >= 0; k--) {
      for (int day = 0; day <= 40; day += 5) x.holds(0, day, k, 4);
    }
    x.outcome(2, 2);
    x.line(0, FILE, 0, 64, 0);
    due("digest", x.digest(NONE), all);
    due("digest of all four", x.digest(4), all);
    due("the heir", x.holds(0, 30, NONE, 0), 1);
  }

  public static void main(String[] args) {
    newObject();
    persons();
    map();
    feeds();
    lawsAndPlaces();
    setsOfLaws();
    lawsOfDays();
    linesTold();
    strikes();
    outcomesOfFiling();
    outcomesOfContests();
    outcomesOfProofs();
    gaps();
    deaths();
    counts();
    holding();
    holdingsOf();
    digests();
    corners();
    cornersByJ();
    areas();
    asOftenAsAsked();
    end("all promises hold");
  }
}

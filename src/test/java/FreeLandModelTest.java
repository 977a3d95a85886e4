import java.nio.charset.StandardCharsets;
import java.util.ArrayList;
import java.util.Arrays;
import java.util.Comparator;
import java.util.HashMap;
import java.util.HashSet;
import java.util.List;
import java.util.Map;
import java.util.Set;
import java.util.TreeSet;
import java.util.regex.Matcher;
import java.util.regex.Pattern;

/** Long runs of calls against a second, slow writing of the document: day by day, list by list. */
public final class FreeLandModelTest {
  private static final int NONE = -1, UNKNOWN = -1001, OUTSIDE = -1002, NOT = -1003, FULL = -1004;
  private static final String[] WORDS = {"age", "live", "gap", "plough", "term", "idle", "prefer", "most", "bind"};
  private static final int[] FIRST = {7600, 1800, 180, 10, 2600, 180, 30, 1, 100};

  // ---- the model

  private static final class Law {
    int number, day;
    Map<String, Integer> sets;
  }

  private static final class Line {
    int number, day, sort, p, q, n;
    boolean struck;
  }

  private static final class Entry {
    Line file;
    Law law;
    int holder, state, proved;
    Set<Integer> holders = new HashSet<>();
    List<Line> since = new ArrayList<>();
  }

  private static final class State {
    Map<Integer, Integer> outcomes = new HashMap<>();
    List<Entry> entries = new ArrayList<>();
    List<Line> living = new ArrayList<>();
    Set<Integer> dead = new HashSet<>();
    Map<Integer, int[]> preferences = new HashMap<>();

    Entry holding(int q) {
      for (Entry e : entries) {
        if (e.file.q == q && e.state != 3) return e;
      }
      return null;
    }

    Entry live(int q) {
      Entry e = holding(q);
      return e == null || e.state != 1 ? null : e;
    }

    boolean[] lived(Entry e, int from, int to) {
      boolean[] days = new boolean[Math.max(0, to - from + 1)];
      for (Line l : living) {
        if (l.q != e.file.q || !e.holders.contains(l.p)) continue;
        for (int day = Math.max(from, l.day); day <= to && day < l.day + l.n; day++) days[day - from] = true;
      }
      return days;
    }

    int acres(Entry e) {
      int sum = 0;
      for (Line l : e.since) {
        if (e.holders.contains(l.p)) sum += l.n;
      }
      return sum;
    }

    int preferred(int q, int day) {
      int[] it = preferences.get(q);
      return it == null || day < it[1] || day > it[2] ? NONE : it[0];
    }
  }

  private static final class Model {
    List<int[]> persons = new ArrayList<>();
    List<Law> laws = new ArrayList<>();
    List<Line> lines = new ArrayList<>();
    StringBuilder text = new StringBuilder();
    int map = 20001, place = NONE;
    long[][][] corners = new long[9][9][];

    Model() {
      for (int i = 0; i < 9; i++) {
        for (int j = 0; j < 9; j++) corners[i][j] = new long[] {100 * i, 100 * j};
      }
    }

    int person(int birth, int citizen) {
      if (birth < -20000 || birth > 20000 || citizen < -20000 || citizen > 20001) return OUTSIDE;
      if (persons.size() == 12) return FULL;
      persons.add(new int[] {birth, citizen});
      return persons.size() - 1;
    }

    int map(int d) {
      if (d < 0 || d > 20001) return OUTSIDE;
      int before = map;
      map = d;
      return before;
    }

    int feed(int n, long bytes) {
      if (n < 1 || n > 8) return OUTSIDE;
      if (text.length() + n > 120) return FULL;
      for (int i = n - 1; i >= 0; i--) text.append((char) (bytes >>> 8 * i & 255));
      return text.length();
    }

    int law(int day) {
      if (noDay(day)) return OUTSIDE;
      if (laws.size() == 8) return FULL;
      String told = text.toString();
      text.setLength(0);
      Law law = new Law();
      law.day = day;
      law.number = laws.size();
      law.sets = new HashMap<>();
      place = NONE;
      int fault = 0;
      String word = null;
      Matcher things = Pattern.compile("[^ ]+").matcher(told);
      while (things.find()) {
        String thing = things.group();
        if (word == null) {
          if (!List.of(WORDS).contains(thing)) fault = 1;
          else if (law.sets.containsKey(thing)) fault = 3;
          word = thing;
        } else {
          if (!thing.matches("[0-9]+")) fault = 1;
          else if (thing.length() >= 6) fault = 2;
          else law.sets.put(word, Integer.parseInt(thing));
          word = null;
        }
        if (fault != 0) {
          place = things.start();
          return -10 - fault;
        }
      }
      if (word != null) {
        place = told.length();
        return -11;
      }
      laws.add(law);
      return law.number;
    }

    List<Law> byDays() {
      List<Law> all = new ArrayList<>(laws);
      all.sort(Comparator.comparingInt(l -> l.day));
      return all;
    }

    int value(Law law, String word) {
      int value = FIRST[List.of(WORDS).indexOf(word)];
      if (law == null) return value;
      for (Law l : byDays()) {
        value = l.sets.getOrDefault(word, value);
        if (l == law) break;
      }
      return value;
    }

    Law inForce(int day) {
      Law last = null;
      for (Law l : byDays()) {
        if (l.day <= day) last = l;
      }
      return last;
    }

    int sets(int l, int what) {
      if (l < NONE || l >= laws.size()) return UNKNOWN;
      if (what < 0 || what > 9) return OUTSIDE;
      Law law = l == NONE ? null : laws.get(l);
      if (what == 9) return law == null ? 0 : law.day;
      return value(law, WORDS[what]);
    }

    int lawOf(int day) {
      if (noDay(day)) return OUTSIDE;
      Law law = inForce(day);
      return law == null ? NONE : law.number;
    }

    int line(int day, int sort, int p, int q, int n) {
      if (sort < 0 || sort > 6) return OUTSIDE;
      if (noPerson(p) || sort != 6 && noQuarter(q) || sort == 6 && noPerson(n)) return UNKNOWN;
      if (noDay(day) || sort == 1 && (n < 1 || n > 5000) || sort == 2 && (n < 1 || n > 160)) return OUTSIDE;
      if (lines.size() == 120) return FULL;
      Line l = new Line();
      l.number = lines.size();
      l.day = day;
      l.sort = sort;
      l.p = p;
      l.q = q;
      l.n = n;
      lines.add(l);
      return l.number;
    }

    int strike(int l, boolean on) {
      if (l < 0 || l >= lines.size()) return UNKNOWN;
      int was = lines.get(l).struck ? 1 : 0;
      lines.get(l).struck = on;
      return was;
    }

    int told(int l, int what) {
      if (l < 0 || l >= lines.size()) return UNKNOWN;
      Line it = lines.get(l);
      int[] all = {it.day, it.sort, it.p, it.q, it.n, it.struck ? 1 : 0};
      return what < 0 || what > 5 ? OUTSIDE : all[what];
    }

    State work(int k, int lastDay) {
      List<Line> known = new ArrayList<>(lines.subList(0, k == NONE ? lines.size() : k));
      known.removeIf(l -> l.struck || l.day > lastDay);
      known.sort(Comparator.comparingInt(l -> l.day));
      State s = new State();
      for (Line l : known) s.outcomes.put(l.number, comesTo(s, l));
      return s;
    }

    int comesTo(State s, Line l) {
      if (s.dead.contains(l.p)) return 1;
      Entry live = s.live(l.q);
      switch (l.sort) {
        case 0: return files(s, l);
        case 1: s.living.add(l); return 0;
        case 2:
          for (Entry e : s.entries) {
            if (e.file.q == l.q) e.since.add(l);
          }
          return 0;
        case 3:
          if (live == null || live.holder != l.p) return 8;
          live.state = 3;
          return 0;
        case 4: return contests(s, l, live);
        case 5: return proves(s, l, live);
        default:
          if (s.dead.contains(l.n) || l.n == l.p) return 16;
          s.dead.add(l.p);
          for (Entry e : s.entries) {
            if (e.state == 3 || e.holder != l.p) continue;
            e.holder = l.n;
            e.holders.add(l.n);
          }
          return 0;
      }
    }

    int files(State s, Line l) {
      Law law = inForce(l.day);
      if (l.day - persons.get(l.p)[0] < value(law, "age")) return 2;
      if (persons.get(l.p)[1] > l.day) return 3;
      if (railroads(l.q, l.day)) return 4;
      if (s.holding(l.q) != null) return 5;
      int preferred = s.preferred(l.q, l.day);
      if (preferred != NONE && preferred != l.p) return 6;
      int filed = 0;
      for (Entry e : s.entries) {
        if (e.file.p == l.p) filed++;
      }
      if (filed >= value(law, "most")) return 7;
      Entry e = new Entry();
      e.file = l;
      e.law = law;
      e.holder = l.p;
      e.holders.add(l.p);
      e.state = 1;
      s.entries.add(e);
      return 0;
    }

    int contests(State s, Line l, Entry e) {
      if (e == null) return 9;
      if (e.holder == l.p) return 10;
      int idle = value(e.law, "idle");
      for (boolean lived : s.lived(e, l.day - idle, l.day - 1)) {
        if (lived) return 11;
      }
      for (int day = l.day - idle; day <= l.day; day++) {
        if (e.file.day == day) return 11;
      }
      e.state = 3;
      s.preferences.put(l.q, new int[] {l.p, l.day, l.day + value(e.law, "prefer")});
      return 0;
    }

    int proves(State s, Line l, Entry e) {
      if (e == null || e.holder != l.p) return 8;
      if (l.day > e.file.day + value(e.law, "term")) return 12;
      int sum = 0, run = 0, longest = 0;
      for (boolean lived : s.lived(e, e.file.day, l.day - 1)) {
        sum += lived ? 1 : 0;
        run = lived ? 0 : run + 1;
        longest = Math.max(longest, run);
      }
      if (sum < value(e.law, "live")) return 13;
      if (longest > value(e.law, "gap")) return 14;
      if (s.acres(e) < value(e.law, "plough")) return 15;
      e.state = 2;
      e.proved = l.day;
      return 0;
    }

    boolean railroads(int q, int day) {
      int sum = q % 8 / 2 + q / 8 / 2;
      return day >= map && sum % 2 != 0;
    }

    int outcome(int l, int k) {
      if (l < 0 || l >= lines.size()) return UNKNOWN;
      if (noCount(k)) return OUTSIDE;
      return work(k, 20000).outcomes.getOrDefault(l, NONE);
    }

    int count(int what) {
      if (what < 0 || what > 10) return OUTSIDE;
      State s = work(NONE, 20000);
      int[] states = new int[4];
      for (Entry e : s.entries) states[e.state]++;
      int struck = 0;
      for (Line l : lines) struck += l.struck ? 1 : 0;
      int not = 0;
      for (int o : s.outcomes.values()) not += o == 0 ? 0 : 1;
      int[] all = {persons.size(), laws.size(), lines.size(), struck, text.length(), s.entries.size(), states[1], states[2], states[3], s.dead.size(), not};
      return all[what];
    }

    int holds(int q, int day, int k, int what) {
      if (noQuarter(q)) return UNKNOWN;
      if (noDay(day) || noCount(k) || what < 0 || what > 5) return OUTSIDE;
      State s = work(k, day);
      Entry e = s.holding(q);
      if (what == 3) return s.preferred(q, day);
      if (e == null) return what == 1 ? railroads(q, day) ? 4 : 0 : what > 3 ? 0 : NONE;
      if (what == 0) return e.holder;
      if (what == 1) return e.state == 2 && day >= e.proved + value(e.law, "bind") ? 3 : e.state;
      if (what == 2) return e.file.number;
      if (what == 5) return s.acres(e);
      int sum = 0;
      for (boolean lived : s.lived(e, e.file.day, day)) sum += lived ? 1 : 0;
      return sum;
    }

    int holdings(int p, int k) {
      if (noPerson(p)) return UNKNOWN;
      if (noCount(k)) return OUTSIDE;
      int sum = 0;
      for (Entry e : work(k, 20000).entries) sum += e.state != 3 && e.holder == p ? 1 : 0;
      return sum;
    }

    int digest(int k) {
      if (noCount(k)) return OUTSIDE;
      State s = work(k, 20000);
      int d = 7;
      for (Line l : lines.subList(0, k == NONE ? lines.size() : k)) d = 31 * d + s.outcomes.getOrDefault(l.number, NONE);
      for (int q = 0; q < 64; q++) d = 31 * d + (s.holding(q) == null ? NONE : s.holding(q).holder);
      return d;
    }

    int corner(int i, int j, int x, int y) {
      if (noCorner(i, j) || Math.abs((long) x) > 10000 || Math.abs((long) y) > 10000) return OUTSIDE;
      corners[i][j] = new long[] {x, y};
      return 1;
    }

    int lose(int i, int j) {
      if (noCorner(i, j)) return OUTSIDE;
      int was = corners[i][j] == null ? 0 : 1;
      corners[i][j] = null;
      return was;
    }

    long[] lies(int i, int j) {
      long[] at = corners[i][j];
      if (at != null) return new long[] {840 * at[0], 840 * at[1]};
      TreeSet<Integer> is = new TreeSet<>();
      TreeSet<Integer> js = new TreeSet<>();
      for (int c = 0; c < 9; c++) {
        if (corners[c][j] != null) is.add(c);
        if (corners[i][c] != null) js.add(c);
      }
      if (is.lower(i) != null && is.higher(i) != null) {
        return between(corners[is.lower(i)][j], corners[is.higher(i)][j], i - is.lower(i), is.higher(i) - is.lower(i));
      }
      if (js.lower(j) != null && js.higher(j) != null) {
        return between(corners[i][js.lower(j)], corners[i][js.higher(j)], j - js.lower(j), js.higher(j) - js.lower(j));
      }
      return null;
    }

    static long[] between(long[] a, long[] b, int part, int whole) {
      return new long[] {840 * (a[0] * (whole - part) + b[0] * part) / whole, 840 * (a[1] * (whole - part) + b[1] * part) / whole};
    }

    long lies(int i, int j, int what) {
      if (noCorner(i, j) || what < 0 || what > 2) return OUTSIDE;
      long[] at = lies(i, j);
      if (at == null) return NOT;
      return what == 2 ? corners[i][j] == null ? 0 : 1 : at[what];
    }

    long area(int q) {
      if (noQuarter(q)) return UNKNOWN;
      int x = q % 8, y = q / 8;
      long[] a = lies(x, y), b = lies(x + 1, y), c = lies(x + 1, y + 1), d = lies(x, y + 1);
      if (a == null || b == null || c == null || d == null) return NOT;
      // The cross sum of a quadrangle is the cross product of its diagonals.
      return (c[0] - a[0]) * (d[1] - b[1]) - (d[0] - b[0]) * (c[1] - a[1]);
    }

    static boolean noDay(int day) {
      return day < 0 || day > 20000;
    }

    static boolean noQuarter(int q) {
      return q < 0 || q > 63;
    }

    static boolean noCorner(int i, int j) {
      return i < 0 || i > 8 || j < 0 || j > 8;
    }

    boolean noPerson(int p) {
      return p < 0 || p >= persons.size();
    }

    boolean noCount(int k) {
      return k < -1 || k > lines.size();
    }
  }

  // ---- the runs

  private static long seed = 20261119;
  private static int wrong = 0;
  private static final int[] outcomes = new int[17];
  private static int fullBooks = 0;
  /** More calls than one step of a run ever makes. */
  private static final int AT_ONCE = 20;

  private static int below(int n) {
    seed = seed * 6364136223846793005L + 1442695040888963407L;
    return (int) ((seed >>> 33) % n);
  }

  private static int from(int low, int high) {
    return low + below(high - low + 1);
  }

  private static boolean once(int in) {
    return below(in) == 0;
  }

  /** Mostly what is given; once in a while another number, near the bounds or wild. */
  private static int or(int value) {
    if (!once(60)) return value;
    int[] wild = {-1, -2, 0, 1, 6, 7, 8, 9, 12, 63, 64, 120, 160, 161, 5000, 5001, 10000, 10001, 20000, 20001, 20002, -20000, -20001, Integer.MIN_VALUE, Integer.MAX_VALUE, -10000, -10001};
    return wild[below(wild.length)];
  }

  private static void due(int run, String call, long got, long want) {
    if (got == want) return;
    wrong++;
    if (wrong < 20) System.out.println("run " + run + ": " + call + " answered " + got + ", due is " + want);
  }

  private static int run;
  /** Whether the run tells lines rather than laws, up to a full book. */
  private static boolean bookish;
  private static int span;
  private static int[] quarters;
  private static Land x;
  private static Model m;

  private static void begin(int number) {
    run = number;
    bookish = number % 8 == 0;
    x = new Land();
    m = new Model();
    span = once(5) ? 20000 : from(10, 160);
    quarters = new int[from(1, 4)];
    for (int i = 0; i < quarters.length; i++) quarters[i] = below(64);
    int persons = from(1, 6);
    for (int p = 0; p < persons; p++) person();
    if (span < 1000) law(0, lenient());
  }

  private static int day() {
    return or(once(20) ? span : below(span + 1));
  }

  private static int quarter() {
    return or(once(20) ? below(64) : quarters[below(quarters.length)]);
  }

  private static int some() {
    return or(below(Math.max(1, m.persons.size())));
  }

  private static int known() {
    return once(3) ? or(from(-1, m.lines.size())) : NONE;
  }

  private static void person() {
    int birth = or(once(8) ? from(0, 20) : span > 1000 ? -below(9000) : -below(50));
    int citizen = or(once(6) ? from(0, 40) : 0);
    due(run, "person(" + birth + ", " + citizen + ")", x.person(birth, citizen), m.person(birth, citizen));
  }

  private static String lenient() {
    return "age " + below(12) + " live " + below(once(3) ? 12 : 4) + " gap " + from(0, once(3) ? 15 : 60) + " plough " + below(8) + " term " + from(10, 80)
        + " idle " + below(12) + " prefer " + below(20) + " most " + from(1, 5) + " bind " + below(20);
  }

  private static String anyText() {
    if (once(3)) return lenient();
    StringBuilder text = new StringBuilder();
    int pairs = below(6);
    for (int i = 0; i < pairs; i++) {
      text.append(" ".repeat(i == 0 ? below(3) : from(once(20) ? 0 : 1, 3)));
      text.append(once(25) ? "agg" : WORDS[below(9)]);
      text.append(" ".repeat(from(once(20) ? 0 : 1, 3)));
      if (!once(20)) text.append(once(15) ? "0000001" : once(15) ? "1O" : "" + below(30));
    }
    return text + " ".repeat(below(3));
  }

  private static void law(int day, String text) {
    byte[] bytes = text.getBytes(StandardCharsets.ISO_8859_1);
    for (int at = 0; at < bytes.length;) {
      int n = Math.min(8, bytes.length - at);
      long packed = once(2) ? 0 : -1L;
      for (int i = 0; i < n; i++) packed = packed << 8 | bytes[at + i] & 255;
      due(run, "feed(" + n + ", " + packed + ")", x.feed(n, packed), m.feed(n, packed));
      at += n;
    }
    due(run, "law(" + day + ") of '" + text + "'", x.law(day), m.law(day));
    due(run, "place()", x.place(), m.place);
  }

  private static void line() {
    int[] sorts = {0, 0, 0, 0, 1, 1, 1, 1, 2, 2, 3, 4, 4, 5, 5, 5, 6};
    int sort = or(sorts[below(sorts.length)]);
    int p = some();
    int q = quarter();
    int day = day();
    int n = or(sort == 6 ? below(Math.max(1, m.persons.size())) : sort == 2 ? from(1, 6) : from(1, Math.max(1, Math.min(span / 8, 5000))));
    int got = x.line(day, sort, p, q, n);
    due(run, "line(" + day + ", " + sort + ", " + p + ", " + q + ", " + n + ")", got, m.line(day, sort, p, q, n));
    if (got >= 0) outcome(got, NONE);
    if (got == FULL) fullBooks++;
  }

  private static void outcome(int l, int k) {
    int got = x.outcome(l, k);
    due(run, "outcome(" + l + ", " + k + ")", got, m.outcome(l, k));
    if (got >= 0 && got <= 16) outcomes[got]++;
  }

  private static void call() {
    int l = or(below(m.lines.size() + 1));
    int k = known();
    int q = quarter();
    int day = day();
    switch (below(24)) {
      case 0: person(); break;
      case 1: int d = or(from(0, 20001)); due(run, "map(" + d + ")", x.map(d), m.map(d)); break;
      case 2: int e = or(below(span + 1)); due(run, "map(" + e + ")", x.map(e), m.map(e)); break;
      case 3: case 4:
        if (bookish && !once(6)) line();
        else law(day, anyText());
        break;
      case 5: int s = or(from(-1, m.laws.size())), w = or(below(10)); due(run, "sets(" + s + ", " + w + ")", x.sets(s, w), m.sets(s, w)); break;
      case 6: due(run, "lawOf(" + day + ")", x.lawOf(day), m.lawOf(day)); break;
      case 7: boolean on = !once(3); due(run, "strike(" + l + ", " + on + ")", x.strike(l, on), m.strike(l, on)); break;
      case 8: int t = or(below(6)); due(run, "told(" + l + ", " + t + ")", x.told(l, t), m.told(l, t)); break;
      case 9: outcome(l, k); break;
      case 10: int c = or(below(11)); due(run, "count(" + c + ")", x.count(c), m.count(c)); break;
      case 11: case 12: case 13: int h = or(below(6)); due(run, "holds(" + q + ", " + day + ", " + k + ", " + h + ")", x.holds(q, day, k, h), m.holds(q, day, k, h)); break;
      case 14: int p = some(); due(run, "holdings(" + p + ", " + k + ")", x.holdings(p, k), m.holdings(p, k)); break;
      case 15: due(run, "digest(" + k + ")", x.digest(k), m.digest(k)); break;
      default: line();
    }
  }

  private static void land(int number) {
    run = number;
    x = new Land();
    m = new Model();
    int far = once(2) ? 10000 : 900;
    for (int n = 0; n < 300; n++) {
      int i = or(below(9)), j = or(below(9));
      switch (below(6)) {
        case 0: int px = or(from(-far, far)), py = or(from(-far, far)); due(run, "corner(" + i + ", " + j + ", " + px + ", " + py + ")", x.corner(i, j, px, py), m.corner(i, j, px, py)); break;
        case 1: case 2: due(run, "lose(" + i + ", " + j + ")", x.lose(i, j), m.lose(i, j)); break;
        case 3: case 4: int w = or(below(3)); due(run, "lies(" + i + ", " + j + ", " + w + ")", x.lies(i, j, w), m.lies(i, j, w)); break;
        default: int q = or(below(64)); due(run, "area(" + q + ")", x.area(q), m.area(q));
      }
    }
  }

  public static void main(String[] args) {
    for (int number = 1; number <= 1500 && wrong == 0; number++) {
      begin(number);
      int calls = bookish ? Land.MOST_CALLS : 230;
      for (int n = 0; n < calls && x.left() >= AT_ONCE; n++) call();
    }
    for (int number = 2001; number <= 2400 && wrong == 0; number++) land(number);
    for (int o = 0; o <= 16; o++) {
      if (wrong == 0 && outcomes[o] < 50) due(0, "runs that came to outcome " + o, outcomes[o], 50);
    }
    if (wrong == 0 && fullBooks < 50) due(0, "lines that a full book refused", fullBooks, 50);
    System.out.println("outcomes met: " + Arrays.toString(outcomes));
    System.out.println(wrong == 0 ? "the model answers likewise" : wrong + " answers are not the model's");
    if (wrong != 0) System.exit(1);
  }
}

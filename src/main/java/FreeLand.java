/**
 * Free land: quarters that are claimed, lived on, ploughed, proved, given up, contested and left
 * to heirs; the law in texts, each from a day on; a book of lines told in any order and worked
 * through by days; corners lost and set again by proportion.
 */
public final class FreeLand {
  public static final int NONE = -1, UNKNOWN = -1001, OUTSIDE = -1002, NOT = -1003, FULL = -1004;

  private static final int LAST_DAY = 20000;
  private static final int NEVER = LAST_DAY + 1;
  private static final int EARLIEST = -20000;
  private static final int QUARTERS = 64;
  private static final int MOST_PERSONS = 12;
  private static final int MOST_LAWS = 8;
  private static final int MOST_BYTES = 120;
  private static final int MOST_LINES = 120;
  private static final int FARTHEST = 10000;

  private static final int FILE = 0, LIVE = 1, PLOUGH = 2, GIVE_UP = 3, CONTEST = 4, PROVE = 5, DEATH = 6;
  private static final int MOST_DAYS_LIVED = 5000;
  private static final int MOST_ACRES = 160;

  private final Persons persons = new Persons();
  private final Laws laws = new Laws();
  private final Book book = new Book();
  private final Work work = new Work(persons, laws, book);
  private final Corners corners = new Corners();

  public FreeLand() {
  }

  // ---- persons, the map, laws

  public int person(int birth, int citizen) {
    if (!within(birth, EARLIEST, LAST_DAY) || !within(citizen, EARLIEST, NEVER)) return OUTSIDE;
    if (persons.size >= MOST_PERSONS) return FULL;
    return persons.add(birth, citizen);
  }

  public int map(int d) {
    if (!within(d, 0, NEVER)) return OUTSIDE;
    int before = work.mapDay;
    work.mapDay = d;
    return before;
  }

  public int feed(int n, long bytes) {
    if (!within(n, 1, 8)) return OUTSIDE;
    if (laws.length + n > MOST_BYTES) return FULL;
    return laws.append(n, bytes);
  }

  public int law(int day) {
    if (!isDay(day)) return OUTSIDE;
    if (laws.size >= MOST_LAWS) return FULL;
    return laws.enact(day);
  }

  public int place() {
    return laws.faultAt;
  }

  public int sets(int l, int what) {
    if (l != NONE && !within(l, 0, laws.size - 1)) return UNKNOWN;
    if (!within(what, 0, Laws.WORDS)) return OUTSIDE;
    if (what == Laws.WORDS) return l == NONE ? 0 : laws.from[l];
    return laws.valueOf(l, what);
  }

  public int lawOf(int day) {
    if (!isDay(day)) return OUTSIDE;
    return laws.inForce(day);
  }

  // ---- the book

  public int line(int day, int sort, int p, int q, int n) {
    if (!within(sort, FILE, DEATH)) return OUTSIDE;
    if (!isPerson(p)) return UNKNOWN;
    if (sort == DEATH ? !isPerson(n) : !isQuarter(q)) return UNKNOWN;
    if (!isDay(day) || !fitsSort(sort, n)) return OUTSIDE;
    if (book.size >= MOST_LINES) return FULL;
    int l = book.add(day, sort);
    book.who[l] = p;
    book.where[l] = q;
    book.number[l] = n;
    return l;
  }

  public int strike(int l, boolean on) {
    if (!isLine(l)) return UNKNOWN;
    int before = book.struck[l] ? 1 : 0;
    book.struck[l] = on;
    return before;
  }

  public int told(int l, int what) {
    if (!isLine(l)) return UNKNOWN;
    switch (what) {
      case 0: return book.day[l];
      case 1: return book.sort[l];
      case 2: return book.who[l];
      case 3: return book.where[l];
      case 4: return book.number[l];
      case 5: return book.struck[l] ? 1 : 0;
      default: return OUTSIDE;
    }
  }

  public int outcome(int l, int k) {
    if (!isLine(l)) return UNKNOWN;
    if (!isKnownBy(k)) return OUTSIDE;
    work.through(linesOf(k), LAST_DAY);
    return work.result[l];
  }

  public int count(int what) {
    switch (what) {
      case 0: return persons.size;
      case 1: return laws.size;
      case 2: return book.size;
      case 3: return book.countStruck();
      case 4: return laws.length;
      default: return countOfWork(what);
    }
  }

  private int countOfWork(int what) {
    if (!within(what, 5, 10)) return OUTSIDE;
    work.through(book.size, LAST_DAY);
    switch (what) {
      case 5: return work.countEntries(Work.IS_LIVE) + work.countEntries(Work.IS_PROVED) + work.countEntries(Work.IS_ENDED);
      case 6: return work.countEntries(Work.IS_LIVE);
      case 7: return work.countEntries(Work.IS_PROVED);
      case 8: return work.countEntries(Work.IS_ENDED);
      case 9: return work.countDead();
      default: return work.countNotDone();
    }
  }

  // ---- who holds what

  public int holds(int q, int day, int k, int what) {
    if (!isQuarter(q)) return UNKNOWN;
    if (!isDay(day) || !isKnownBy(k) || !within(what, 0, 5)) return OUTSIDE;
    work.through(linesOf(k), day);
    switch (what) {
      case 0: return work.holderOf(q);
      case 1: return work.standing(q, day);
      case 2: return work.held[q];
      case 3: return work.preferredOn(q, day);
      case 4: return work.daysLived(q, day);
      default: return work.acres(q);
    }
  }

  public int holdings(int p, int k) {
    if (!isPerson(p)) return UNKNOWN;
    if (!isKnownBy(k)) return OUTSIDE;
    work.through(linesOf(k), LAST_DAY);
    int sum = 0;
    for (int q = 0; q < QUARTERS; q++) {
      if (work.holderOf(q) == p) sum++;
    }
    return sum;
  }

  public int digest(int k) {
    if (!isKnownBy(k)) return OUTSIDE;
    int lines = linesOf(k);
    work.through(lines, LAST_DAY);
    int d = 7;
    for (int l = 0; l < lines; l++) {
      d = 31 * d + work.result[l];
    }
    for (int q = 0; q < QUARTERS; q++) {
      d = 31 * d + work.holderOf(q);
    }
    return d;
  }

  // ---- corners

  public int corner(int i, int j, int x, int y) {
    if (!isCorner(i, j) || !within(x, -FARTHEST, FARTHEST) || !within(y, -FARTHEST, FARTHEST)) return OUTSIDE;
    corners.set(i, j, x, y);
    return 1;
  }

  public int lose(int i, int j) {
    if (!isCorner(i, j)) return OUTSIDE;
    return corners.forget(i, j) ? 1 : 0;
  }

  public int lies(int i, int j, int what) {
    if (!isCorner(i, j) || !within(what, 0, 2)) return OUTSIDE;
    if (!corners.find(i, j)) return NOT;
    switch (what) {
      case 0: return corners.foundX;
      case 1: return corners.foundY;
      default: return corners.isKnown(i, j) ? 1 : 0;
    }
  }

  public long area(int q) {
    if (!isQuarter(q)) return UNKNOWN;
    if (!corners.findAround(q % 8, q / 8)) return NOT;
    return corners.crossSum();
  }

  // ---- what there is, and what is in bounds

  private static boolean within(int value, int low, int high) {
    return value >= low && value <= high;
  }

  private static boolean isDay(int day) {
    return within(day, 0, LAST_DAY);
  }

  private static boolean isQuarter(int q) {
    return within(q, 0, QUARTERS - 1);
  }

  private static boolean isCorner(int i, int j) {
    return within(i, 0, 8) && within(j, 0, 8);
  }

  private boolean isPerson(int p) {
    return within(p, 0, persons.size - 1);
  }

  private boolean isLine(int l) {
    return within(l, 0, book.size - 1);
  }

  private boolean isKnownBy(int k) {
    return within(k, NONE, book.size);
  }

  private int linesOf(int k) {
    return k == NONE ? book.size : k;
  }

  private static boolean fitsSort(int sort, int n) {
    if (sort == LIVE) return within(n, 1, MOST_DAYS_LIVED);
    if (sort == PLOUGH) return within(n, 1, MOST_ACRES);
    return true;
  }

  private static final class Persons {
    private final int[] birth = new int[MOST_PERSONS];
    private final int[] citizen = new int[MOST_PERSONS];
    private int size;

    private int add(int born, int citizenFrom) {
      birth[size] = born;
      citizen[size] = citizenFrom;
      size++;
      return size - 1;
    }
  }

  /** The text that is fed, and the laws that came of such texts. */
  private static final class Laws {
    private static final int AGE = 0, LIVE_DAYS = 1, GAP = 2, PLOUGH_ACRES = 3, TERM = 4, IDLE = 5, PREFER = 6, MOST = 7, BIND = 8;
    private static final int WORDS = 9;
    private static final int[] AT_FIRST = {7600, 1800, 180, 10, 2600, 180, 30, 1, 100};
    private static final int UNSET = -1;
    private static final int BLANK = 32;
    private static final int MOST_FIGURES = 5;
    private static final int MISPLACED = 1, TOO_LONG = 2, TWICE = 3;

    private final byte[] text = new byte[MOST_BYTES];
    private int length;
    private int faultAt = NONE;
    private final int[] from = new int[MOST_LAWS];
    private final int[][] value = new int[MOST_LAWS][WORDS];
    /** The laws by their days, then as they came. */
    private final int[] order = new int[MOST_LAWS];
    private int size;

    private int append(int n, long bytes) {
      for (int i = n - 1; i >= 0; i--) {
        text[length] = (byte) (bytes >> (8 * i));
        length++;
      }
      return length;
    }

    /** The caller has seen that there is room for one more law. */
    private int enact(int day) {
      int fault = read(value[size]);
      length = 0;
      if (fault != 0) return -10 - fault;
      from[size] = day;
      int at = size;
      while (at > 0 && from[order[at - 1]] > day) {
        order[at] = order[at - 1];
        at--;
      }
      order[at] = size;
      size++;
      return size - 1;
    }

    /** Reads the text into a row of values: the number of its fault, or 0. */
    private int read(int[] row) {
      for (int word = 0; word < WORDS; word++) {
        row[word] = UNSET;
      }
      faultAt = NONE;
      int awaiting = NONE;
      for (int at = 0; at < length; at++) {
        if (!beginsThing(at)) continue;
        int end = endOfThing(at);
        int fault;
        if (awaiting == NONE) {
          awaiting = wordAt(at, end);
          fault = awaiting == NONE ? MISPLACED : row[awaiting] != UNSET ? TWICE : 0;
        } else {
          fault = faultOfNumber(at, end);
          if (fault == 0) row[awaiting] = numberAt(at, end);
          awaiting = NONE;
        }
        if (fault != 0) {
          faultAt = at;
          return fault;
        }
      }
      if (awaiting == NONE) return 0;
      faultAt = length;
      return MISPLACED;
    }

    private boolean beginsThing(int at) {
      return text[at] != BLANK && (at == 0 || text[at - 1] == BLANK);
    }

    private int endOfThing(int at) {
      int end = at;
      while (end < length && text[end] != BLANK) end++;
      return end;
    }

    private int wordAt(int at, int end) {
      for (int word = 0; word < WORDS; word++) {
        if (isWritten(nameOf(word), at, end)) return word;
      }
      return NONE;
    }

    private boolean isWritten(String name, int at, int end) {
      if (name.length() != end - at) return false;
      for (int i = 0; i < name.length(); i++) {
        if (text[at + i] != name.charAt(i)) return false;
      }
      return true;
    }

    private static String nameOf(int word) {
      switch (word) {
        case AGE: return "age";
        case LIVE_DAYS: return "live";
        case GAP: return "gap";
        case PLOUGH_ACRES: return "plough";
        case TERM: return "term";
        case IDLE: return "idle";
        case PREFER: return "prefer";
        case MOST: return "most";
        default: return "bind";
      }
    }

    private int faultOfNumber(int at, int end) {
      for (int i = at; i < end; i++) {
        if (text[i] < '0' || text[i] > '9') return MISPLACED;
      }
      return end - at > MOST_FIGURES ? TOO_LONG : 0;
    }

    private int numberAt(int at, int end) {
      int number = 0;
      for (int i = at; i < end; i++) {
        number = 10 * number + text[i] - '0';
      }
      return number;
    }

    /** What a law (NONE: none) sets for a word, or has of those before it. */
    private int valueOf(int law, int word) {
      boolean reached = false;
      for (int at = size - 1; at >= 0; at--) {
        int other = order[at];
        if (other == law) reached = true;
        if (reached && value[other][word] != UNSET) return value[other][word];
      }
      return AT_FIRST[word];
    }

    private int inForce(int day) {
      for (int at = size - 1; at >= 0; at--) {
        if (from[order[at]] <= day) return order[at];
      }
      return NONE;
    }
  }

  /** The lines as they were told. */
  private static final class Book {
    private final int[] day = new int[MOST_LINES];
    private final int[] sort = new int[MOST_LINES];
    private final int[] who = new int[MOST_LINES];
    private final int[] where = new int[MOST_LINES];
    private final int[] number = new int[MOST_LINES];
    private final boolean[] struck = new boolean[MOST_LINES];
    /** The lines by their days, then as they came. */
    private final int[] order = new int[MOST_LINES];
    private int size;

    /** The caller has seen that there is room for one more line. */
    private int add(int itsDay, int itsSort) {
      day[size] = itsDay;
      sort[size] = itsSort;
      int at = size;
      while (at > 0 && day[order[at - 1]] > itsDay) {
        order[at] = order[at - 1];
        at--;
      }
      order[at] = size;
      size++;
      return size - 1;
    }

    private int countStruck() {
      int sum = 0;
      for (int l = 0; l < size; l++) {
        if (struck[l]) sum++;
      }
      return sum;
    }
  }

  /**
   * The book worked through anew for each question, so that what comes late, or is struck, puts
   * right all that hangs on it. An entry bears the number of its line of FILE.
   */
  private static final class Work {
    private static final int NO_ENTRY = 0, IS_LIVE = 1, IS_PROVED = 2, IS_ENDED = 3;
    private static final int BINDING = 3, RAILROAD = 4;
    private static final int DONE = 0;

    private final Persons persons;
    private final Laws laws;
    private final Book book;
    private int mapDay = NEVER;

    /** What each line came to; NONE: it was not worked. */
    private final int[] result = new int[MOST_LINES];
    private final int[] state = new int[MOST_LINES];
    private final int[] holder = new int[MOST_LINES];
    /** A bit for each person who has been the entry's holder. */
    private final int[] holders = new int[MOST_LINES];
    private final int[] ruling = new int[MOST_LINES];
    private final int[] bindsFrom = new int[MOST_LINES];
    /** Where in the order the line of FILE stands. */
    private final int[] spot = new int[MOST_LINES];

    /** The entry that holds a quarter, or NONE. */
    private final int[] held = new int[QUARTERS];
    private final int[] preferred = new int[QUARTERS];
    private final int[] preferredTo = new int[QUARTERS];

    private final boolean[] dead = new boolean[MOST_PERSONS];
    private final int[] filed = new int[MOST_PERSONS];

    private int livedDays;
    private int longestGap;

    private Work(Persons persons, Laws laws, Book book) {
      this.persons = persons;
      this.laws = laws;
      this.book = book;
    }

    /** Works through the first lines of the book, up to a day and with it. */
    private void through(int lines, int lastDay) {
      clear();
      for (int at = 0; at < book.size; at++) {
        int l = book.order[at];
        if (book.day[l] > lastDay) break;
        if (l < lines && !book.struck[l]) result[l] = workLine(l, at);
      }
    }

    private void clear() {
      for (int l = 0; l < MOST_LINES; l++) {
        result[l] = NONE;
        state[l] = NO_ENTRY;
      }
      for (int q = 0; q < QUARTERS; q++) {
        held[q] = NONE;
        preferred[q] = NONE;
      }
      for (int p = 0; p < MOST_PERSONS; p++) {
        dead[p] = false;
        filed[p] = 0;
      }
    }

    private int workLine(int l, int at) {
      if (dead[book.who[l]]) return 1;
      switch (book.sort[l]) {
        case FILE: return workFile(l, at);
        case GIVE_UP: return workGiveUp(l);
        case CONTEST: return workContest(l);
        case PROVE: return workProve(l);
        case DEATH: return workDeath(l);
        default: return DONE;
      }
    }

    private int workFile(int l, int at) {
      int day = book.day[l];
      int p = book.who[l];
      int q = book.where[l];
      int law = laws.inForce(day);
      if (day - persons.birth[p] < laws.valueOf(law, Laws.AGE)) return 2;
      if (persons.citizen[p] > day) return 3;
      if (isRailroads(q, day)) return 4;
      if (held[q] != NONE) return 5;
      int first = preferredOn(q, day);
      if (first != NONE && first != p) return 6;
      if (filed[p] >= laws.valueOf(law, Laws.MOST)) return 7;
      filed[p]++;
      held[q] = l;
      state[l] = IS_LIVE;
      holder[l] = p;
      holders[l] = 1 << p;
      ruling[l] = law;
      spot[l] = at;
      return DONE;
    }

    private int workGiveUp(int l) {
      int q = book.where[l];
      if (!isHeldLiveBy(q, book.who[l])) return 8;
      end(q);
      return DONE;
    }

    private int workContest(int l) {
      int q = book.where[l];
      int day = book.day[l];
      if (!isHeldLive(q)) return 9;
      int e = held[q];
      if (holder[e] == book.who[l]) return 10;
      int firstIdle = day - laws.valueOf(ruling[e], Laws.IDLE);
      if (book.day[e] >= firstIdle) return 11;
      lookAtLiving(e, firstIdle, day - 1);
      if (livedDays > 0) return 11;
      end(q);
      preferred[q] = book.who[l];
      preferredTo[q] = day + laws.valueOf(ruling[e], Laws.PREFER);
      return DONE;
    }

    private int workProve(int l) {
      int q = book.where[l];
      int day = book.day[l];
      if (!isHeldLiveBy(q, book.who[l])) return 8;
      int e = held[q];
      int law = ruling[e];
      if (day - book.day[e] > laws.valueOf(law, Laws.TERM)) return 12;
      lookAtLiving(e, book.day[e], day - 1);
      if (livedDays < laws.valueOf(law, Laws.LIVE_DAYS)) return 13;
      if (longestGap > laws.valueOf(law, Laws.GAP)) return 14;
      if (acres(q) < laws.valueOf(law, Laws.PLOUGH_ACRES)) return 15;
      state[e] = IS_PROVED;
      bindsFrom[e] = day + laws.valueOf(law, Laws.BIND);
      return DONE;
    }

    private int workDeath(int l) {
      int p = book.who[l];
      int heir = book.number[l];
      if (heir == p || dead[heir]) return 16;
      dead[p] = true;
      for (int q = 0; q < QUARTERS; q++) {
        if (holderOf(q) == p) {
          holder[held[q]] = heir;
          holders[held[q]] |= 1 << heir;
        }
      }
      return DONE;
    }

    private void end(int q) {
      state[held[q]] = IS_ENDED;
      held[q] = NONE;
    }

    private boolean isRailroads(int q, int day) {
      int x = q % 8;
      int y = q / 8;
      return day >= mapDay && (x / 2 + y / 2) % 2 == 1;
    }

    private boolean isHeldLive(int q) {
      return held[q] != NONE && state[held[q]] == IS_LIVE;
    }

    private boolean isHeldLiveBy(int q, int p) {
      return isHeldLive(q) && holder[held[q]] == p;
    }

    private int holderOf(int q) {
      return held[q] == NONE ? NONE : holder[held[q]];
    }

    private int standing(int q, int day) {
      int e = held[q];
      if (e == NONE) return isRailroads(q, day) ? RAILROAD : 0;
      if (state[e] == IS_PROVED && day >= bindsFrom[e]) return BINDING;
      return state[e];
    }

    private int preferredOn(int q, int day) {
      return preferred[q] != NONE && day <= preferredTo[q] ? preferred[q] : NONE;
    }

    private int daysLived(int q, int day) {
      int e = held[q];
      if (e == NONE) return 0;
      lookAtLiving(e, book.day[e], day);
      return livedDays;
    }

    /**
     * Of the days from .. to, those on which somebody who has been the entry's holder lived on its
     * quarter, and the longest run of others. Lines stand by their first days, so one sweep does.
     */
    private void lookAtLiving(int e, int from, int to) {
      livedDays = 0;
      longestGap = 0;
      int next = from;
      for (int at = 0; at < book.size; at++) {
        int l = book.order[at];
        if (!isDoneByHolder(l, LIVE, e)) continue;
        int first = Math.max(book.day[l], next);
        int last = Math.min(book.day[l] + book.number[l] - 1, to);
        if (first > last) continue;
        longestGap = Math.max(longestGap, first - next);
        livedDays += last - first + 1;
        next = last + 1;
      }
      longestGap = Math.max(longestGap, to + 1 - next);
    }

    private int acres(int q) {
      int e = held[q];
      if (e == NONE) return 0;
      int sum = 0;
      for (int at = spot[e]; at < book.size; at++) {
        int l = book.order[at];
        if (isDoneByHolder(l, PLOUGH, e)) sum += book.number[l];
      }
      return sum;
    }

    private boolean isDoneByHolder(int l, int sort, int e) {
      return result[l] == DONE && book.sort[l] == sort && book.where[l] == book.where[e]
          && (holders[e] >> book.who[l] & 1) == 1;
    }

    private int countEntries(int itsState) {
      int sum = 0;
      for (int l = 0; l < book.size; l++) {
        if (state[l] == itsState) sum++;
      }
      return sum;
    }

    private int countDead() {
      int sum = 0;
      for (int p = 0; p < MOST_PERSONS; p++) {
        if (dead[p]) sum++;
      }
      return sum;
    }

    private int countNotDone() {
      int sum = 0;
      for (int l = 0; l < book.size; l++) {
        if (result[l] > DONE) sum++;
      }
      return sum;
    }
  }

  /** The corners, and where lost ones lie, in 840ths, which every share of the way divides. */
  private static final class Corners {
    private static final int SIDE = 9;
    private static final int PARTS = 840;

    private final boolean[] known = new boolean[SIDE * SIDE];
    private final int[] x = new int[SIDE * SIDE];
    private final int[] y = new int[SIDE * SIDE];
    private int foundX;
    private int foundY;
    private final long[] aroundX = new long[4];
    private final long[] aroundY = new long[4];

    private Corners() {
      for (int at = 0; at < SIDE * SIDE; at++) {
        known[at] = true;
        x[at] = 100 * (at % SIDE);
        y[at] = 100 * (at / SIDE);
      }
    }

    private void set(int i, int j, int newX, int newY) {
      int at = SIDE * j + i;
      known[at] = true;
      x[at] = newX;
      y[at] = newY;
    }

    private boolean forget(int i, int j) {
      boolean before = isKnown(i, j);
      known[SIDE * j + i] = false;
      return before;
    }

    private boolean isKnown(int i, int j) {
      return known[SIDE * j + i];
    }

    /** Finds where a corner lies; false: nowhere. */
    private boolean find(int i, int j) {
      int at = SIDE * j + i;
      if (known[at]) {
        foundX = PARTS * x[at];
        foundY = PARTS * y[at];
        return true;
      }
      return findBetween(at, i, 1) || findBetween(at, j, SIDE);
    }

    /** Looks both ways along a line on which the corner has a number, and the next one is a step on. */
    private boolean findBetween(int at, int number, int step) {
      int back = 1;
      while (back <= number && !known[at - back * step]) back++;
      int on = 1;
      while (number + on < SIDE && !known[at + on * step]) on++;
      if (back > number || number + on >= SIDE) return false;
      int low = at - back * step;
      int high = at + on * step;
      int share = PARTS / (back + on) * back;
      foundX = PARTS * x[low] + (x[high] - x[low]) * share;
      foundY = PARTS * y[low] + (y[high] - y[low]) * share;
      return true;
    }

    /** Finds the four corners of a quarter, one behind the other; false: one lies nowhere. */
    private boolean findAround(int i, int j) {
      for (int c = 0; c < 4; c++) {
        int right = c == 1 || c == 2 ? 1 : 0;
        int down = c >= 2 ? 1 : 0;
        if (!find(i + right, j + down)) return false;
        aroundX[c] = foundX;
        aroundY[c] = foundY;
      }
      return true;
    }

    private long crossSum() {
      long sum = 0;
      for (int c = 0; c < 4; c++) {
        int next = (c + 1) % 4;
        sum += aroundX[c] * aroundY[next] - aroundX[next] * aroundY[c];
      }
      return sum;
    }
  }
}

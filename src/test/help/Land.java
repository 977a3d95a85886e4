/**
 * A FreeLand that counts its calls: what an object answers to a 513th call is free, so that a test
 * that makes one is itself wrong.
 */
final class Land {
  static final int MOST_CALLS = 512;

  private final FreeLand it = new FreeLand();
  private int calls;

  /** How many calls may still be made. */
  int left() {
    return MOST_CALLS - calls;
  }

  private FreeLand ask() {
    calls++;
    if (calls > MOST_CALLS) throw new IllegalStateException("the test makes a 513th call of one object");
    return it;
  }

  int person(int birth, int citizen) {
    return ask().person(birth, citizen);
  }

  int map(int d) {
    return ask().map(d);
  }

  int feed(int n, long bytes) {
    return ask().feed(n, bytes);
  }

  int law(int day) {
    return ask().law(day);
  }

  int place() {
    return ask().place();
  }

  int sets(int l, int what) {
    return ask().sets(l, what);
  }

  int lawOf(int day) {
    return ask().lawOf(day);
  }

  int line(int day, int sort, int p, int q, int n) {
    return ask().line(day, sort, p, q, n);
  }

  int strike(int l, boolean on) {
    return ask().strike(l, on);
  }

  int told(int l, int what) {
    return ask().told(l, what);
  }

  int outcome(int l, int k) {
    return ask().outcome(l, k);
  }

  int count(int what) {
    return ask().count(what);
  }

  int holds(int q, int day, int k, int what) {
    return ask().holds(q, day, k, what);
  }

  int holdings(int p, int k) {
    return ask().holdings(p, k);
  }

  int digest(int k) {
    return ask().digest(k);
  }

  int corner(int i, int j, int x, int y) {
    return ask().corner(i, j, x, y);
  }

  int lose(int i, int j) {
    return ask().lose(i, j);
  }

  int lies(int i, int j, int what) {
    return ask().lies(i, j, what);
  }

  long area(int q) {
    return ask().area(q);
  }
}

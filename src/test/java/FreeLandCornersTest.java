/** The boundary cases of "Terms" 5 and promises 17 to 20: corners lost and set again, areas. */
public final class FreeLandCornersTest extends Check {
  private static final int FAR = 10000;
  private static final long WHOLE = 840L * 840;

  private static void placed(Land x, int i, int j, long placeX, long placeY) {
    due("x of (" + i + ", " + j + ")", x.lies(i, j, 0), placeX);
    due("y of (" + i + ", " + j + ")", x.lies(i, j, 1), placeY);
  }

  private static void nowhere(Land x, int i, int j) {
    for (int what = 0; what <= 2; what++) due("(" + i + ", " + j + "), " + what, x.lies(i, j, what), NOT);
  }

  private static void atFirst() {
    part("(i, j), i, j 0 to 8; at first (i, j) is KNOWN at (100 i, 100 j)");
    Land x = new Land();
    int[] ends = {0, 8};
    for (int i : ends) {
      for (int j : ends) {
        placed(x, i, j, 84000L * i, 84000L * j);
        due("KNOWN (" + i + ", " + j + ")", x.lies(i, j, 2), 1);
        due("lose (" + i + ", " + j + ")", x.lose(i, j), 1);
        nowhere(x, i, j);
        due("lose again", x.lose(i, j), 0);
        due("set (" + i + ", " + j + ")", x.corner(i, j, i, -j), 1);
        placed(x, i, j, 840L * i, -840L * j);
        due("KNOWN again", x.lies(i, j, 2), 1);
      }
    }
    int[][] outside = {{-1, 0}, {9, 0}, {0, -1}, {0, 9}, {9, 9}, {-1, -1}, {MIN, 0}, {0, MAX}};
    for (int[] at : outside) {
      due("corner " + at[0] + ", " + at[1], x.corner(at[0], at[1], 5, 5), OUTSIDE);
      due("lose " + at[0] + ", " + at[1], x.lose(at[0], at[1]), OUTSIDE);
      for (int what = 0; what <= 2; what++) due("lies " + at[0] + ", " + at[1], x.lies(at[0], at[1], what), OUTSIDE);
    }
  }

  private static void places() {
    part("a place x, y (-10000 .. 10000)");
    Land x = new Land();
    int[] ends = {-FAR, 0, FAR};
    for (int px : ends) {
      for (int py : ends) {
        due("corner at " + px + ", " + py, x.corner(4, 5, px, py), 1);
        placed(x, 4, 5, 840L * px, 840L * py);
      }
    }
    int[][] outside = {{-FAR - 1, 0}, {FAR + 1, 0}, {0, -FAR - 1}, {0, FAR + 1}, {MIN, 0}, {MAX, 0}, {0, MIN}, {0, MAX}};
    for (int[] at : outside) {
      due("corner at " + at[0] + ", " + at[1], x.corner(4, 5, at[0], at[1]), OUTSIDE);
      placed(x, 4, 5, 840L * FAR, 840L * FAR);
    }
    x.lose(4, 5);
    due("a LOST one at none", x.corner(4, 5, FAR + 1, 0), OUTSIDE);
    due("LOST still", x.lies(4, 5, 2), 0);
  }

  /** Every share of the way that two known ones on a line of nine may leave, along both lines. */
  private static void shares() {
    part("between the nearest of these, by the share of the way that their i tell; likewise by j");
    for (int low = 0; low <= 6; low++) {
      for (int high = low + 2; high <= 8; high++) {
        Land x = new Land();
        Land y = new Land();
        for (int c = low + 1; c < high; c++) {
          x.lose(c, 8);
          y.lose(8, c);
        }
        x.corner(low, 8, 13, -FAR);
        x.corner(high, 8, -17, FAR);
        y.corner(8, low, FAR, 7);
        y.corner(8, high, -FAR, 9);
        for (int c = low + 1; c < high; c++) {
          int part = c - low;
          int whole = high - low;
          placed(x, c, 8, 840 * 13 - 840L * 30 * part / whole, -840L * FAR + 840L * 2 * FAR * part / whole);
          placed(y, 8, c, 840L * FAR - 840L * 2 * FAR * part / whole, 840 * 7 + 840L * 2 * part / whole);
          due("KNOWN", x.lies(c, 8, 2), 0);
        }
      }
    }
  }

  private static void theNearest() {
    part("the nearest KNOWN ones of the line");
    Land x = new Land();
    for (int i = 0; i <= 8; i++) {
      if (i != 0 && i != 3 && i != 5 && i != 8) x.lose(i, 4);
    }
    x.corner(0, 4, -FAR, 0);
    x.corner(3, 4, 33, 0);
    x.corner(5, 4, 55, 0);
    x.corner(8, 4, FAR, 0);
    placed(x, 4, 4, 840 * 44, 0);
    placed(x, 1, 4, -8400000 + 280 * 10033, 0);
    placed(x, 7, 4, 840 * 55 + 560 * (FAR - 55), 0);
    x.lose(3, 4);
    placed(x, 4, 4, -8400000 + 168 * 4 * 10055, 0);
    x.lose(5, 4);
    placed(x, 4, 4, 0, 0);
    x.corner(4, 4, 1, 2);
    placed(x, 4, 4, 840, 1680);
    placed(x, 3, 4, -8400000 + 210 * 3 * 10001, 210 * 3 * 2);
  }

  private static void firstByI() {
    part("if there are KNOWN ones on its line j on both sides of it; else on its line i; else nowhere");
    Land x = new Land();
    x.corner(3, 4, 310, 440);
    x.corner(4, 3, 470, 290);
    x.lose(4, 4);
    placed(x, 4, 4, 840 * 405, 840 * 420);
    for (int i = 0; i < 4; i++) x.lose(i, 4);
    placed(x, 4, 4, 840 * 435, 840 * 395);
    for (int j = 5; j <= 8; j++) x.lose(4, j);
    nowhere(x, 4, 4);
    x.corner(0, 4, 0, 400);
    placed(x, 4, 4, 840 * 400, 840 * 400);
    x.lose(0, 4);
    x.corner(4, 8, 400, 800);
    placed(x, 4, 4, 840 * 456, 840 * 392);
    for (int j = 0; j < 4; j++) x.lose(4, j);
    nowhere(x, 4, 4);
    x.corner(4, 0, 0, 0);
    placed(x, 4, 4, 840 * 200, 840 * 400);
  }

  private static void bordersAndLostNeighbours() {
    part("KNOWN ones on both sides: a border has but one side, and LOST ones that lie somewhere are none");
    Land x = new Land();
    for (int i = 1; i <= 8; i++) x.lose(i, 0);
    nowhere(x, 8, 0);
    nowhere(x, 7, 0);
    nowhere(x, 1, 0);
    x.lose(7, 1);
    placed(x, 7, 1, 84000 * 7, 84000);
    x.lose(8, 1);
    nowhere(x, 8, 1);
    nowhere(x, 7, 1);
    Land y = new Land();
    int[] ends = {0, 8};
    for (int e : ends) {
      y.lose(e, 3);
      placed(y, e, 3, 84000L * e, 84000 * 3);
      y.lose(3, e);
      placed(y, 3, e, 84000 * 3, 84000L * e);
    }
    y.corner(7, 2, 720, 200);
    y.lose(7, 3);
    placed(y, 7, 3, 840 * 710, 840 * 300);
    Land z = new Land();
    for (int i = 0; i <= 8; i++) {
      for (int j = 0; j <= 8; j++) {
        if (i != 4 || j != 4) z.lose(i, j);
      }
    }
    placed(z, 4, 4, 84000 * 4, 84000 * 4);
    int[][] lost = {{3, 4}, {4, 5}, {0, 0}, {8, 8}, {0, 4}, {4, 8}};
    for (int[] at : lost) nowhere(z, at[0], at[1]);
    z.corner(4, 6, -1, 1);
    placed(z, 4, 5, 420 * 399, 420 * 401);
  }

  private static void areasOfQuarters() {
    part("AREA of a QUARTER: twice the area by the cross sums");
    Land x = new Land();
    due("quarter -1", x.area(-1), UNKNOWN);
    due("quarter 64", x.area(64), UNKNOWN);
    x.corner(3, 2, 310, 220);
    int[] others = {10, 11, 18, 19};
    long[] want = {
      cross(200, 100, 300, 100, 310, 220, 200, 200), cross(300, 100, 400, 100, 400, 200, 310, 220),
      cross(200, 200, 310, 220, 300, 300, 200, 300), cross(310, 220, 400, 200, 400, 300, 300, 300)};
    for (int q = 0; q < 64; q++) {
      long due = 20000;
      for (int i = 0; i < 4; i++) due = others[i] == q ? want[i] : due;
      due("quarter " + q, x.area(q), due * WHOLE);
    }
    int[][] ends = {{0, 0, 0}, {8, 0, 7}, {0, 8, 56}, {8, 8, 63}};
    for (int[] end : ends) {
      x.corner(end[0], end[1], 400, 400);
      due("quarter " + end[2] + " drawn in", x.area(end[2]) == 20000 * WHOLE ? 1 : 0, 0);
      x.lose(end[0], end[1]);
      due("quarter " + end[2] + ", a CORNER nowhere", x.area(end[2]), NOT);
      x.corner(end[0], end[1], 100 * end[0], 100 * end[1]);
      due("quarter " + end[2] + " as it was", x.area(end[2]), 20000 * WHOLE);
    }
  }

  private static long cross(long... at) {
    long sum = 0;
    for (int c = 0; c < 8; c += 2) sum += at[c] * at[(c + 3) % 8] - at[(c + 2) % 8] * at[c + 1];
    return sum;
  }

  private static void areasBelowNothing() {
    part("it may be below 0; one CORNER behind the other");
    Land x = new Land();
    square(x, -FAR, -FAR, FAR, FAR);
    due("the greatest", x.area(27), 2L * 20000 * 20000 * WHOLE);
    square(x, FAR, -FAR, -FAR, FAR);
    due("the least", x.area(27), -2L * 20000 * 20000 * WHOLE);
    square(x, 5, 5, 5, 5);
    due("of one place", x.area(27), 0);
    square(x, -3, 5, 9, 5);
    due("of one line", x.area(27), 0);
    x.corner(3, 3, 0, 0);
    x.corner(4, 3, 10, 0);
    x.corner(4, 4, 0, 10);
    x.corner(3, 4, 10, 10);
    due("crossed", x.area(27), 0);
    x.corner(3, 4, 11, 10);
    due("crossed, a bit less on one side", x.area(27), -10 * WHOLE);
    x.corner(3, 4, 9, 10);
    due("crossed, a bit more", x.area(27), 10 * WHOLE);
    x.corner(4, 4, 1, 0);
    x.corner(3, 4, 0, 1);
    x.corner(4, 3, 1, 0);
    due("of a half", x.area(27), WHOLE);
  }

  /** Sets the corners of quarter 27. */
  private static void square(Land x, int left, int top, int right, int bottom) {
    x.corner(3, 3, left, top);
    x.corner(4, 3, right, top);
    x.corner(4, 4, right, bottom);
    x.corner(3, 4, left, bottom);
  }

  private static void areasOfLostCorners() {
    part("in 840ths of 840ths; NOT: a CORNER lies nowhere");
    Land x = new Land();
    x.corner(0, 0, 0, 0);
    x.corner(7, 0, 701, 3);
    for (int i = 1; i < 7; i++) x.lose(i, 0);
    long oneX = 120 * 701, oneY = 120 * 3;
    due("a seventh", x.area(0), cross(0, 0, oneX, oneY, 84000, 84000, 0, 84000));
    due("two of them", x.area(1), cross(oneX, oneY, 2 * oneX, 2 * oneY, 168000, 84000, 84000, 84000));
    x.lose(1, 1);
    due("and one by another line", x.area(0), cross(0, 0, oneX, oneY, 84000, 84000, 0, 84000));
    x.lose(0, 1);
    due("and one without a KNOWN one on either of its lines", x.area(0), NOT);
    int[][] four = {{3, 3}, {4, 3}, {4, 4}, {3, 4}};
    for (int[] at : four) {
      Land y = new Land();
      for (int c = 0; c <= 8; c++) {
        y.lose(c, at[1]);
        y.lose(at[0], c);
      }
      for (int q = 0; q < 64; q++) {
        boolean beside = (q % 8 == at[0] || q % 8 == at[0] - 1) && (q / 8 == at[1] || q / 8 == at[1] - 1);
        due("(" + at[0] + ", " + at[1] + ") nowhere, quarter " + q, y.area(q), beside ? NOT : 20000 * WHOLE);
      }
    }
  }

  public static void main(String[] args) {
    atFirst();
    places();
    shares();
    theNearest();
    firstByI();
    bordersAndLostNeighbours();
    areasOfQuarters();
    areasBelowNothing();
    areasOfLostCorners();
    end("all boundary cases of corners hold");
  }
}

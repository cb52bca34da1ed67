/** Each promise of the document by its number: ordinary calls, the edges that it names, wrong calls. */
public final class AlmanacHousePromisesTest {
  private static final int LEAST = Integer.MIN_VALUE;
  private static final int MOST = Integer.MAX_VALUE;
  private static final Class<?> ARGUMENT = IllegalArgumentException.class;
  private static final Class<?> INDEX = IndexOutOfBoundsException.class;
  private static final Class<?> STATE = IllegalStateException.class;

  private static int wrong = 0;
  private static String promise = "";

  private interface Call {
    Object run();
  }

  private static void due(Object want, Call call) {
    tell(String.valueOf(want), call);
  }

  private static void refused(Class<?> want, Call call) {
    tell(want.getName(), call);
  }

  private static void tell(String want, Call call) {
    String got;
    try {
      got = String.valueOf(call.run());
    } catch (RuntimeException e) {
      got = thrownName(e);
    }
    if (!got.equals(want)) {
      wrong++;
      int line = new Throwable().getStackTrace()[2].getLineNumber();
      System.out.println(promise + ", line " + line + ": answered " + got + ", due is " + want);
    }
  }

  /** An exception must come from a throw of the class itself, not from the machine or the library. */
  private static String thrownName(RuntimeException e) {
    StackTraceElement[] trace = e.getStackTrace();
    boolean isOwn = trace.length > 0 && trace[0].getClassName().equals("AlmanacHouse");
    return isOwn ? e.getClass().getName() : e.getClass().getName() + " that the class did not throw";
  }

  /** The call must be refused and leave everything as it was. */
  private static void refusedUnchanged(Class<?> want, AlmanacHouse x, Call call) {
    long before = x.digest();
    tell(want.getName(), call);
    due(before, x::digest);
  }

  private static int text(String line) {
    int h = 0;
    for (char c : line.toCharArray()) {
      h = h * 31 + c;
    }
    return h;
  }

  public static void main(String[] args) {
    promise = "promise 1"; newObject();
    promise = "promise 2"; setLeaps();
    promise = "promise 3"; setMoon();
    promise = "promise 4"; setNodes();
    promise = "promise 5"; leap();
    promise = "promise 6"; day();
    promise = "promise 7"; date();
    promise = "promise 8"; line();
    promise = "promise 9"; moon();
    promise = "promise 10"; eclipses();
    promise = "promise 11"; next();
    promise = "promise 12"; observeMeansTheNearest(); observeCorrects();
    promise = "promise 13"; addFeast();
    promise = "promise 14"; feast();
    promise = "promise 15"; clashes();
    promise = "promise 16"; again();
    promise = "promise 17"; print();
    promise = "promise 18"; reprint();
    promise = "promise 19"; sheet(); sheetWithOtherEclipses();
    promise = "promise 20"; printed();
    promise = "promise 21"; count();
    promise = "promise 22"; cycle();
    promise = "promise 23"; mean();
    promise = "promise 24"; digest();
    System.out.println(wrong == 0 ? "the promises hold" : wrong + " answers are not as due");
    if (wrong != 0) {
      System.exit(1);
    }
  }

  private static void newObject() {
    AlmanacHouse other = new AlmanacHouse();
    other.setLeaps(30, 11);
    other.setMoon(30000, 7);
    other.setNodes(150000, 8);
    other.addFeast(0, 0, 0, -1, 0);
    other.print(0);
    other.observe(50, false);
    AlmanacHouse x = new AlmanacHouse();
    int[] counts = {4, 1, 29531, 0, 173310, 0, 0, 0, 0, 0, 0};
    for (int i = 0; i < counts.length; i++) {
      int what = i;
      due(counts[i], () -> x.count(what));
    }
    refused(INDEX, () -> x.feast(0, 0));
    refused(INDEX, () -> x.sheet(0, 0));
    due(0, () -> x.clashes(0));
  }

  private static void setLeaps() {
    AlmanacHouse x = new AlmanacHouse();
    due(4001, () -> x.setLeaps(400, 97));
    due(400097, () -> x.setLeaps(400, 400));
    due(400400, () -> x.setLeaps(1, 0));
    due(1000, () -> x.setLeaps(1, 1));
    due(1001, () -> x.setLeaps(30, 11));
    due(30, () -> x.count(0));
    due(11, () -> x.count(1));
    int[][] none = {{0, 0}, {401, 1}, {4, 5}, {4, -1}, {-1, -1}, {LEAST, 0}, {MOST, 0}, {4, MOST}, {4, LEAST}};
    for (int[] n : none) {
      refusedUnchanged(ARGUMENT, x, () -> x.setLeaps(n[0], n[1]));
    }
  }

  private static void setMoon() {
    AlmanacHouse x = new AlmanacHouse();
    due(29531, () -> x.setMoon(20000, 0));
    due(20000, () -> x.setMoon(40000, 39999));
    due(40000, () -> x.setMoon(30000, 12345));
    due(30000, () -> x.count(2));
    due(12345, () -> x.count(3));
    due(12, () -> x.moon(0, false));
    int[][] none = {{19999, 0}, {40001, 0}, {30000, -1}, {30000, 40000}, {LEAST, 0}, {MOST, 0}, {30000, MOST},
        {30000, LEAST}};
    for (int[] n : none) {
      refusedUnchanged(ARGUMENT, x, () -> x.setMoon(n[0], n[1]));
    }
  }

  private static void setNodes() {
    AlmanacHouse x = new AlmanacHouse();
    due(173310, () -> x.setNodes(100000, 0));
    due(100000, () -> x.setNodes(300000, 299999));
    due(300000, () -> x.setNodes(150000, 77777));
    due(150000, () -> x.count(4));
    due(77777, () -> x.count(5));
    int[][] none = {{99999, 0}, {300001, 0}, {150000, -1}, {150000, 300000}, {LEAST, 0}, {MOST, 0},
        {150000, MOST}, {150000, LEAST}};
    for (int[] n : none) {
      refusedUnchanged(ARGUMENT, x, () -> x.setNodes(n[0], n[1]));
    }
  }

  private static void leap() {
    AlmanacHouse x = new AlmanacHouse();
    for (int year = 0; year < 1000; year++) {
      int y = year;
      due(year % 4 == 0, () -> x.leap(y));
    }
    x.setLeaps(4, 3);
    boolean[] three = {true, false, true, true, true, false};
    for (int year = 0; year < three.length; year++) {
      int y = year;
      due(three[year], () -> x.leap(y));
    }
    x.setLeaps(7, 0);
    due(false, () -> x.leap(0));
    due(false, () -> x.leap(7));
    x.setLeaps(7, 7);
    due(true, () -> x.leap(1));
    due(true, () -> x.leap(999));
    refused(ARGUMENT, () -> x.leap(-1));
    refused(ARGUMENT, () -> x.leap(1000));
    refused(ARGUMENT, () -> x.leap(LEAST));
    refused(ARGUMENT, () -> x.leap(MOST));
  }

  private static void day() {
    AlmanacHouse x = new AlmanacHouse();
    due(0, () -> x.day(0, 0, 0));
    due(29, () -> x.day(0, 0, 29));
    due(30, () -> x.day(0, 1, 0));
    due(60, () -> x.day(0, 1, 30));
    due(61, () -> x.day(0, 2, 0));
    due(335, () -> x.day(0, 11, 0));
    due(365, () -> x.day(0, 11, 30));
    due(366, () -> x.day(1, 0, 0));
    due(730, () -> x.day(1, 11, 29));
    due(365249, () -> x.day(999, 11, 29));
    int[][] none = {{1, 11, 30}, {999, 11, 30}, {0, 11, 31}, {0, 0, 30}, {0, 10, 30}, {0, 1, 31}, {0, 0, -1},
        {0, 12, 0}, {0, -1, 0}, {-1, 0, 0}, {1000, 0, 0}, {MOST, 0, 0}, {LEAST, 0, 0}, {0, MOST, 0},
        {0, LEAST, 0}, {0, 0, MOST}, {0, 0, LEAST}};
    for (int[] n : none) {
      refused(ARGUMENT, () -> x.day(n[0], n[1], n[2]));
    }
    x.setLeaps(1, 1);
    due(365999, () -> x.day(999, 11, 30));
    x.setLeaps(4, 3);
    due(366 + 365, () -> x.day(2, 0, 0));
  }

  private static void date() {
    AlmanacHouse x = new AlmanacHouse();
    int[][] dates = {{0, 0, 0, 0, 0, 0}, {29, 0, 0, 29, 1, 0}, {30, 0, 1, 0, 2, 1}, {60, 0, 1, 30, 4, 1},
        {61, 0, 2, 0, 5, 2}, {365, 0, 11, 30, 1, 11}, {366, 1, 0, 0, 2, 12}, {730, 1, 11, 29, 2, 22},
        {731, 2, 0, 0, 3, 23}};
    for (int[] d : dates) {
      for (int i = 0; i <= 4; i++) {
        int what = i;
        due(d[what + 1], () -> x.date(d[0], what));
      }
    }
    due(999, () -> x.date(365249, 0));
    due(11, () -> x.date(365249, 1));
    due(29, () -> x.date(365249, 2));
    refused(ARGUMENT, () -> x.date(365250, 0));
    refused(ARGUMENT, () -> x.date(-1, 0));
    refused(ARGUMENT, () -> x.date(-1, 5));
    refused(ARGUMENT, () -> x.date(365250, -1));
    refused(ARGUMENT, () -> x.date(MOST, 0));
    refused(ARGUMENT, () -> x.date(LEAST, 0));
    refused(INDEX, () -> x.date(0, 5));
    refused(INDEX, () -> x.date(0, -1));
    x.setMoon(30001, 39999);
    due(-1, () -> x.date(38, 4));
    due(0, () -> x.date(39, 4));
    due(30, () -> x.date(69, 4));
    due(0, () -> x.date(70, 4));
    x.setLeaps(1, 1);
    due(999, () -> x.date(365999, 0));
    due(30, () -> x.date(365999, 2));
    refused(ARGUMENT, () -> x.date(366000, 0));
  }

  private static void line() {
    AlmanacHouse x = new AlmanacHouse();
    due(text("0-0-0"), () -> x.line(0));
    due(text("0-11-30"), () -> x.line(365));
    due(text("1-0-9"), () -> x.line(375));
    due(text("1-0-10"), () -> x.line(376));
    due(text("9-10-9"), () -> x.line(3288 + 305 + 9));
    due(text("10-9-30"), () -> x.line(3653 + 304));
    due(text("99-0-0"), () -> x.line(99 * 365 + 25));
    due(text("100-0-0"), () -> x.line(36525));
    due(text("999-11-29"), () -> x.line(365249));
    refused(ARGUMENT, () -> x.line(-1));
    refused(ARGUMENT, () -> x.line(365250));
    refused(ARGUMENT, () -> x.line(MOST));
    refused(ARGUMENT, () -> x.line(LEAST));
  }

  private static void moon() {
    AlmanacHouse x = new AlmanacHouse();
    due(0, () -> x.moon(0, false));
    due(14, () -> x.moon(0, true));
    due(29, () -> x.moon(1, false));
    due(295310, () -> x.moon(10000, false));
    due(295324, () -> x.moon(10000, true));
    x.setMoon(39999, 39999);
    due(39, () -> x.moon(0, false));
    due(59, () -> x.moon(0, true));
    // 29531 / 2 is cut to 14765
    x.setMoon(29531, 234);
    due(14, () -> x.moon(0, true));
    x.setMoon(29532, 234);
    due(15, () -> x.moon(0, true));
    refused(ARGUMENT, () -> x.moon(-1, false));
    refused(ARGUMENT, () -> x.moon(10001, true));
    refused(ARGUMENT, () -> x.moon(MOST, true));
    refused(ARGUMENT, () -> x.moon(LEAST, false));
  }

  private static void eclipses() {
    AlmanacHouse x = new AlmanacHouse();
    x.setNodes(300000, 0);
    x.setMoon(40000, 15000);
    due(2, () -> x.eclipses(0, true));
    x.setMoon(40000, 15001);
    due(1, () -> x.eclipses(0, true));
    x.setMoon(20000, 1000);
    due(3, () -> x.eclipses(0, false));
    x.setMoon(20000, 1001);
    due(1, () -> x.eclipses(0, false));
    // the new moon 7 comes 15000, then 15001 before the node at 300000
    x.setMoon(40000, 5000);
    due(2, () -> x.eclipses(0, true));
    x.setMoon(40000, 4999);
    due(1, () -> x.eclipses(0, true));
    // the same in front of the first node, which has no node before it
    x.setNodes(300000, 299999);
    x.setMoon(40000, 4999);
    due(1, () -> x.eclipses(0, true));
    x.setMoon(40000, 4998);
    due(0, () -> x.eclipses(0, true));
    x.setMoon(20000, 39999);
    due(2, () -> x.eclipses(0, false));
    // new moon 12 on the first day of the year 1, then a little before it
    x.setNodes(183000, 0);
    x.setMoon(30500, 0);
    due(2, () -> x.eclipses(0, true));
    due(2, () -> x.eclipses(1, true));
    x.setMoon(30499, 0);
    due(3, () -> x.eclipses(0, true));
    due(1, () -> x.eclipses(1, true));
    due(0, () -> x.eclipses(1, false));
    // nodes at 77777, 227777, 377777, 527777 and 677777
    x.setNodes(150000, 77777);
    x.setMoon(20000, 0);
    due(3, () -> x.eclipses(0, true));
    due(2, () -> x.eclipses(0, false));
    due(4, () -> x.eclipses(1, true));
    refused(ARGUMENT, () -> x.eclipses(-1, true));
    refused(ARGUMENT, () -> x.eclipses(1000, false));
    refused(ARGUMENT, () -> x.eclipses(LEAST, true));
    refused(ARGUMENT, () -> x.eclipses(MOST, false));
  }

  private static void next() {
    AlmanacHouse x = new AlmanacHouse();
    x.setNodes(300000, 0);
    x.setMoon(20000, 1000);
    due(1, () -> x.next(0));
    due(1, () -> x.next(1));
    due(11, () -> x.next(2));
    due(11, () -> x.next(11));
    due(291, () -> x.next(12));
    due(301, () -> x.next(292));
    due(311, () -> x.next(302));
    due(591, () -> x.next(312));
    // the day that is found can lie behind the last year
    x.setLeaps(1, 1);
    due(365991, () -> x.next(365991));
    due(366001, () -> x.next(365999));
    due(0, () -> new AlmanacHouse().next(0));
    // eclipses of the moon alone: the nodes come halfway between new moons
    x.setNodes(200000, 20000);
    x.setMoon(40000, 0);
    due(20, () -> x.next(0));
    due(220, () -> x.next(21));
    // eclipses of the sun alone
    x.setNodes(300000, 0);
    x.setMoon(30000, 0);
    due(0, () -> x.next(0));
    due(300, () -> x.next(16));
    refused(ARGUMENT, () -> x.next(-1));
    refused(ARGUMENT, () -> x.next(366000));
    refused(ARGUMENT, () -> x.next(MOST));
    refused(ARGUMENT, () -> x.next(LEAST));
  }

  private static void observeMeansTheNearest() {
    AlmanacHouse x = new AlmanacHouse();
    x.setMoon(20000, 0);
    due(10, () -> x.observe(10, false));
    due(20000, () -> x.count(2));
    due(-9, () -> x.observe(11, false));
    due(20000, () -> x.count(2));
    x.setMoon(20000, 0);
    due(10, () -> x.observe(30, false));
    due(30500, () -> x.count(2));
    x.setMoon(20000, 0);
    due(10, () -> x.observe(20, true));
    due(40000, () -> x.count(2));
    x.setMoon(20000, 0);
    due(-9, () -> x.observe(21, true));
    due(20000, () -> x.count(2));
    x.setMoon(20000, 39999);
    due(-39, () -> x.observe(0, false));
    due(-49, () -> x.observe(0, true));
    x.setMoon(20000, 0);
    due(-1, () -> x.observe(99999, false));
    refusedUnchanged(ARGUMENT, x, () -> x.observe(-1, false));
    refusedUnchanged(ARGUMENT, x, () -> x.observe(100000, true));
    refusedUnchanged(ARGUMENT, x, () -> x.observe(MOST, true));
    refusedUnchanged(ARGUMENT, x, () -> x.observe(LEAST, false));
  }

  private static void observeCorrects() {
    AlmanacHouse x = new AlmanacHouse();
    due(0, () -> x.observe(59, false));
    due(29531, () -> x.count(2));
    due(0, () -> x.count(10));
    due(2, () -> x.observe(61, false));
    due(30750, () -> x.count(2));
    x.setMoon(29531, 0);
    due(1, () -> x.observe(45, true));
    due(30333, () -> x.count(2));
    // the new moon 3, on the day 88, with a first that does not come out even
    x.setMoon(29531, 200);
    due(1, () -> x.observe(89, false));
    due((89500 - 200) / 3, () -> x.count(2));
    // less than nothing is held at the least
    x.setMoon(20000, 39999);
    due(-10, () -> x.observe(39, true));
    due(20000, () -> x.count(2));
    due(4, () -> x.count(10));
    // held at the most, and so the same as before
    x.setMoon(40000, 7);
    due(1, () -> x.observe(41, false));
    due(40000, () -> x.count(2));
    due(7, () -> x.count(3));
    due(5, () -> x.count(10));
    // the new moon 0 corrects nothing, the full moon 0 does
    due(1, () -> x.observe(1, false));
    due(5, () -> x.count(10));
    due(-1, () -> x.observe(19, true));
    due(2 * (19500 - 7), () -> x.count(2));
    due(6, () -> x.count(10));
    due(8, () -> x.count(9));
  }

  private static void addFeast() {
    AlmanacHouse x = new AlmanacHouse();
    due(0, () -> x.addFeast(0, 0, 0, -1, -60));
    due(1, () -> x.addFeast(11, 29, 3, 6, 60));
    int[][] none = {{-1, 0, 0, 0, 0}, {12, 0, 0, 0, 0}, {0, -1, 0, 0, 0}, {0, 30, 0, 0, 0}, {0, 0, -1, 0, 0},
        {0, 0, 4, 0, 0}, {0, 0, 0, -2, 0}, {0, 0, 0, 7, 0}, {0, 0, 0, 0, -61}, {0, 0, 0, 0, 61}, {1, 30, 0, 0, 0},
        {MOST, 0, 0, 0, 0}, {0, MOST, 0, 0, 0}, {0, 0, MOST, 0, 0}, {0, 0, 0, MOST, 0}, {0, 0, 0, 0, MOST},
        {LEAST, 0, 0, 0, 0}, {0, LEAST, 0, 0, 0}, {0, 0, LEAST, 0, 0}, {0, 0, 0, LEAST, 0}, {0, 0, 0, 0, LEAST}};
    for (int[] n : none) {
      refusedUnchanged(ARGUMENT, x, () -> x.addFeast(n[0], n[1], n[2], n[3], n[4]));
    }
    for (int i = 2; i < 8; i++) {
      int number = i;
      due(number, () -> x.addFeast(number, number, 0, -1, 0));
    }
    refusedUnchanged(STATE, x, () -> x.addFeast(0, 0, 0, -1, 0));
    refusedUnchanged(ARGUMENT, x, () -> x.addFeast(12, 0, 0, -1, 0));
    refusedUnchanged(ARGUMENT, x, () -> x.addFeast(0, 0, 0, -1, 61));
    due(8, () -> x.count(6));
    due(30 * 7 + 3 + 7, () -> x.feast(7, 0));
  }

  private static void feast() {
    // month, day, moons, weekday, offset, year, and the day due; full moons fall on 14, 44, 73, 103, ..
    int[][] told = {{0, 0, 0, -1, 0, 0, 0}, {0, 0, 0, -1, -60, 0, -60}, {11, 29, 0, -1, 60, 0, 424},
        {11, 29, 0, -1, 0, 1, 730}, {0, 0, 1, -1, 0, 0, 14}, {0, 14, 1, -1, 0, 0, 14}, {0, 15, 1, -1, 0, 0, 44},
        {0, 0, 2, -1, 0, 0, 44}, {0, 0, 3, -1, 0, 0, 73}, {0, 14, 3, -1, 0, 0, 73}, {0, 0, 0, 0, 0, 0, 0},
        {0, 0, 0, 6, 0, 0, 6}, {0, 1, 0, 0, 0, 0, 7}, {0, 1, 0, 1, 0, 0, 1}, {0, 0, 1, 0, 0, 0, 14},
        {0, 0, 1, 6, 0, 0, 20}, {0, 0, 1, 6, 5, 0, 25}, {0, 0, 1, 0, -21, 0, -7}, {2, 20, 1, 6, 0, 1, 461}};
    for (int[] t : told) {
      AlmanacHouse x = new AlmanacHouse();
      x.addFeast(t[0], t[1], t[2], t[3], t[4]);
      due(t[6], () -> x.feast(0, t[5]));
    }
    AlmanacHouse x = new AlmanacHouse();
    x.addFeast(0, 0, 1, -1, 0);
    x.setMoon(20000, 39999);
    due(49, () -> x.feast(0, 0));
    x.setMoon(40000, 0);
    x.addFeast(11, 29, 3, -1, 60);
    due(380 + 80 + 60, () -> x.feast(1, 0));
    refused(ARGUMENT, () -> x.feast(0, -1));
    refused(ARGUMENT, () -> x.feast(0, 1000));
    refused(ARGUMENT, () -> x.feast(1, MOST));
    refused(INDEX, () -> x.feast(2, 0));
    refused(INDEX, () -> x.feast(-1, 0));
    refused(INDEX, () -> x.feast(2, 1000));
    refused(INDEX, () -> x.feast(MOST, -1));
    refused(INDEX, () -> x.feast(LEAST, LEAST));
  }

  private static void clashes() {
    AlmanacHouse x = new AlmanacHouse();
    due(0, () -> x.clashes(0));
    x.addFeast(0, 14, 0, -1, 0);
    due(0, () -> x.clashes(0));
    x.addFeast(0, 0, 1, -1, 0);
    due(1, () -> x.clashes(0));
    due(0, () -> x.clashes(1));
    x.addFeast(0, 10, 0, 0, 0);
    due(3, () -> x.clashes(0));
    x.addFeast(5, 0, 0, -1, 0);
    x.addFeast(5, 10, 0, -1, -10);
    due(4, () -> x.clashes(0));
    for (int i = 0; i < 3; i++) {
      x.addFeast(5, 5, 0, -1, -5);
    }
    due(13, () -> x.clashes(0));
    refused(ARGUMENT, () -> x.clashes(-1));
    refused(ARGUMENT, () -> x.clashes(1000));
    refused(ARGUMENT, () -> x.clashes(MOST));
    refused(ARGUMENT, () -> x.clashes(LEAST));
  }

  private static void again() {
    AlmanacHouse x = new AlmanacHouse();
    x.addFeast(11, 29, 0, -1, 60);
    due(1, () -> x.again(0, 0));
    due(999, () -> x.again(0, 998));
    due(-1, () -> x.again(0, 999));
    // in years of 365 days, one more than 52 weeks, a weekday comes back after 7 years
    x.setLeaps(1, 0);
    x.addFeast(0, 0, 0, 3, -60);
    due(7, () -> x.again(1, 0));
    due(999, () -> x.again(1, 992));
    due(-1, () -> x.again(1, 993));
    refused(INDEX, () -> x.again(2, 0));
    refused(INDEX, () -> x.again(-1, 0));
    refused(INDEX, () -> x.again(MOST, MOST));
    refused(INDEX, () -> x.again(2, 1000));
    refused(ARGUMENT, () -> x.again(0, -1));
    refused(ARGUMENT, () -> x.again(1, 1000));
    refused(ARGUMENT, () -> x.again(1, LEAST));
    // it comes back after 100 years
    AlmanacHouse hundred = new AlmanacHouse();
    hundred.setLeaps(3, 1);
    hundred.setMoon(29463, 0);
    hundred.addFeast(2, 20, 1, 0, 0);
    due(104, () -> hundred.again(0, 4));
    // it comes back after 101 years, on the day 114 of the year 110
    AlmanacHouse more = new AlmanacHouse();
    more.setMoon(29417, 0);
    more.addFeast(2, 20, 1, 0, 0);
    due(more.day(9, 0, 0) + 114, () -> more.feast(0, 9));
    due(more.day(110, 0, 0) + 114, () -> more.feast(0, 110));
    due(-1, () -> more.again(0, 9));
  }

  private static void print() {
    AlmanacHouse x = new AlmanacHouse();
    x.addFeast(0, 5, 0, -1, 0);
    for (int i = 0; i < 10; i++) {
      int number = i;
      refusedUnchanged(ARGUMENT, x, () -> x.print(-1));
      refusedUnchanged(ARGUMENT, x, () -> x.print(1000));
      due(number, () -> x.print(number * 111));
      due(number * 111, () -> x.sheet(number, 0));
      due(x.day(number * 111, 0, 5), () -> x.printed(number, 0));
    }
    refusedUnchanged(STATE, x, () -> x.print(0));
    refusedUnchanged(ARGUMENT, x, () -> x.print(-1));
    refusedUnchanged(ARGUMENT, x, () -> x.print(1000));
    refusedUnchanged(ARGUMENT, x, () -> x.print(MOST));
  }

  private static void reprint() {
    AlmanacHouse x = new AlmanacHouse();
    x.addFeast(0, 0, 0, -1, 0);
    x.addFeast(0, 0, 1, -1, 0);
    x.addFeast(0, 0, 2, -1, 0);
    x.print(0);
    x.print(5);
    due(0, () -> x.reprint(0));
    x.setMoon(29531, 1000);
    x.addFeast(0, 3, 1, -1, 0);
    due(2, () -> x.reprint(0));
    due(4, () -> x.sheet(0, 1));
    due(0, () -> x.sheet(0, 3));
    due(15, () -> x.printed(0, 1));
    due(15, () -> x.printed(0, 3));
    due(0, () -> x.reprint(0));
    due(3, () -> x.sheet(1, 1));
    refusedUnchanged(INDEX, x, () -> x.reprint(2));
    refusedUnchanged(INDEX, x, () -> x.reprint(-1));
    refusedUnchanged(INDEX, x, () -> x.reprint(MOST));
    refusedUnchanged(INDEX, x, () -> x.reprint(LEAST));
    // the eclipses are printed anew too
    int before = x.sheet(0, 2);
    x.setNodes(100000, 0);
    due(before, () -> x.sheet(0, 2));
    due(0, () -> x.reprint(0));
    due(x.eclipses(0, true) + x.eclipses(0, false), () -> x.sheet(0, 2));
  }

  private static void sheet() {
    AlmanacHouse x = new AlmanacHouse();
    x.print(7);
    x.addFeast(0, 0, 1, -1, 0);
    x.addFeast(0, 0, 0, -1, 0);
    x.print(0);
    due(7, () -> x.sheet(0, 0));
    due(0, () -> x.sheet(0, 1));
    due(0, () -> x.sheet(0, 3));
    due(0, () -> x.sheet(0, 4));
    due(0, () -> x.sheet(1, 0));
    due(2, () -> x.sheet(1, 1));
    due(5, () -> x.sheet(1, 2));
    due(0, () -> x.sheet(1, 3));
    due(0, () -> x.sheet(1, 4));
    x.addFeast(0, 0, 3, -1, 0);
    due(2, () -> x.sheet(1, 1));
    due(0, () -> x.sheet(1, 3));
    x.setMoon(29531, 5000);
    due(1, () -> x.sheet(1, 3));
    due(5, () -> x.sheet(1, 4));
    x.setMoon(25000, 0);
    due(2, () -> x.sheet(1, 4));
    due(1, () -> x.sheet(1, 3));
    x.setMoon(29531, 0);
    due(0, () -> x.sheet(1, 3));
    due(0, () -> x.sheet(1, 4));
    refused(INDEX, () -> x.sheet(2, 0));
    refused(INDEX, () -> x.sheet(-1, 0));
    refused(INDEX, () -> x.sheet(0, 5));
    refused(INDEX, () -> x.sheet(0, -1));
    refused(INDEX, () -> x.sheet(MOST, MOST));
    refused(INDEX, () -> x.sheet(LEAST, LEAST));
  }

  private static void sheetWithOtherEclipses() {
    AlmanacHouse x = new AlmanacHouse();
    x.addFeast(0, 0, 0, -1, 0);
    x.setNodes(300000, 0);
    x.setMoon(40000, 15000);
    x.print(0);
    // two of the sun, 15000 behind the node 0 and 5000 before the node 1
    due(2, () -> x.sheet(0, 2));
    x.setMoon(40000, 15001);
    due(2, () -> x.sheet(0, 2));
    due(1, () -> x.eclipses(0, true) + x.eclipses(0, false));
    due(1, () -> x.sheet(0, 3));
    due(0, () -> x.sheet(0, 4));
    due(1, () -> x.count(8));
    due(0, () -> x.reprint(0));
    due(0, () -> x.count(8));
  }

  private static void printed() {
    AlmanacHouse x = new AlmanacHouse();
    x.addFeast(0, 0, 0, -1, -60);
    x.addFeast(0, 0, 1, -1, 0);
    x.print(0);
    x.setMoon(29531, 3000);
    x.addFeast(0, 0, 0, -1, 0);
    due(-60, () -> x.printed(0, 0));
    due(14, () -> x.printed(0, 1));
    refused(INDEX, () -> x.printed(0, 2));
    refused(INDEX, () -> x.printed(0, -1));
    refused(INDEX, () -> x.printed(0, 8));
    refused(INDEX, () -> x.printed(1, 0));
    refused(INDEX, () -> x.printed(-1, 0));
    refused(INDEX, () -> x.printed(MOST, LEAST));
    refused(INDEX, () -> x.printed(0, MOST));
    x.reprint(0);
    due(17, () -> x.printed(0, 1));
    due(0, () -> x.printed(0, 2));
  }

  private static void count() {
    AlmanacHouse x = new AlmanacHouse();
    x.setLeaps(19, 5);
    x.setMoon(29300, 12000);
    x.setNodes(150000, 77777);
    x.addFeast(0, 0, 1, -1, 0);
    x.addFeast(0, 0, 0, -1, 0);
    x.print(0);
    x.print(500);
    x.print(999);
    x.observe(12, false);
    x.observe(13, false);
    int[] counts = {19, 5, 29300, 12000, 150000, 77777, 2, 3, 0, 2, 0};
    for (int i = 0; i < counts.length; i++) {
      int what = i;
      due(counts[i], () -> x.count(what));
    }
    // the full moon 0 moves from the day 26 to 27
    x.observe(42, false);
    due(30500, () -> x.count(2));
    due(3, () -> x.count(9));
    due(1, () -> x.count(10));
    int wrongOnes = x.sheet(0, 3) + x.sheet(1, 3) + x.sheet(2, 3);
    due(wrongOnes, () -> x.count(8));
    due(1, () -> x.sheet(0, 3));
    x.reprint(0);
    due(wrongOnes - 1, () -> x.count(8));
    x.reprint(1);
    due(x.sheet(2, 3), () -> x.count(8));
    refused(INDEX, () -> x.count(-1));
    refused(INDEX, () -> x.count(11));
    refused(INDEX, () -> x.count(MOST));
    refused(INDEX, () -> x.count(LEAST));
  }

  private static void cycle() {
    AlmanacHouse x = new AlmanacHouse();
    // 5 years have 1827 days, 261 weeks; 62 moons are 1830922
    due(5, () -> x.cycle(5000));
    due(5, () -> x.cycle(3922));
    due(true, () -> x.cycle(3921) > 5);
    due(-1, () -> x.cycle(0));
    x.setLeaps(1, 0);
    x.setMoon(40000, 777);
    due(7, () -> x.cycle(5000));
    due(56, () -> x.cycle(4999));
    due(56, () -> x.cycle(0));
    // behind a whole number of lengths as well as before it: 7 years are 73 * 35000
    x.setMoon(35000, 0);
    due(7, () -> x.cycle(0));
    x.setMoon(34990, 0);
    due(7, () -> x.cycle(730));
    due(true, () -> x.cycle(729) > 7);
    // 400 years are 146097 days, 20 less than 7283 lengths
    x.setLeaps(400, 97);
    x.setMoon(20060, 0);
    due(400, () -> x.cycle(20));
    due(-1, () -> x.cycle(19));
    // 401 years are 146566 days, 20938 weeks and 7220 lengths, but 401 is not asked for
    x.setLeaps(2, 1);
    x.setMoon(20300, 0);
    due(-1, () -> x.cycle(0));
    refused(ARGUMENT, () -> x.cycle(-1));
    refused(ARGUMENT, () -> x.cycle(5001));
    refused(ARGUMENT, () -> x.cycle(MOST));
    refused(ARGUMENT, () -> x.cycle(LEAST));
  }

  private static void mean() {
    AlmanacHouse x = new AlmanacHouse();
    due(365.25, x::mean);
    x.setLeaps(19, 5);
    due(365 + 5.0 / 19, x::mean);
    x.setLeaps(400, 0);
    due(365.0, x::mean);
    x.setLeaps(400, 400);
    due(366.0, x::mean);
    x.setLeaps(400, 97);
    due(365.2425, x::mean);
    x.setLeaps(1, 1);
    due(366.0, x::mean);
  }

  private static void digest() {
    AlmanacHouse x = new AlmanacHouse();
    due(sum(4, 1, 29531, 0, 173310, 0, 0, 0, 0, 0, 0), x::digest);
    x.addFeast(0, 14, 1, -1, -20);
    x.print(0);
    x.addFeast(0, 15, 1, 2, 3);
    x.print(0);
    x.addFeast(11, 7, 0, 6, 60);
    x.setMoon(29531, 1000);
    x.observe(30, true);
    // the full moon 0 on the day 15 is the nearest one, seen on 30: 2 * 29500 is held at 40000
    due(40000, () -> x.count(2));
    x.setMoon(29531, 0);
    long[] right = {4, 1, 29531, 0, 173310, 0, 3, 2, 0, 1, 1,
        0, 14, 1, -1, -20, 0, 15, 1, 2, 3, 11, 7, 0, 6, 60,
        0, 1, 5, 0, 0, -6, 0, 2, 5, 0, 0, -6, 47};
    due(sum(right), x::digest);
    x.setMoon(29531, 2000);
    long[] wrongNow = {4, 1, 29531, 2000, 173310, 0, 3, 2, 2, 1, 1,
        0, 14, 1, -1, -20, 0, 15, 1, 2, 3, 11, 7, 0, 6, 60,
        0, 1, 5, 1, 2, -6, 0, 2, 5, 1, 28, -6, 47};
    due(sum(wrongNow), x::digest);
  }

  private static long sum(long... numbers) {
    long d = 827;
    for (long x : numbers) {
      d = d * 31 + x;
    }
    return d;
  }
}

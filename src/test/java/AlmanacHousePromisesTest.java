/** Each promise of the document by its number, with ordinary calls; the edges have tests of their own. */
public final class AlmanacHousePromisesTest extends Cases {
  public static void main(String[] args) {
    test("promise 2: leap years", AlmanacHousePromisesTest::setLeaps);
    test("promise 3: moons", AlmanacHousePromisesTest::setMoon);
    test("promise 4: nodes", AlmanacHousePromisesTest::setNodes);
    test("promise 5: the leap years of three cycles", AlmanacHousePromisesTest::leap);
    test("promise 6: days by their dates", AlmanacHousePromisesTest::day);
    test("promise 7: dates by their days", AlmanacHousePromisesTest::date);
    test("promise 8: lines", AlmanacHousePromisesTest::line);
    test("promise 9: days of moons", AlmanacHousePromisesTest::moon);
    test("promise 10: eclipses of some years", AlmanacHousePromisesTest::eclipses);
    test("promise 11: one eclipse behind the other", AlmanacHousePromisesTest::next);
    test("promise 12: the nearest moon is meant", AlmanacHousePromisesTest::observeMeansTheNearest);
    test("promise 12: the length is corrected", AlmanacHousePromisesTest::observeCorrects);
    test("promise 13: feasts are told", AlmanacHousePromisesTest::addFeast);
    test("promise 14: feasts by every rule", AlmanacHousePromisesTest::feast);
    test("promise 15: more and more feasts on one day", AlmanacHousePromisesTest::clashes);
    test("promise 16: feasts that come again", AlmanacHousePromisesTest::again);
    test("promise 17: sheets of several years", AlmanacHousePromisesTest::print);
    test("promise 18: sheets that are printed anew", AlmanacHousePromisesTest::reprint);
    test("promise 19: what sheets hold", AlmanacHousePromisesTest::sheet);
    test("promise 19: eclipses of a sheet that change", AlmanacHousePromisesTest::sheetWithOtherEclipses);
    test("promise 20: days as they were printed", AlmanacHousePromisesTest::printed);
    test("promise 21: all counts", AlmanacHousePromisesTest::count);
    test("promise 22: years until all comes back", AlmanacHousePromisesTest::cycle);
    test("promise 23: mean years", AlmanacHousePromisesTest::mean);
    test("promise 24: checksums of all", AlmanacHousePromisesTest::digest);
    end();
  }

  private static void setLeaps(AlmanacHouse x) {
    due(4001, () -> x.setLeaps(400, 97));
    due(400097, () -> x.setLeaps(400, 400));
    due(400400, () -> x.setLeaps(1, 0));
    due(1000, () -> x.setLeaps(1, 1));
    due(1001, () -> x.setLeaps(30, 11));
    due(30, () -> x.count(0));
    due(11, () -> x.count(1));
  }

  private static void setMoon(AlmanacHouse x) {
    due(29531, () -> x.setMoon(20000, 0));
    due(20000, () -> x.setMoon(40000, 39999));
    due(40000, () -> x.setMoon(30000, 12345));
    due(30000, () -> x.count(2));
    due(12345, () -> x.count(3));
    due(12, () -> x.moon(0, false));
  }

  private static void setNodes(AlmanacHouse x) {
    due(173310, () -> x.setNodes(100000, 0));
    due(100000, () -> x.setNodes(300000, 299999));
    due(300000, () -> x.setNodes(150000, 77777));
    due(150000, () -> x.count(4));
    due(77777, () -> x.count(5));
  }

  private static void leap(AlmanacHouse x) {
    for (int year = 0; year < 400; year++) {
      int y = year;
      due(year % 4 == 0, () -> x.leap(y));
    }
    x.setLeaps(4, 3);
    boolean[] three = {true, false, true, true, true, false};
    for (int year = 0; year < three.length; year++) {
      int y = year;
      due(three[year], () -> x.leap(y));
    }
    x.setLeaps(7, 0);
    due(false, () -> x.leap(0));
    due(false, () -> x.leap(7));
    x.setLeaps(7, 7);
    due(true, () -> x.leap(1));
    due(true, () -> x.leap(6));
  }

  private static void day(AlmanacHouse x) {
    due(0, () -> x.day(0, 0, 0));
    due(29, () -> x.day(0, 0, 29));
    due(30, () -> x.day(0, 1, 0));
    due(60, () -> x.day(0, 1, 30));
    due(61, () -> x.day(0, 2, 0));
    due(335, () -> x.day(0, 11, 0));
    due(365, () -> x.day(0, 11, 30));
    due(366, () -> x.day(1, 0, 0));
    due(730, () -> x.day(1, 11, 29));
    due(36525, () -> x.day(100, 0, 0));
    x.setLeaps(4, 3);
    due(366 + 365, () -> x.day(2, 0, 0));
  }

  private static void date(AlmanacHouse x) {
    int[][] dates = {{0, 0, 0, 0, 0, 0}, {29, 0, 0, 29, 1, 0}, {30, 0, 1, 0, 2, 1}, {60, 0, 1, 30, 4, 1},
        {61, 0, 2, 0, 5, 2}, {365, 0, 11, 30, 1, 11}, {366, 1, 0, 0, 2, 12}, {730, 1, 11, 29, 2, 22},
        {731, 2, 0, 0, 3, 23}};
    for (int[] d : dates) {
      for (int i = 0; i <= 4; i++) {
        int what = i;
        due(d[what + 1], () -> x.date(d[0], what));
      }
    }
    x.setMoon(30001, 39999);
    due(-1, () -> x.date(38, 4));
    due(0, () -> x.date(39, 4));
    due(30, () -> x.date(69, 4));
    due(0, () -> x.date(70, 4));
  }

  private static void line(AlmanacHouse x) {
    due(lineSum("0-0-0"), () -> x.line(0));
    due(lineSum("0-11-30"), () -> x.line(365));
    due(lineSum("1-0-9"), () -> x.line(375));
    due(lineSum("1-0-10"), () -> x.line(376));
    due(lineSum("9-10-9"), () -> x.line(3288 + 305 + 9));
    due(lineSum("10-9-30"), () -> x.line(3653 + 304));
    due(lineSum("99-0-0"), () -> x.line(99 * 365 + 25));
    due(lineSum("100-0-0"), () -> x.line(36525));
  }

  private static void moon(AlmanacHouse x) {
    due(0, () -> x.moon(0, false));
    due(14, () -> x.moon(0, true));
    due(29, () -> x.moon(1, false));
    due(295310, () -> x.moon(10000, false));
    due(295324, () -> x.moon(10000, true));
    x.setMoon(30000, 12345);
    due(12, () -> x.moon(0, false));
    due(27, () -> x.moon(0, true));
    due(102, () -> x.moon(3, false));
  }

  private static void eclipses(AlmanacHouse x) {
    // new moon 12 on the first day of the year 1, then a little before it
    x.setNodes(183000, 0);
    x.setMoon(30500, 0);
    due(2, () -> x.eclipses(0, true));
    due(2, () -> x.eclipses(1, true));
    x.setMoon(30499, 0);
    due(3, () -> x.eclipses(0, true));
    due(1, () -> x.eclipses(1, true));
    due(0, () -> x.eclipses(1, false));
    // nodes at 77777, 227777, 377777, 527777 and 677777
    x.setNodes(150000, 77777);
    x.setMoon(20000, 0);
    due(3, () -> x.eclipses(0, true));
    due(2, () -> x.eclipses(0, false));
    due(4, () -> x.eclipses(1, true));
  }

  private static void next(AlmanacHouse x) {
    x.setNodes(300000, 0);
    x.setMoon(20000, 1000);
    due(1, () -> x.next(0));
    due(1, () -> x.next(1));
    due(11, () -> x.next(2));
    due(11, () -> x.next(11));
    due(291, () -> x.next(12));
    due(301, () -> x.next(292));
    due(311, () -> x.next(302));
    due(591, () -> x.next(312));
    // eclipses of the moon alone: the nodes come halfway between new moons
    x.setNodes(200000, 20000);
    x.setMoon(40000, 0);
    due(20, () -> x.next(0));
    due(220, () -> x.next(21));
    // eclipses of the sun alone
    x.setNodes(300000, 0);
    x.setMoon(30000, 0);
    due(0, () -> x.next(0));
    due(300, () -> x.next(16));
  }

  private static void observeMeansTheNearest(AlmanacHouse x) {
    // new moons on 100, 130, 160, .., full ones between them
    x.setMoon(30000, 10000);
    due(5, () -> x.observe(105, false));
    x.setMoon(30000, 10000);
    due(-5, () -> x.observe(125, false));
    x.setMoon(30000, 10000);
    due(5, () -> x.observe(120, true));
    x.setMoon(30000, 10000);
    due(-5, () -> x.observe(140, true));
    x.setMoon(30000, 10000);
    due(0, () -> x.observe(130, false));
  }

  private static void observeCorrects(AlmanacHouse x) {
    due(0, () -> x.observe(59, false));
    due(29531, () -> x.count(2));
    due(0, () -> x.count(10));
    due(2, () -> x.observe(61, false));
    due(30750, () -> x.count(2));
    x.setMoon(29531, 0);
    due(1, () -> x.observe(45, true));
    due(30333, () -> x.count(2));
    // the new moon 3, on the day 88, with a first that does not come out even
    x.setMoon(29531, 200);
    due(1, () -> x.observe(89, false));
    due((89500 - 200) / 3, () -> x.count(2));
    due(4, () -> x.count(9));
    due(3, () -> x.count(10));
  }

  private static void addFeast(AlmanacHouse x) {
    due(0, () -> x.addFeast(0, 0, 0, -1, -60));
    due(1, () -> x.addFeast(11, 29, 3, 6, 60));
    for (int i = 2; i < 8; i++) {
      int number = i;
      due(number, () -> x.addFeast(number, number, 0, -1, 0));
    }
    due(8, () -> x.count(6));
    due(30 * 7 + 3 + 7, () -> x.feast(7, 0));
  }

  private static void feast(AlmanacHouse x) {
    // month, day, moons, weekday, offset, year, and the day due; full moons fall on 14, 44, 73, 103, ..
    int[][] told = {{0, 0, 0, -1, 0, 0, 0}, {0, 0, 0, -1, -60, 0, -60}, {11, 29, 0, -1, 60, 0, 424},
        {11, 29, 0, -1, 0, 1, 730}, {0, 0, 1, -1, 0, 0, 14}, {0, 14, 1, -1, 0, 0, 14}, {0, 15, 1, -1, 0, 0, 44},
        {0, 0, 2, -1, 0, 0, 44}, {0, 0, 3, -1, 0, 0, 73}, {0, 14, 3, -1, 0, 0, 73}, {0, 0, 0, 0, 0, 0, 0},
        {0, 0, 0, 6, 0, 0, 6}, {0, 1, 0, 0, 0, 0, 7}, {0, 1, 0, 1, 0, 0, 1}, {0, 0, 1, 0, 0, 0, 14},
        {0, 0, 1, 6, 0, 0, 20}, {0, 0, 1, 6, 5, 0, 25}, {0, 0, 1, 0, -21, 0, -7}, {2, 20, 1, 6, 0, 1, 461}};
    for (int[] t : told) {
      AlmanacHouse each = new AlmanacHouse();
      each.addFeast(t[0], t[1], t[2], t[3], t[4]);
      due(t[6], () -> each.feast(0, t[5]));
    }
    x.addFeast(0, 0, 1, -1, 0);
    x.addFeast(5, 0, 2, 3, 1);
    due(14, () -> x.feast(0, 0));
    // full moons on 162 and 191, the weekday 3 on 192
    due(193, () -> x.feast(1, 0));
  }

  private static void clashes(AlmanacHouse x) {
    due(0, () -> x.clashes(0));
    x.addFeast(0, 14, 0, -1, 0);
    due(0, () -> x.clashes(0));
    x.addFeast(0, 0, 1, -1, 0);
    due(1, () -> x.clashes(0));
    due(0, () -> x.clashes(1));
    x.addFeast(0, 10, 0, 0, 0);
    due(3, () -> x.clashes(0));
    x.addFeast(5, 0, 0, -1, 0);
    x.addFeast(5, 10, 0, -1, -10);
    due(4, () -> x.clashes(0));
    for (int i = 0; i < 3; i++) {
      x.addFeast(5, 5, 0, -1, -5);
    }
    due(13, () -> x.clashes(0));
  }

  private static void again(AlmanacHouse x) {
    x.addFeast(11, 29, 0, -1, 60);
    due(1, () -> x.again(0, 0));
    // in years of 365 days, one more than 52 weeks, a weekday comes back after 7 years
    x.setLeaps(1, 0);
    x.addFeast(0, 0, 0, 3, -60);
    due(7, () -> x.again(1, 0));
    // it comes back after 100 years
    AlmanacHouse hundred = new AlmanacHouse();
    hundred.setLeaps(3, 1);
    hundred.setMoon(29463, 0);
    hundred.addFeast(2, 20, 1, 0, 0);
    due(104, () -> hundred.again(0, 4));
    // it comes back after 101 years, on the day 114 of the year 110
    AlmanacHouse more = new AlmanacHouse();
    more.setMoon(29417, 0);
    more.addFeast(2, 20, 1, 0, 0);
    due(more.day(9, 0, 0) + 114, () -> more.feast(0, 9));
    due(more.day(110, 0, 0) + 114, () -> more.feast(0, 110));
    due(-1, () -> more.again(0, 9));
  }

  private static void print(AlmanacHouse x) {
    x.addFeast(0, 5, 0, -1, 0);
    for (int i = 0; i < 10; i++) {
      int number = i;
      due(number, () -> x.print(number * 111));
      due(number * 111, () -> x.sheet(number, 0));
      due(x.day(number * 111, 0, 5), () -> x.printed(number, 0));
    }
  }

  private static void reprint(AlmanacHouse x) {
    x.addFeast(0, 0, 0, -1, 0);
    x.addFeast(0, 0, 1, -1, 0);
    x.addFeast(0, 0, 2, -1, 0);
    x.print(0);
    x.print(5);
    due(0, () -> x.reprint(0));
    x.setMoon(29531, 1000);
    x.addFeast(0, 3, 1, -1, 0);
    due(2, () -> x.reprint(0));
    due(4, () -> x.sheet(0, 1));
    due(0, () -> x.sheet(0, 3));
    due(15, () -> x.printed(0, 1));
    due(15, () -> x.printed(0, 3));
    due(0, () -> x.reprint(0));
    due(3, () -> x.sheet(1, 1));
    // the eclipses are printed anew too
    int before = x.sheet(0, 2);
    x.setNodes(100000, 0);
    due(before, () -> x.sheet(0, 2));
    due(0, () -> x.reprint(0));
    due(x.eclipses(0, true) + x.eclipses(0, false), () -> x.sheet(0, 2));
  }

  private static void sheet(AlmanacHouse x) {
    x.print(7);
    x.addFeast(0, 0, 1, -1, 0);
    x.addFeast(0, 0, 0, -1, 0);
    x.print(0);
    due(7, () -> x.sheet(0, 0));
    due(0, () -> x.sheet(0, 1));
    due(0, () -> x.sheet(0, 3));
    due(0, () -> x.sheet(0, 4));
    due(0, () -> x.sheet(1, 0));
    due(2, () -> x.sheet(1, 1));
    due(5, () -> x.sheet(1, 2));
    due(0, () -> x.sheet(1, 3));
    due(0, () -> x.sheet(1, 4));
    x.addFeast(0, 0, 3, -1, 0);
    due(2, () -> x.sheet(1, 1));
    due(0, () -> x.sheet(1, 3));
    x.setMoon(29531, 5000);
    due(1, () -> x.sheet(1, 3));
    due(5, () -> x.sheet(1, 4));
    x.setMoon(25000, 0);
    due(2, () -> x.sheet(1, 4));
    due(1, () -> x.sheet(1, 3));
    x.setMoon(29531, 0);
    due(0, () -> x.sheet(1, 3));
    due(0, () -> x.sheet(1, 4));
  }

  private static void sheetWithOtherEclipses(AlmanacHouse x) {
    x.addFeast(0, 0, 0, -1, 0);
    x.setNodes(300000, 0);
    x.setMoon(40000, 15000);
    x.print(0);
    // two of the sun, 15000 behind the node 0 and 5000 before the node 1
    due(2, () -> x.sheet(0, 2));
    x.setMoon(40000, 15001);
    due(2, () -> x.sheet(0, 2));
    due(1, () -> x.eclipses(0, true) + x.eclipses(0, false));
    due(1, () -> x.sheet(0, 3));
    due(0, () -> x.sheet(0, 4));
    due(1, () -> x.count(8));
    due(0, () -> x.reprint(0));
    due(0, () -> x.count(8));
  }

  private static void printed(AlmanacHouse x) {
    x.addFeast(0, 0, 0, -1, -60);
    x.addFeast(0, 0, 1, -1, 0);
    x.print(0);
    x.setMoon(29531, 3000);
    x.addFeast(0, 0, 0, -1, 0);
    due(-60, () -> x.printed(0, 0));
    due(14, () -> x.printed(0, 1));
    x.reprint(0);
    due(17, () -> x.printed(0, 1));
    due(0, () -> x.printed(0, 2));
  }

  private static void count(AlmanacHouse x) {
    x.setLeaps(19, 5);
    x.setMoon(29300, 12000);
    x.setNodes(150000, 77777);
    x.addFeast(0, 0, 1, -1, 0);
    x.addFeast(0, 0, 0, -1, 0);
    x.print(0);
    x.print(500);
    x.print(999);
    x.observe(12, false);
    x.observe(13, false);
    int[] counts = {19, 5, 29300, 12000, 150000, 77777, 2, 3, 0, 2, 0};
    for (int i = 0; i < counts.length; i++) {
      int what = i;
      due(counts[i], () -> x.count(what));
    }
    // the full moon 0 moves from the day 26 to 27
    x.observe(42, false);
    due(30500, () -> x.count(2));
    due(3, () -> x.count(9));
    due(1, () -> x.count(10));
    int wrongOnes = x.sheet(0, 3) + x.sheet(1, 3) + x.sheet(2, 3);
    due(wrongOnes, () -> x.count(8));
    due(1, () -> x.sheet(0, 3));
    x.reprint(0);
    due(wrongOnes - 1, () -> x.count(8));
    x.reprint(1);
    due(x.sheet(2, 3), () -> x.count(8));
  }

  private static void cycle(AlmanacHouse x) {
    // 5 years have 1827 days, 261 weeks; 62 moons are 1830922
    due(5, () -> x.cycle(5000));
    due(5, () -> x.cycle(3922));
    due(true, () -> x.cycle(3921) > 5);
    due(-1, () -> x.cycle(0));
    x.setLeaps(1, 0);
    x.setMoon(29531, 777);
    // 7 years are 14197 less than 87 moons, 14 years 1137 more than 173
    due(14, () -> x.cycle(5000));
  }

  private static void mean(AlmanacHouse x) {
    due(365.25, x::mean);
    x.setLeaps(19, 5);
    due(365 + 5.0 / 19, x::mean);
    x.setLeaps(400, 97);
    due(365.2425, x::mean);
    x.setLeaps(1, 1);
    due(366.0, x::mean);
  }

  private static void digest(AlmanacHouse x) {
    due(digestOf(4, 1, 29531, 0, 173310, 0, 0, 0, 0, 0, 0), x::digest);
    x.addFeast(0, 14, 1, -1, -20);
    x.print(0);
    x.addFeast(0, 15, 1, 2, 3);
    x.print(0);
    x.addFeast(11, 7, 0, 6, 60);
    x.setMoon(29531, 1000);
    x.observe(30, true);
    // the full moon 0 on the day 15 is the nearest one, seen on 30: 2 * 29500 is held at 40000
    due(40000, () -> x.count(2));
    x.setMoon(29531, 0);
    long[] right = {4, 1, 29531, 0, 173310, 0, 3, 2, 0, 1, 1,
        0, 14, 1, -1, -20, 0, 15, 1, 2, 3, 11, 7, 0, 6, 60,
        0, 1, 5, 0, 0, -6, 0, 2, 5, 0, 0, -6, 47};
    due(digestOf(right), x::digest);
    x.setMoon(29531, 2000);
    long[] wrongNow = {4, 1, 29531, 2000, 173310, 0, 3, 2, 2, 1, 1,
        0, 14, 1, -1, -20, 0, 15, 1, 2, 3, 11, 7, 0, 6, 60,
        0, 1, 5, 1, 2, -6, 0, 2, 5, 1, 28, -6, 47};
    due(digestOf(wrongNow), x::digest);
  }
}

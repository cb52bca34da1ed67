/** Promises 13 to 16, the feasts: a case for each edge that the document names. */
public final class AlmanacHouseFeastsEdgesTest extends Cases {
  public static void main(String[] args) {
    toldFeasts();
    noSuchFeasts();
    eightFeasts();
    askedFeasts();
    fullMoons();
    weekdays();
    offsets();
    clashes();
    againYears();
    againFarOff();
    end();
  }

  /** A feast is told, and its day in a year is due. */
  private static void told(String edge, int[] feast, int year, int want) {
    test("promise 13: " + edge, x -> {
      due(0, () -> x.addFeast(feast[0], feast[1], feast[2], feast[3], feast[4]));
      due(1, () -> x.count(6));
      due(want, () -> x.feast(0, year));
    });
  }

  private static void toldFeasts() {
    told("the month 0 and the day 0", new int[] {0, 0, 0, -1, 0}, 0, 0);
    told("the month 11", new int[] {11, 0, 0, -1, 0}, 0, 335);
    told("the day 29", new int[] {0, 29, 0, -1, 0}, 0, 29);
    told("the month 11 and the day 29, the last of a year that is no leap year", new int[] {11, 29, 0, -1, 0}, 1, 730);
    told("a number of moons of 0", new int[] {0, 1, 0, -1, 0}, 0, 1);
    told("a number of moons of 3", new int[] {0, 1, 3, -1, 0}, 0, 73);
    told("a weekday of -1", new int[] {0, 1, 0, -1, 0}, 0, 1);
    told("a weekday of 0", new int[] {0, 1, 0, 0, 0}, 0, 7);
    told("a weekday of 6", new int[] {0, 1, 0, 6, 0}, 0, 6);
    told("an offset of -60", new int[] {2, 0, 0, -1, -60}, 0, 1);
    told("an offset of 60", new int[] {2, 0, 0, -1, 60}, 0, 121);
  }

  private static void noSuchFeasts() {
    String[] names = {"month", "day", "number of moons", "weekday", "offset"};
    int[] least = {0, 0, 0, -1, -60};
    int[] most = {11, 29, 3, 6, 60};
    for (int i = 0; i < names.length; i++) {
      refusesFeast("a " + names[i] + " that is too small by 1", i, least[i] - 1);
      refusesFeast("a " + names[i] + " that is too large by 1", i, most[i] + 1);
      refusesFeast("the least " + names[i] + " of all", i, LEAST);
      refusesFeast("the greatest " + names[i] + " of all", i, MOST);
    }
    refuses("promise 13: the day 30 of a month with 31 days", ARGUMENT, x -> x.addFeast(1, 30, 0, -1, 0));
  }

  /** A full almanac refuses it for its argument too, for that is named first. */
  private static void refusesFeast(String edge, int place, int number) {
    int[] n = {5, 5, 1, 1, 5};
    n[place] = number;
    refuses("promise 13: " + edge, ARGUMENT, x -> x.addFeast(n[0], n[1], n[2], n[3], n[4]));
  }

  private static void eightFeasts() {
    for (int feasts = 0; feasts < 8; feasts++) {
      int number = feasts;
      test("promise 13: the feast " + feasts + " is numbered by the order", unused -> {
        AlmanacHouse x = Almanacs.withFeasts(number);
        due(number, () -> x.addFeast(0, 6, 0, -1, 0));
        due(number + 1, () -> x.count(6));
        due(6, () -> x.feast(number, 0));
      });
    }
    refuses("promise 13: a ninth feast", STATE, Almanacs::full, x -> x.addFeast(0, 0, 0, -1, 0));
    refuses("promise 13: a ninth feast without sheets", STATE, () -> Almanacs.withFeasts(8),
        x -> x.addFeast(11, 29, 3, 6, 60));
    test("promise 13: what is refused takes no number", x -> {
      refused(ARGUMENT, () -> x.addFeast(12, 0, 0, -1, 0));
      due(0, () -> x.addFeast(0, 0, 0, -1, 0));
      refused(ARGUMENT, () -> x.addFeast(0, 0, 4, -1, 0));
      due(1, () -> x.addFeast(0, 0, 0, -1, 0));
    });
  }

  private interface FeastCall {
    Object on(AlmanacHouse x, int feast, int year);
  }

  private static void askedFeasts() {
    test("promise 14: the feast 7 is the last", x -> due(5, () -> Almanacs.withFeasts(8).feast(7, 0)));
    test("promise 14: the year 0", x -> due(5, () -> Almanacs.withFeasts(1).feast(0, 0)));
    test("promise 14: the year 999", x -> due(364890, () -> Almanacs.withFeasts(1).feast(0, 999)));
    test("promise 16: the feast 7 is the last", x -> due(1, () -> Almanacs.withFeasts(8).again(7, 0)));
    refusesAsking("promise 14", (x, feast, year) -> x.feast(feast, year));
    refusesAsking("promise 16", (x, feast, year) -> x.again(feast, year));
  }

  private static void refusesAsking(String promise, FeastCall call) {
    refuses(promise + ": the feast -1", INDEX, x -> call.on(x, -1, 0));
    refuses(promise + ": the feast 8", INDEX, x -> call.on(x, 8, 0));
    refuses(promise + ": the feast 0 of none", INDEX, AlmanacHouse::new, x -> call.on(x, 0, 0));
    refuses(promise + ": the feast 1 of one", INDEX, () -> Almanacs.withFeasts(1), x -> call.on(x, 1, 0));
    refuses(promise + ": the feast 7 of seven", INDEX, () -> Almanacs.withFeasts(7), x -> call.on(x, 7, 0));
    refuses(promise + ": the least feast of all", INDEX, x -> call.on(x, LEAST, 0));
    refuses(promise + ": the greatest feast of all", INDEX, x -> call.on(x, MOST, 0));
    refuses(promise + ": the year -1", ARGUMENT, Almanacs::inUse, x -> call.on(x, 0, -1));
    refuses(promise + ": the year 1000", ARGUMENT, Almanacs::inUse, x -> call.on(x, 0, 1000));
    refuses(promise + ": the least year of all", ARGUMENT, Almanacs::full, x -> call.on(x, 7, LEAST));
    refuses(promise + ": the greatest year of all", ARGUMENT, Almanacs::full, x -> call.on(x, 7, MOST));
    refuses(promise + ": the feast -1 is named before the year -1", INDEX, x -> call.on(x, -1, -1));
    refuses(promise + ": the feast 8 is named before the year 1000", INDEX, x -> call.on(x, 8, 1000));
  }

  /** With moons of 20000 from 0 on full moons come at 10000, 30000, 50000 and 70000. */
  private static void dueFeast(String edge, int length, int first, int[] feast, int want) {
    test("promise 14: " + edge, x -> {
      x.setMoon(length, first);
      x.addFeast(feast[0], feast[1], feast[2], feast[3], feast[4]);
      due(want, () -> x.feast(0, 0));
    });
  }

  private static void fullMoons() {
    dueFeast("a full moon at the beginning of the day", 20000, 0, new int[] {0, 10, 1, -1, 0}, 10);
    dueFeast("a full moon at the end of the day", 20000, 999, new int[] {0, 10, 1, -1, 0}, 10);
    dueFeast("a full moon at the end of the day before", 20000, 999, new int[] {0, 11, 1, -1, 0}, 30);
    dueFeast("a full moon at the beginning of the next day", 20000, 0, new int[] {0, 9, 1, -1, 0}, 10);
    dueFeast("two moons, the first of them on the day", 20000, 0, new int[] {0, 10, 2, -1, 0}, 30);
    dueFeast("two moons, the first of them later", 20000, 0, new int[] {0, 11, 2, -1, 0}, 50);
    dueFeast("three moons, the first of them on the day", 20000, 0, new int[] {0, 10, 3, -1, 0}, 50);
    dueFeast("three moons, the first of them later", 20000, 0, new int[] {0, 11, 3, -1, 0}, 70);
    dueFeast("no moon, on the day of one", 20000, 0, new int[] {0, 10, 0, -1, 0}, 10);
    dueFeast("no moon, on the day before one", 20000, 0, new int[] {0, 9, 0, -1, 0}, 9);
    dueFeast("one moon, before the first one of all", 40000, 39999, new int[] {0, 0, 1, -1, 0}, 59);
    dueFeast("three moons, before the first one of all", 40000, 39999, new int[] {0, 0, 3, -1, 0}, 139);
    test("promise 14: a full moon behind the number 10000, the day of which lies behind all years", x -> {
      // the day 365998 of the month 11, and the full moon 18300 at 366010000
      x.setLeaps(4, 4);
      x.setMoon(20000, 0);
      x.addFeast(11, 29, 1, -1, 0);
      due(366010, () -> x.feast(0, 999));
    });
    test("promise 14: the greatest numbers together, which wrap around nowhere", x -> {
      // full moons on 366020 and 366100, which is a weekday 0
      x.setLeaps(4, 4);
      x.setMoon(40000, 0);
      x.addFeast(11, 29, 3, 6, 60);
      due(366166, () -> x.feast(0, 999));
    });
  }

  private static void weekdays() {
    dueFeast("the weekday of the day itself", 20000, 0, new int[] {0, 3, 0, 3, 0}, 3);
    dueFeast("the weekday of the next day", 20000, 0, new int[] {0, 3, 0, 4, 0}, 4);
    dueFeast("the weekday of the day before", 20000, 0, new int[] {0, 3, 0, 2, 0}, 9);
    dueFeast("the weekday 0 from a weekday 6", 20000, 0, new int[] {0, 6, 0, 0, 0}, 7);
    dueFeast("the weekday 6 from a weekday 0", 20000, 0, new int[] {0, 7, 0, 6, 0}, 13);
    dueFeast("the weekday -1, none", 20000, 0, new int[] {0, 3, 0, -1, 0}, 3);
    dueFeast("the weekday of the full moon itself", 20000, 0, new int[] {0, 0, 1, 3, 0}, 10);
    dueFeast("the weekday behind the full moon", 20000, 0, new int[] {0, 0, 1, 2, 0}, 16);
    dueFeast("the full moon first, though the weekday comes behind it", 20000, 0, new int[] {0, 9, 1, 1, 0}, 15);
    dueFeast("the weekday before the full moon does not matter", 20000, 0, new int[] {0, 9, 1, 0, 0}, 14);
  }

  private static void offsets() {
    dueFeast("the offset behind the weekday", 20000, 0, new int[] {0, 3, 0, 4, 1}, 5);
    dueFeast("the offset behind the full moon", 20000, 0, new int[] {0, 9, 1, -1, 2}, 12);
    dueFeast("a day that is less than 0 by 1", 20000, 0, new int[] {0, 0, 0, -1, -1}, -1);
    dueFeast("the least day of all", 20000, 0, new int[] {0, 0, 0, -1, -60}, -60);
    dueFeast("a full moon and a weekday, and a day less than 0", 20000, 0, new int[] {0, 0, 1, 0, -21}, -7);
    dueFeast("a day in the year behind it", 20000, 0, new int[] {11, 29, 0, -1, 60}, 424);
    dueFeast("the first day of the year behind it", 20000, 0, new int[] {11, 29, 0, -1, 2}, 366);
    test("promise 14: a day in the year before it", x -> {
      x.addFeast(0, 0, 0, -1, -60);
      due(306, () -> x.feast(0, 1));
    });
    test("promise 14: a day behind the last one of all", x -> {
      x.addFeast(11, 29, 0, -1, 60);
      due(365309, () -> x.feast(0, 999));
    });
  }

  private static void clashes() {
    test("promise 15: without feasts", x -> due(0, () -> x.clashes(0)));
    test("promise 15: one feast alone", x -> due(0, () -> Almanacs.withFeasts(1).clashes(0)));
    test("promise 15: two feasts are one pair", x -> due(1, () -> Almanacs.withFeasts(2).clashes(0)));
    test("promise 15: three feasts are three pairs", x -> due(3, () -> Almanacs.withFeasts(3).clashes(0)));
    test("promise 15: eight feasts are the most pairs", x -> due(28, () -> Almanacs.withFeasts(8).clashes(0)));
    test("promise 15: the year 999", x -> due(28, () -> Almanacs.withFeasts(8).clashes(999)));
    test("promise 15: feasts that differ by one day", x -> {
      x.addFeast(0, 5, 0, -1, 0);
      x.addFeast(0, 6, 0, -1, 0);
      due(0, () -> x.clashes(0));
    });
    test("promise 15: feasts of other rules on one day, in one year and not in another one", x -> {
      // the days 366 and 367 are those of the weekdays 2 and 3
      x.addFeast(0, 0, 0, -1, 0);
      x.addFeast(0, 0, 0, 0, 0);
      due(1, () -> x.clashes(0));
      due(0, () -> x.clashes(1));
    });
    test("promise 15: feasts on one day that is less than 0", x -> {
      x.addFeast(0, 3, 0, -1, -60);
      x.addFeast(0, 0, 0, 3, -60);
      x.addFeast(0, 0, 0, -1, -60);
      due(1, () -> x.clashes(0));
    });
    test("promise 15: feasts on one day of the next year", x -> {
      // the day 364 has the weekday 0
      x.addFeast(11, 29, 0, -1, 60);
      x.addFeast(11, 27, 0, 0, 60);
      x.addFeast(11, 24, 0, -1, 60);
      due(1, () -> x.clashes(0));
    });
    refuses("promise 15: the year -1", ARGUMENT, x -> x.clashes(-1));
    refuses("promise 15: the year 1000", ARGUMENT, x -> x.clashes(1000));
    refuses("promise 15: the least year of all", ARGUMENT, x -> x.clashes(LEAST));
    refuses("promise 15: the greatest year of all", ARGUMENT, x -> x.clashes(MOST));
  }

  private static void againYears() {
    test("promise 16: the year 0, and the very next one", x -> {
      x.addFeast(0, 0, 0, -1, 0);
      due(1, () -> x.again(0, 0));
    });
    test("promise 16: the year 999 is the last that is found", x -> {
      x.addFeast(0, 0, 0, -1, 0);
      due(999, () -> x.again(0, 998));
    });
    test("promise 16: none is later than the year 999", x -> {
      x.addFeast(0, 0, 0, -1, 0);
      due(-1, () -> x.again(0, 999));
    });
    test("promise 16: it would come again in the year 1000, but not before", x -> {
      // in years of 365 days a weekday comes again in the seventh year
      x.setLeaps(1, 0);
      x.addFeast(0, 0, 0, 3, 0);
      due(999, () -> x.again(0, 992));
      due(-1, () -> x.again(0, 993));
    });
    test("promise 16: a day that is less than 0", x -> {
      x.addFeast(0, 0, 0, -1, -60);
      due(1, () -> x.again(0, 0));
    });
    test("promise 16: a day in the next year is counted from the year that was asked for", x -> {
      // 424 days behind it in both years, though in the next year it is the day 58, and then 59
      x.addFeast(11, 29, 0, -1, 60);
      due(1, () -> x.again(0, 0));
    });
    test("promise 16: a day in the year before is counted from the year that was asked for", x -> {
      x.addFeast(0, 0, 0, -1, -1);
      due(2, () -> x.again(0, 1));
    });
  }

  /**
   * Years of 365 days are 12 moons and 296 thousandths of a day, and so the first full moon comes back
   * from the day 20 of the year, by 296 a year, and is there again once it has gone round by 30392.
   */
  private static void againFarOff() {
    test("promise 16: after 100 years", x -> {
      // 20100 - 100 * 296 + 30392 = 20892, and 21188 the year before
      x.setLeaps(1, 0);
      x.setMoon(30392, 20100 - 15196);
      x.addFeast(0, 0, 1, -1, 0);
      due(100, () -> x.again(0, 0));
    });
    test("promise 16: after 101 years is too late", x -> {
      // 20250 - 101 * 296 + 30392 = 20746, and 21042 the year before
      x.setLeaps(1, 0);
      x.setMoon(30392, 20250 - 15196);
      x.addFeast(0, 0, 1, -1, 0);
      due(20, () -> x.feast(0, 0));
      due(21, () -> x.feast(0, 100) - x.day(100, 0, 0));
      due(20, () -> x.feast(0, 101) - x.day(101, 0, 0));
      due(-1, () -> x.again(0, 0));
    });
  }
}

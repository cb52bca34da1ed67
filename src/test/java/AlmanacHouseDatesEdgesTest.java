/** Promises 5 to 8, the dates, and what the terms say of years: a case for each edge named there. */
public final class AlmanacHouseDatesEdgesTest extends Cases {
  private static final int[] FIRST_OF_MONTH = {0, 30, 61, 91, 122, 152, 183, 213, 244, 274, 305, 335};

  public static void main(String[] args) {
    leapYears();
    lastDaysOfMonths();
    daysOfYears();
    noSuchDays();
    endsOfAllDays();
    dates();
    moonAges();
    lines();
    end();
  }

  private static void leapYears() {
    test("promise 5: the year 0 is the first", x -> due(true, () -> x.leap(0)));
    test("promise 5: the year 999 is the last", x -> {
      due(false, () -> x.leap(999));
      x.setLeaps(9, 4);
      due(true, () -> x.leap(999));
    });
    refuses("promise 5: the year -1", ARGUMENT, x -> x.leap(-1));
    refuses("promise 5: the year 1000", ARGUMENT, x -> x.leap(1000));
    refuses("promise 5: the least year of all", ARGUMENT, x -> x.leap(LEAST));
    refuses("promise 5: the greatest year of all", ARGUMENT, x -> x.leap(MOST));
    test("promise 5: a remainder that is one less than the leaps makes a leap year", x -> {
      x.setLeaps(7, 3);
      due(true, () -> x.leap(3));
    });
    test("promise 5: a remainder that is the leaps makes none", x -> {
      x.setLeaps(7, 3);
      due(false, () -> x.leap(1));
    });
    test("promise 5: with leaps of 0 the year 0 is no leap year either", x -> {
      x.setLeaps(1, 0);
      due(false, () -> x.leap(0));
      due(false, () -> x.leap(999));
    });
    test("promise 5: with as many leaps as the cycle every year is one", x -> {
      x.setLeaps(5, 5);
      for (int year = 0; year < 1000; year += 27) {
        int y = year;
        due(true, () -> x.leap(y));
      }
    });
    test("promise 5: the greatest year, cycle and leaps together", x -> {
      // 999 * 399 is 996 * 400 and 201; 801 * 399 is 798 * 400 and 399
      x.setLeaps(400, 399);
      due(true, () -> x.leap(999));
      due(false, () -> x.leap(801));
    });
  }

  private static void lastDaysOfMonths() {
    for (int month = 0; month < 12; month++) {
      int m = month;
      int last = m == 11 ? 30 : m % 2 == 0 ? 29 : 30;
      int other = m == 11 ? 29 : last;
      test("promise 6: the first day of the month " + m, x -> {
        due(FIRST_OF_MONTH[m], () -> x.day(0, m, 0));
        due(366 + FIRST_OF_MONTH[m], () -> x.day(1, m, 0));
      });
      test("promise 6: the last day of the month " + m + " in a leap year", x ->
          due(FIRST_OF_MONTH[m] + last, () -> x.day(0, m, last)));
      refuses("promise 6: the day behind the last one of the month " + m + " in a leap year", ARGUMENT,
          AlmanacHouse::new, x -> x.day(0, m, last + 1));
      test("promise 6: the last day of the month " + m + " in another year", x ->
          due(366 + FIRST_OF_MONTH[m] + other, () -> x.day(1, m, other)));
      refuses("promise 6: the day behind the last one of the month " + m + " in another year", ARGUMENT,
          AlmanacHouse::new, x -> x.day(1, m, other + 1));
      refuses("promise 6: the day -1 of the month " + m, ARGUMENT, x -> x.day(1, m, -1));
    }
  }

  private static void daysOfYears() {
    test("promise 6: the first day of the year 0 is the day 0", x -> due(0, () -> x.day(0, 0, 0)));
    test("promise 6: the last day of a leap year, and the first one behind it", x -> {
      due(365, () -> x.day(0, 11, 30));
      due(366, () -> x.day(1, 0, 0));
    });
    test("promise 6: the last day of another year, and the first one behind it", x -> {
      due(730, () -> x.day(1, 11, 29));
      due(731, () -> x.day(2, 0, 0));
    });
    test("promise 6: the last day of the year 999", x -> due(365249, () -> x.day(999, 11, 29)));
    test("promise 6: the last day of the year 999 without leap years", x -> {
      x.setLeaps(400, 0);
      due(364999, () -> x.day(999, 11, 29));
    });
    test("promise 6: the last day of the year 999 with leap years alone, the greatest one", x -> {
      x.setLeaps(400, 400);
      due(365999, () -> x.day(999, 11, 30));
    });
    test("promise 6: the first day of the year 999 with the greatest cycle", x -> {
      // year * 399 leaves 399 for the years 1, 401 and 801 alone, and so these are no leap years
      x.setLeaps(400, 399);
      due(999 * 366 - 3, () -> x.day(999, 0, 0));
    });
    test("promise 6: what is no day of the year 0 is one after setLeaps, and the other way round", x -> {
      x.setLeaps(1, 0);
      refused(ARGUMENT, () -> x.day(0, 11, 30));
      x.setLeaps(1, 1);
      due(365, () -> x.day(0, 11, 30));
    });
  }

  private static void noSuchDays() {
    refuses("promise 6: the year -1", ARGUMENT, x -> x.day(-1, 0, 0));
    refuses("promise 6: the year 1000", ARGUMENT, x -> x.day(1000, 0, 0));
    refuses("promise 6: the least year of all", ARGUMENT, x -> x.day(LEAST, 0, 0));
    refuses("promise 6: the greatest year of all", ARGUMENT, x -> x.day(MOST, 0, 0));
    refuses("promise 6: the month -1", ARGUMENT, x -> x.day(0, -1, 0));
    refuses("promise 6: the month 12", ARGUMENT, x -> x.day(0, 12, 0));
    refuses("promise 6: the least month of all", ARGUMENT, x -> x.day(0, LEAST, 0));
    refuses("promise 6: the greatest month of all", ARGUMENT, x -> x.day(0, MOST, 0));
    refuses("promise 6: the day 31 of a month with 31 days", ARGUMENT, x -> x.day(0, 1, 31));
    refuses("promise 6: the day 31 of the month 11", ARGUMENT, x -> x.day(0, 11, 31));
    refuses("promise 6: the least day of all", ARGUMENT, x -> x.day(0, 0, LEAST));
    refuses("promise 6: the greatest day of all", ARGUMENT, x -> x.day(0, 0, MOST));
  }

  /** The first and the last day of all, and those on the other side of them. */
  private static void endsOfAllDays() {
    State noLeaps = () -> Almanacs.withLeaps(4, 0);
    State allLeaps = () -> Almanacs.withLeaps(4, 4);
    refusesDays("promise 7", (x, day) -> x.date(day, 0), noLeaps, allLeaps);
    refusesDays("promise 7, moons", (x, day) -> x.date(day, 4), noLeaps, allLeaps);
    refusesDays("promise 8", (x, day) -> x.line(day), noLeaps, allLeaps);
    test("promise 7: the last day without leap years", unused -> dueDate(noLeaps.make(), 364999, 999, 11, 29));
    test("promise 7: the last day at first", x -> dueDate(x, 365249, 999, 11, 29));
    test("promise 7: the last day with leap years alone", unused -> dueDate(allLeaps.make(), 365999, 999, 11, 30));
    test("promise 8: the last day without leap years", unused ->
        due(lineSum("999-11-29"), () -> noLeaps.make().line(364999)));
    test("promise 8: the last day at first", x -> due(lineSum("999-11-29"), () -> x.line(365249)));
    test("promise 8: the last day with leap years alone", unused ->
        due(lineSum("999-11-30"), () -> allLeaps.make().line(365999)));
  }

  private interface DayCall {
    Object on(AlmanacHouse x, int day);
  }

  private static void refusesDays(String promise, DayCall call, State noLeaps, State allLeaps) {
    refuses(promise + ": the day -1", ARGUMENT, x -> call.on(x, -1));
    refuses(promise + ": the day behind the last one without leap years", ARGUMENT, noLeaps,
        x -> call.on(x, 365000));
    refuses(promise + ": the day behind the last one at first", ARGUMENT, AlmanacHouse::new,
        x -> call.on(x, 365250));
    refuses(promise + ": the day behind the last one with leap years alone", ARGUMENT, allLeaps,
        x -> call.on(x, 366000));
    refuses(promise + ": the least day of all", ARGUMENT, x -> call.on(x, LEAST));
    refuses(promise + ": the greatest day of all", ARGUMENT, x -> call.on(x, MOST));
  }

  private static void dueDate(AlmanacHouse x, int day, int year, int month, int dayOfMonth) {
    due(year, () -> x.date(day, 0));
    due(month, () -> x.date(day, 1));
    due(dayOfMonth, () -> x.date(day, 2));
  }

  private static void dates() {
    test("promise 7: the day 0", x -> dueDate(x, 0, 0, 0, 0));
    test("promise 7: the last day of a leap year", x -> dueDate(x, 365, 0, 11, 30));
    test("promise 7: the first day behind a leap year", x -> dueDate(x, 366, 1, 0, 0));
    test("promise 7: the last day of another year", x -> dueDate(x, 730, 1, 11, 29));
    test("promise 7: the first day behind another year", x -> dueDate(x, 731, 2, 0, 0));
    test("promise 7: the first day of the last year", x -> {
      dueDate(x, 364884, 998, 11, 29);
      dueDate(x, 364885, 999, 0, 0);
    });
    for (int month = 0; month < 12; month++) {
      int m = month;
      test("promise 7: the first day of the month " + m, x -> dueDate(x, 366 + FIRST_OF_MONTH[m], 1, m, 0));
    }
    for (int month = 0; month < 11; month++) {
      int m = month;
      test("promise 7: the last day of the month " + m, x ->
          dueDate(x, 365 + FIRST_OF_MONTH[m + 1], 1, m, m % 2 == 0 ? 29 : 30));
    }
    test("promise 7: the weekday is 6 at the most, and then 0", x -> {
      due(0, () -> x.date(0, 3));
      due(6, () -> x.date(6, 3));
      due(0, () -> x.date(7, 3));
    });
    test("promise 7: the weekday of the greatest day", x -> {
      // 365999 is 52285 weeks and 4 days
      x.setLeaps(4, 4);
      due(4, () -> x.date(365999, 3));
    });
    refuses("promise 7: what of -1", INDEX, x -> x.date(0, -1));
    refuses("promise 7: what of 5", INDEX, x -> x.date(0, 5));
    refuses("promise 7: the least what of all", INDEX, x -> x.date(0, LEAST));
    refuses("promise 7: the greatest what of all", INDEX, x -> x.date(0, MOST));
    refuses("promise 7: the day -1 is named before what of 5", ARGUMENT, x -> x.date(-1, 5));
    refuses("promise 7: the greatest day is named before what of -1", ARGUMENT, x -> x.date(MOST, -1));
  }

  private static void moonAges() {
    test("promise 7: a day before the first new moon", x -> {
      x.setMoon(20000, 39999);
      due(-1, () -> x.date(0, 4));
      due(-1, () -> x.date(38, 4));
    });
    test("promise 7: the day of the first new moon", x -> {
      x.setMoon(20000, 39999);
      due(0, () -> x.date(39, 4));
      due(1, () -> x.date(40, 4));
    });
    test("promise 7: a first new moon at the end of the day 0", x -> {
      x.setMoon(20000, 999);
      due(0, () -> x.date(0, 4));
    });
    test("promise 7: a first new moon at the beginning of the day 1", x -> {
      x.setMoon(20000, 1000);
      due(-1, () -> x.date(0, 4));
      due(0, () -> x.date(1, 4));
    });
    test("promise 7: a later new moon at the end of a day", x -> {
      x.setMoon(20999, 0);
      due(19, () -> x.date(19, 4));
      due(0, () -> x.date(20, 4));
    });
    test("promise 7: a later new moon at the beginning of a day", x -> {
      x.setMoon(21000, 0);
      due(20, () -> x.date(20, 4));
      due(0, () -> x.date(21, 4));
    });
    test("promise 7: the longest time since a new moon", x -> {
      x.setMoon(40000, 0);
      due(39, () -> x.date(39, 4));
      due(0, () -> x.date(40, 4));
    });
    test("promise 7: the new moons go on behind the number 10000", x -> {
      // the new moon 18299 comes on the day 365980
      x.setLeaps(4, 4);
      x.setMoon(20000, 0);
      due(19, () -> x.date(365979, 4));
      due(0, () -> x.date(365980, 4));
      due(19, () -> x.date(365999, 4));
    });
  }

  private static void lines() {
    test("promise 8: the shortest text, whose sum does not wrap around", x -> due(45717174, () -> x.line(0)));
    test("promise 8: the longest text, whose sum wraps around to one above 0", x ->
        due(993423200, () -> x.line(x.day(999, 11, 29))));
    test("promise 8: a text whose sum wraps around to one below 0", x ->
        due(-1052596556, () -> x.line(x.day(500, 0, 10))));
    dueLine("the last year of one sign", 9, 0, 0, "9-0-0");
    dueLine("the first year of two signs", 10, 0, 0, "10-0-0");
    dueLine("the last year of two signs", 99, 0, 0, "99-0-0");
    dueLine("the first year of three signs", 100, 0, 0, "100-0-0");
    dueLine("the last month of one sign", 0, 9, 0, "0-9-0");
    dueLine("the first month of two signs", 0, 10, 0, "0-10-0");
    dueLine("the last month", 0, 11, 0, "0-11-0");
    dueLine("the last day of one sign", 0, 0, 9, "0-0-9");
    dueLine("the first day of two signs", 0, 0, 10, "0-0-10");
    dueLine("the last day of a leap year", 0, 11, 30, "0-11-30");
    dueLine("the last day of another year", 1, 11, 29, "1-11-29");
    dueLine("a year with noughts in it", 100, 1, 20, "100-1-20");
  }

  private static void dueLine(String edge, int year, int month, int day, String text) {
    test("promise 8: " + edge, x -> due(lineSum(text), () -> x.line(x.day(year, month, day))));
  }
}

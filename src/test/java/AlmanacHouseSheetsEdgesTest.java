/** Promises 17 to 24, the sheets and what is told of all: a case for each edge that the document names. */
public final class AlmanacHouseSheetsEdgesTest extends Cases {
  public static void main(String[] args) {
    printedYears();
    tenSheets();
    noSuchSheets();
    reprints();
    sheetFacts();
    wrongSheets();
    differences();
    printedFeasts();
    counts();
    countedSheets();
    countedObservations();
    offs();
    means();
    digests();
    end();
  }

  private static void printedYears() {
    test("promise 17: the year 0", x -> {
      due(0, () -> x.print(0));
      due(0, () -> x.sheet(0, 0));
    });
    test("promise 17: the year 999", x -> {
      due(0, () -> x.print(999));
      due(999, () -> x.sheet(0, 0));
    });
    refuses("promise 17: the year -1", ARGUMENT, x -> x.print(-1));
    refuses("promise 17: the year 1000", ARGUMENT, x -> x.print(1000));
    refuses("promise 17: the least year of all", ARGUMENT, x -> x.print(LEAST));
    refuses("promise 17: the greatest year of all", ARGUMENT, x -> x.print(MOST));
    test("promise 17: a sheet without feasts holds its eclipses alone", x -> {
      x.print(0);
      due(0, () -> x.sheet(0, 1));
      due(x.eclipses(0, true) + x.eclipses(0, false), () -> x.sheet(0, 2));
      refused(INDEX, () -> x.printed(0, 0));
    });
    test("promise 17: a sheet with eight feasts", unused -> {
      AlmanacHouse x = Almanacs.withFeasts(8);
      x.print(0);
      due(8, () -> x.sheet(0, 1));
      due(5, () -> x.printed(0, 7));
    });
  }

  private static void tenSheets() {
    for (int sheets = 0; sheets < 10; sheets++) {
      int number = sheets;
      test("promise 17: the sheet " + sheets + " is numbered by the order", unused -> {
        AlmanacHouse x = Almanacs.withSheets(number);
        due(number, () -> x.print(number));
        due(number + 1, () -> x.count(7));
        due(number, () -> x.sheet(number, 0));
      });
    }
    refuses("promise 17: an eleventh sheet", STATE, Almanacs::full, x -> x.print(0));
    refuses("promise 17: an eleventh sheet without feasts", STATE, () -> Almanacs.withSheets(10), x -> x.print(999));
    refuses("promise 17: the year 1000 is named before the eleventh sheet", ARGUMENT,
        () -> Almanacs.withSheets(10), x -> x.print(1000));
    test("promise 17: what is refused takes no number", x -> {
      refused(ARGUMENT, () -> x.print(-1));
      due(0, () -> x.print(7));
      refused(ARGUMENT, () -> x.print(1000));
      due(1, () -> x.print(8));
    });
  }

  private interface SheetCall {
    Object on(AlmanacHouse x, int sheet);
  }

  private static void noSuchSheets() {
    refusesSheets("promise 18", AlmanacHouse::reprint);
    refusesSheets("promise 19", (x, sheet) -> x.sheet(sheet, 0));
    refusesSheets("promise 19, wrong", (x, sheet) -> x.sheet(sheet, 3));
    refusesSheets("promise 20", (x, sheet) -> x.printed(sheet, 0));
    refuses("promise 19: a sheet and a what that there are not", INDEX, x -> x.sheet(10, 5));
    refuses("promise 20: a sheet and a feast that there are not", INDEX, x -> x.printed(10, 8));
  }

  private static void refusesSheets(String promise, SheetCall call) {
    refuses(promise + ": the sheet -1", INDEX, x -> call.on(x, -1));
    refuses(promise + ": the sheet 10", INDEX, x -> call.on(x, 10));
    refuses(promise + ": the sheet 0 of none", INDEX, AlmanacHouse::new, x -> call.on(x, 0));
    refuses(promise + ": the sheet 2 of two", INDEX, Almanacs::inUse, x -> call.on(x, 2));
    refuses(promise + ": the sheet 9 of nine", INDEX, () -> Almanacs.withSheets(9), x -> call.on(x, 9));
    refuses(promise + ": the least sheet of all", INDEX, x -> call.on(x, LEAST));
    refuses(promise + ": the greatest sheet of all", INDEX, x -> call.on(x, MOST));
  }

  /** Feasts on the first and the third full moon: with moons of 20000 from 0 on these are 10 and 50. */
  private static AlmanacHouse withMoonFeasts(int length, int first) {
    AlmanacHouse x = new AlmanacHouse();
    x.setMoon(length, first);
    x.addFeast(0, 0, 1, -1, 0);
    x.addFeast(0, 0, 3, -1, 0);
    return x;
  }

  private static void reprints() {
    test("promise 18: none has another day", unused -> {
      AlmanacHouse x = withMoonFeasts(20000, 0);
      x.print(0);
      due(0, () -> x.reprint(0));
    });
    test("promise 18: all eight have another day, and none the second time", x -> {
      for (int i = 0; i < 8; i++) {
        x.addFeast(i, 0, 1, -1, 0);
      }
      x.print(0);
      x.setMoon(29531, 5000);
      due(8, () -> x.reprint(0));
      due(0, () -> x.reprint(0));
    });
    test("promise 18: one that has another day, earlier or later, and one that has the same", unused -> {
      AlmanacHouse x = withMoonFeasts(20000, 0);
      x.addFeast(0, 0, 0, -1, 0);
      x.print(0);
      x.setMoon(20400, 0);
      due(1, () -> x.reprint(0));
      x.setMoon(20000, 0);
      due(1, () -> x.reprint(0));
    });
    test("promise 18: feasts that were told later are held from now on and not counted", x -> {
      x.print(0);
      x.addFeast(0, 0, 1, -1, 0);
      x.addFeast(0, 0, 2, -1, 0);
      due(0, () -> x.reprint(0));
      due(2, () -> x.sheet(0, 1));
      due(14, () -> x.printed(0, 0));
      due(44, () -> x.printed(0, 1));
    });
    test("promise 18: the last of ten sheets, and it alone", unused -> {
      AlmanacHouse x = Almanacs.withSheets(10);
      x.addFeast(0, 5, 0, -1, 0);
      due(0, () -> x.reprint(9));
      due(1, () -> x.sheet(9, 1));
      due(9, () -> x.sheet(9, 0));
      due(0, () -> x.sheet(8, 1));
      due(0, () -> x.sheet(0, 1));
      due(10, () -> x.count(7));
    });
    test("promise 18: the eclipses are printed anew and not counted", x -> {
      x.setNodes(300000, 0);
      x.setMoon(40000, 15000);
      x.print(0);
      x.setMoon(40000, 15001);
      due(2, () -> x.sheet(0, 2));
      due(0, () -> x.reprint(0));
      due(1, () -> x.sheet(0, 2));
    });
  }

  private static void sheetFacts() {
    refuses("promise 19: what of -1", INDEX, () -> Almanacs.withSheets(1), x -> x.sheet(0, -1));
    refuses("promise 19: what of 5", INDEX, () -> Almanacs.withSheets(1), x -> x.sheet(0, 5));
    refuses("promise 19: what of 5, on a full almanac", INDEX, Almanacs::full, x -> x.sheet(9, 5));
    refuses("promise 19: the least what of all", INDEX, Almanacs::inUse, x -> x.sheet(0, LEAST));
    refuses("promise 19: the greatest what of all", INDEX, Almanacs::inUse, x -> x.sheet(0, MOST));
    test("promise 19: what of 0 to 4 of a sheet without feasts", x -> {
      x.print(7);
      int[] facts = {7, 0, x.eclipses(7, true) + x.eclipses(7, false), 0, 0};
      for (int what = 0; what < facts.length; what++) {
        int w = what;
        due(facts[w], () -> x.sheet(0, w));
      }
    });
    test("promise 19: what of 0 to 4 of a sheet with feasts, of both kinds of eclipses one number", x -> {
      // at 999 and 300999 of the sun, at 10999, 290999 and 310999 of the moon
      x.setNodes(300000, 0);
      x.setMoon(20000, 999);
      x.addFeast(0, 0, 0, -1, 0);
      x.print(0);
      int[] facts = {0, 1, 5, 0, 0};
      for (int what = 0; what < facts.length; what++) {
        int w = what;
        due(facts[w], () -> x.sheet(0, w));
      }
    });
    test("promise 19: the eclipses of the greatest day are on the sheet of its year, and later ones not", x -> {
      x.setLeaps(4, 4);
      x.setNodes(300000, 0);
      x.setMoon(30000, 29999);
      x.print(999);
      due(2, () -> x.sheet(0, 2));
      x.setMoon(30000, 0);
      x.print(999);
      due(1, () -> x.sheet(1, 2));
    });
  }

  private static void wrongSheets() {
    test("promise 19: wrong by the day of a feast alone, and right again", x -> {
      // the full moon 0 comes at 15000, then at 14999, and as many moons as before are eclipses
      x.setNodes(100000, 50000);
      x.setMoon(30000, 0);
      x.addFeast(0, 0, 1, -1, 0);
      x.print(0);
      due(0, () -> x.sheet(0, 3));
      x.setMoon(29998, 0);
      due(x.sheet(0, 2), () -> x.eclipses(0, true) + x.eclipses(0, false));
      due(1, () -> x.sheet(0, 3));
      x.setMoon(30000, 0);
      due(0, () -> x.sheet(0, 3));
    });
    test("promise 19: wrong by the day of the last of eight feasts alone", unused -> {
      AlmanacHouse x = Almanacs.withFeasts(7);
      x.addFeast(0, 0, 1, -1, 0);
      x.setNodes(100000, 50000);
      x.setMoon(30000, 0);
      x.print(0);
      x.setMoon(29998, 0);
      due(x.sheet(0, 2), () -> x.eclipses(0, true) + x.eclipses(0, false));
      due(1, () -> x.sheet(0, 3));
    });
    test("promise 19: wrong by its eclipses alone, fewer or more, and right again", x -> {
      x.addFeast(0, 0, 0, -1, 0);
      x.setNodes(300000, 0);
      x.setMoon(40000, 15000);
      x.print(0);
      x.setMoon(40000, 15001);
      x.print(0);
      due(1, () -> x.sheet(0, 3));
      due(0, () -> x.sheet(1, 3));
      x.setMoon(40000, 15000);
      due(0, () -> x.sheet(0, 3));
      due(1, () -> x.sheet(1, 3));
      due(0, () -> x.sheet(0, 4));
    });
    test("promise 19: wrong without feasts, by its eclipses", x -> {
      x.setNodes(300000, 0);
      x.setMoon(40000, 15000);
      x.print(0);
      x.setMoon(40000, 15001);
      due(1, () -> x.sheet(0, 3));
      due(0, () -> x.sheet(0, 4));
    });
    test("promise 19: as many eclipses as before, but of the other kind, are no other number", x -> {
      // at the node a new moon, then a full one, and none else within reach
      x.setNodes(300000, 150000);
      x.setMoon(40000, 30000);
      x.print(0);
      x.setMoon(40000, 10000);
      due(0, () -> x.eclipses(0, true));
      due(1, () -> x.eclipses(0, false));
      due(1, () -> x.sheet(0, 2));
      due(0, () -> x.sheet(0, 3));
    });
    test("promise 19: feasts that were told later do not matter", unused -> {
      AlmanacHouse x = withMoonFeasts(20000, 0);
      x.print(0);
      x.addFeast(3, 3, 3, 3, 3);
      due(0, () -> x.sheet(0, 3));
      due(0, () -> x.sheet(0, 4));
      due(2, () -> x.sheet(0, 1));
    });
    test("promise 19: a sheet without feasts is not wrong for those that were told later", x -> {
      x.print(0);
      x.addFeast(0, 0, 1, -1, 0);
      due(0, () -> x.sheet(0, 3));
      due(0, () -> x.sheet(0, 4));
    });
    test("promise 19: wrong by other leap years", x -> {
      x.addFeast(0, 0, 0, -1, 0);
      x.print(1);
      x.setLeaps(4, 0);
      due(1, () -> x.sheet(0, 3));
      due(1, () -> x.sheet(0, 4));
    });
    test("promise 19: wrong by an observation, and not by one on the reckoned day", unused -> {
      AlmanacHouse x = withMoonFeasts(20000, 0);
      x.print(0);
      x.observe(20, false);
      due(0, () -> x.sheet(0, 3));
      x.observe(21, false);
      due(1, () -> x.sheet(0, 3));
    });
  }

  private static void differences() {
    test("promise 19: the greatest difference is 0 where nothing has another day", unused -> {
      AlmanacHouse x = withMoonFeasts(20000, 0);
      x.print(0);
      due(0, () -> x.sheet(0, 4));
    });
    test("promise 19: the greatest difference is that of a feast which is earlier now", unused -> {
      // 12 and 60, then 15 and 55
      AlmanacHouse x = withMoonFeasts(24000, 0);
      x.print(0);
      x.setMoon(20000, 5000);
      due(5, () -> x.sheet(0, 4));
    });
    test("promise 19: the greatest difference is that of a feast which is later now", unused -> {
      AlmanacHouse x = withMoonFeasts(20000, 5000);
      x.print(0);
      x.setMoon(24000, 0);
      due(5, () -> x.sheet(0, 4));
    });
    test("promise 19: the greatest difference is that of the first feast", x -> {
      x.setMoon(20000, 0);
      x.addFeast(0, 0, 1, -1, 0);
      x.addFeast(0, 0, 0, -1, 0);
      x.print(0);
      x.setMoon(20000, 39000);
      due(39, () -> x.sheet(0, 4));
    });
    test("promise 19: a difference of days that are less than 0", x -> {
      x.setMoon(20000, 0);
      x.addFeast(0, 0, 1, -1, -60);
      x.print(0);
      x.setMoon(20000, 7000);
      due(-50, () -> x.printed(0, 0));
      due(7, () -> x.sheet(0, 4));
    });
    test("promise 19: a difference of over two years", x -> {
      x.addFeast(11, 29, 0, -1, 60);
      x.setLeaps(400, 0);
      x.print(999);
      x.setLeaps(400, 400);
      due(999, () -> x.sheet(0, 4));
    });
  }

  private static void printedFeasts() {
    test("promise 20: the first and the last feast of a sheet", unused -> {
      AlmanacHouse x = withMoonFeasts(20000, 0);
      x.print(0);
      due(10, () -> x.printed(0, 0));
      due(50, () -> x.printed(0, 1));
    });
    test("promise 20: the feast 7 of the sheet 9", unused -> {
      AlmanacHouse x = Almanacs.full();
      x.reprint(9);
      due(x.feast(7, 999), () -> x.printed(9, 7));
    });
    test("promise 20: the day stays as it was printed", unused -> {
      AlmanacHouse x = withMoonFeasts(20000, 0);
      x.print(0);
      x.setMoon(30000, 0);
      x.setLeaps(1, 1);
      due(10, () -> x.printed(0, 0));
      due(50, () -> x.printed(0, 1));
    });
    test("promise 20: a day that is less than 0", x -> {
      x.addFeast(0, 0, 0, -1, -60);
      x.print(0);
      due(-60, () -> x.printed(0, 0));
    });
    test("promise 20: a day behind the last one of all", x -> {
      x.addFeast(11, 29, 0, -1, 60);
      x.print(999);
      due(365309, () -> x.printed(0, 0));
    });
    refuses("promise 20: the feast -1", INDEX, Almanacs::full, x -> x.printed(9, -1));
    refuses("promise 20: the feast 8", INDEX, Almanacs::full, x -> x.printed(9, 8));
    refuses("promise 20: a feast of a sheet without feasts", INDEX, () -> Almanacs.withSheets(1),
        x -> x.printed(0, 0));
    refuses("promise 20: a feast that was told later", INDEX, Almanacs::inUse, x -> x.printed(0, 2));
    refuses("promise 20: the least feast of all", INDEX, Almanacs::full, x -> x.printed(9, LEAST));
    refuses("promise 20: the greatest feast of all", INDEX, Almanacs::full, x -> x.printed(9, MOST));
    test("promise 20: a feast that was told later is held once the sheet is printed anew", x -> {
      x.print(0);
      x.addFeast(0, 5, 0, -1, 0);
      refused(INDEX, () -> x.printed(0, 0));
      x.reprint(0);
      due(5, () -> x.printed(0, 0));
    });
  }

  private static void counts() {
    refuses("promise 21: what of -1", INDEX, x -> x.count(-1));
    refuses("promise 21: what of 11", INDEX, x -> x.count(11));
    refuses("promise 21: the least what of all", INDEX, x -> x.count(LEAST));
    refuses("promise 21: the greatest what of all", INDEX, x -> x.count(MOST));
    test("promise 21: the least lengths", x -> {
      x.setLeaps(1, 0);
      x.setMoon(20000, 0);
      x.setNodes(100000, 0);
      dueCounts(x, 1, 0, 20000, 0, 100000, 0, 0, 0, 0, 0, 0);
    });
    test("promise 21: the greatest lengths", x -> {
      x.setLeaps(400, 400);
      x.setMoon(40000, 39999);
      x.setNodes(300000, 299999);
      dueCounts(x, 400, 400, 40000, 39999, 300000, 299999, 0, 0, 0, 0, 0);
    });
  }

  private static void dueCounts(AlmanacHouse x, int... counts) {
    for (int what = 0; what < counts.length; what++) {
      int w = what;
      due(counts[w], () -> x.count(w));
    }
  }

  private static void countedSheets() {
    test("promise 21: no feasts and no sheets", x -> dueCounts(x, 4, 1, 29531, 0, 173310, 0, 0, 0, 0));
    test("promise 21: eight feasts and ten sheets, none of them wrong", unused -> {
      AlmanacHouse x = Almanacs.withFeasts(8);
      for (int i = 0; i < 10; i++) {
        x.print(i);
      }
      dueCounts(x, 4, 1, 29531, 0, 173310, 0, 8, 10, 0);
    });
    test("promise 21: ten sheets, all of them wrong, then all but one", x -> {
      x.addFeast(0, 0, 1, -1, 0);
      for (int i = 0; i < 10; i++) {
        x.print(0);
      }
      x.setMoon(29531, 5000);
      due(10, () -> x.count(8));
      x.reprint(9);
      due(9, () -> x.count(8));
    });
    test("promise 21: a sheet that is wrong by its eclipses alone", x -> {
      x.setNodes(300000, 0);
      x.setMoon(40000, 15000);
      x.print(0);
      x.setMoon(40000, 15001);
      due(1, () -> x.count(8));
    });
  }

  private static void countedObservations() {
    test("promise 21: an observation on the reckoned day corrects nothing", x -> {
      x.observe(59, false);
      dueCounts(x, 4, 1, 29531, 0, 173310, 0, 0, 0, 0, 1, 0);
    });
    test("promise 21: a new moon with k of 0 corrects nothing", x -> {
      x.observe(1, false);
      dueCounts(x, 4, 1, 29531, 0, 173310, 0, 0, 0, 0, 1, 0);
    });
    test("promise 21: a correction", x -> {
      x.observe(61, false);
      dueCounts(x, 4, 1, 30750, 0, 173310, 0, 0, 0, 0, 1, 1);
    });
    test("promise 21: a correction that comes to the same length", x -> {
      x.setMoon(40000, 0);
      x.observe(41, false);
      dueCounts(x, 4, 1, 40000, 0, 173310, 0, 0, 0, 0, 1, 1);
    });
    test("promise 21: an observation that is refused", x -> {
      refused(ARGUMENT, () -> x.observe(-1, false));
      refused(ARGUMENT, () -> x.observe(100000, true));
      dueCounts(x, 4, 1, 29531, 0, 173310, 0, 0, 0, 0, 0, 0);
    });
  }

  /** In years of 365 days 7 years are the first whole weeks, and 2555 days. */
  private static void offs() {
    refuses("promise 22: off of -1", ARGUMENT, x -> x.cycle(-1));
    refuses("promise 22: off of 5001", ARGUMENT, x -> x.cycle(5001));
    refuses("promise 22: the least off of all", ARGUMENT, x -> x.cycle(LEAST));
    refuses("promise 22: the greatest off of all", ARGUMENT, x -> x.cycle(MOST));
    dueCycle("off of 0, at the time of a moon", 1, 0, 35000, 0, 7);
    // 7 years are 73 * 34990 and 730, 329 years 47 times as much: 680 less than a whole number
    dueCycle("a difference of off behind a moon", 1, 0, 34990, 730, 7);
    dueCycle("a difference of off and 1 behind a moon", 1, 0, 34990, 729, 329);
    // 7 years are 65 * 39320 less 800, 343 years 49 times as much: 120 more than a whole number
    dueCycle("a difference of off before a moon", 1, 0, 39320, 800, 7);
    dueCycle("a difference of off and 1 before a moon", 1, 0, 39320, 799, 343);
    dueCycle("off of 5000, the greatest", 1, 0, 40000, 5000, 7);
    dueCycle("off of 4999, less than the difference", 1, 0, 40000, 4999, 56);
    test("promise 22: the first new moon does not matter", x -> {
      x.setLeaps(1, 0);
      x.setMoon(35000, 777);
      due(7, () -> x.cycle(0));
    });
    // 4 years with 3 leap days are 1463 days, 209 weeks
    dueCycle("4 years, the fewest that can be whole weeks", 4, 3, 20900, 0, 4);
    // 400 years with 97 leap days are 146097 days, 20871 weeks, and 20 less than 7283 moons
    dueCycle("400 years, the most", 400, 97, 20060, 20, 400);
    dueCycle("-1, with 400 years that differ by off and 1", 400, 97, 20060, 19, -1);
    // 401 years with 201 leap days are 146566 days, 20938 weeks and 7220 moons
    dueCycle("-1, with 401 years that would do", 2, 1, 20300, 0, -1);
    // 7 years of 366 days are 2562000, of which 57 times is the first multiple of 9 * 19 * 125
    dueCycle("399 years of the most days, which wrap around nowhere", 1, 1, 21375, 0, 399);
  }

  private static void dueCycle(String edge, int cycle, int leaps, int length, int off, int want) {
    test("promise 22: " + edge, x -> {
      x.setLeaps(cycle, leaps);
      x.setMoon(length, 0);
      due(want, () -> x.cycle(off));
    });
  }

  private static void means() {
    dueMean("no leap years", 1, 0, 365.0);
    dueMean("leap years alone", 1, 1, 366.0);
    dueMean("the least part of a day", 400, 1, 365.0025);
    dueMean("the greatest part of a day", 400, 399, 365.9975);
    dueMean("the greatest cycle and the most leaps", 400, 400, 366.0);
  }

  private static void dueMean(String edge, int cycle, int leaps, double want) {
    test("promise 23: " + edge, x -> {
      x.setLeaps(cycle, leaps);
      due(want, x::mean);
    });
  }

  private static void digests() {
    test("promise 24: without feasts and sheets, a sum that wraps around to one above 0", x -> {
      // it would be 21041455884586503393, and 64 bits hold 2 to the power of 63, less 1, at the most
      due(2594711810876951777L, x::digest);
      due(digestOf(4, 1, 29531, 0, 173310, 0, 0, 0, 0, 0, 0), x::digest);
    });
    test("promise 24: the least lengths", x -> {
      x.setLeaps(1, 0);
      x.setMoon(20000, 0);
      x.setNodes(100000, 0);
      due(digestOf(1, 0, 20000, 0, 100000, 0, 0, 0, 0, 0, 0), x::digest);
    });
    test("promise 24: one feast, with its least numbers", x -> {
      x.addFeast(0, 0, 0, -1, -60);
      due(digestOf(4, 1, 29531, 0, 173310, 0, 1, 0, 0, 0, 0, 0, 0, 0, -1, -60), x::digest);
    });
    test("promise 24: one feast, with its greatest numbers", x -> {
      x.addFeast(11, 29, 3, 6, 60);
      due(digestOf(4, 1, 29531, 0, 173310, 0, 1, 0, 0, 0, 0, 11, 29, 3, 6, 60), x::digest);
    });
    test("promise 24: one sheet without feasts", x -> {
      x.print(0);
      x.addFeast(0, 0, 0, -1, 0);
      due(digestOf(4, 1, 29531, 0, 173310, 0, 1, 1, 0, 0, 0, 0, 0, 0, -1, 0, 0, 0, 5, 0, 0), x::digest);
    });
    test("promise 24: a day that is less than 0 on a sheet", x -> {
      x.addFeast(0, 0, 0, -1, -60);
      x.print(0);
      due(digestOf(4, 1, 29531, 0, 173310, 0, 1, 1, 0, 0, 0, 0, 0, 0, -1, -60, 0, 1, 5, 0, 0, -60), x::digest);
    });
    test("promise 24: eight feasts and ten sheets", x -> {
      for (int i = 0; i < 8; i++) {
        x.addFeast(0, 5, 0, -1, 0);
      }
      for (int i = 0; i < 10; i++) {
        x.print(0);
      }
      due(digestOf(fullDigest()), x::digest);
    });
    test("promise 24: it tells of lengths as they are now and of days as they were printed", unused -> {
      // the full moons 0 and 2 come on 10 and 50; with 2 * (38500 - 7000) / 3 = 21000 on 17 and 59
      AlmanacHouse x = withMoonFeasts(20000, 0);
      x.setNodes(300000, 0);
      x.print(0);
      x.observe(20, false);
      x.setMoon(20000, 7000);
      x.observe(38, true);
      due(digestOf(4, 1, 21000, 7000, 300000, 0, 2, 1, 1, 2, 1, 0, 0, 1, -1, 0, 0, 0, 3, -1, 0,
          0, 2, 5, 1, 9, 10, 50), x::digest);
    });
  }

  private static long[] fullDigest() {
    long[] numbers = new long[11 + 8 * 5 + 10 * (5 + 8)];
    int at = 0;
    for (long count : new long[] {4, 1, 29531, 0, 173310, 0, 8, 10, 0, 0, 0}) {
      numbers[at++] = count;
    }
    for (int i = 0; i < 8; i++) {
      for (long told : new long[] {0, 5, 0, -1, 0}) {
        numbers[at++] = told;
      }
    }
    for (int i = 0; i < 10; i++) {
      for (long held : new long[] {0, 8, 5, 0, 0, 5, 5, 5, 5, 5, 5, 5, 5}) {
        numbers[at++] = held;
      }
    }
    return numbers;
  }
}

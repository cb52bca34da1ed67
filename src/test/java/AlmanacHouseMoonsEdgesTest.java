/** Promises 9 to 12, moons, eclipses and observations: a case for each edge that the document names. */
public final class AlmanacHouseMoonsEdgesTest extends Cases {
  public static void main(String[] args) {
    moons();
    eclipseYears();
    reachOfTheSun();
    reachOfTheMoon();
    beforeTheFirstNode();
    eclipsesAtTheEndsOfYears();
    nextDays();
    nextEclipses();
    observedDays();
    nearestMoons();
    corrections();
    heldLengths();
    end();
  }

  private static void moons() {
    test("promise 9: the moon 0", x -> {
      due(0, () -> x.moon(0, false));
      due(14, () -> x.moon(0, true));
    });
    test("promise 9: the moon 10000, the earliest one", x -> {
      x.setMoon(20000, 0);
      due(200000, () -> x.moon(10000, false));
      due(200010, () -> x.moon(10000, true));
    });
    test("promise 9: the moon 10000, the latest one of all, which wraps around nowhere", x -> {
      x.setMoon(40000, 39999);
      due(400039, () -> x.moon(10000, false));
      due(400059, () -> x.moon(10000, true));
    });
    refuses("promise 9: the new moon -1", ARGUMENT, x -> x.moon(-1, false));
    refuses("promise 9: the full moon -1", ARGUMENT, x -> x.moon(-1, true));
    refuses("promise 9: the new moon 10001", ARGUMENT, x -> x.moon(10001, false));
    refuses("promise 9: the full moon 10001", ARGUMENT, x -> x.moon(10001, true));
    refuses("promise 9: the least moon of all", ARGUMENT, x -> x.moon(LEAST, false));
    refuses("promise 9: the greatest moon of all", ARGUMENT, x -> x.moon(MOST, true));
    test("promise 9: a moon at the end of a day", x -> {
      x.setMoon(20000, 999);
      due(0, () -> x.moon(0, false));
      due(10, () -> x.moon(0, true));
    });
    test("promise 9: a moon at the beginning of a day", x -> {
      x.setMoon(20000, 1000);
      due(1, () -> x.moon(0, false));
      due(11, () -> x.moon(0, true));
    });
    test("promise 9: half of an odd length is cut towards 0", x -> {
      x.setMoon(29999, 0);
      due(14, () -> x.moon(0, true));
      x.setMoon(30000, 0);
      due(15, () -> x.moon(0, true));
    });
  }

  private static void eclipseYears() {
    test("promise 10: the year 0", x -> {
      x.setNodes(300000, 0);
      x.setMoon(40000, 0);
      due(1, () -> x.eclipses(0, true));
    });
    test("promise 10: the year 999", x -> {
      // of its days 364885 to 365249 the node 1217 comes on 365100, with a new moon
      x.setNodes(300000, 0);
      x.setMoon(30000, 0);
      due(1, () -> x.eclipses(999, true));
      due(0, () -> x.eclipses(999, false));
    });
    for (boolean ofSun : new boolean[] {true, false}) {
      String kind = ofSun ? ", of the sun" : ", of the moon";
      refuses("promise 10: the year -1" + kind, ARGUMENT, x -> x.eclipses(-1, ofSun));
      refuses("promise 10: the year 1000" + kind, ARGUMENT, x -> x.eclipses(1000, ofSun));
      refuses("promise 10: the least year of all" + kind, ARGUMENT, x -> x.eclipses(LEAST, ofSun));
      refuses("promise 10: the greatest year of all" + kind, ARGUMENT, x -> x.eclipses(MOST, ofSun));
    }
  }

  private static void dueEclipses(AlmanacHouse x, boolean ofSun, int node, int length, int first, int want) {
    x.setNodes(300000, node);
    x.setMoon(length, first);
    due(want, () -> x.eclipses(0, ofSun));
  }

  /** In the year 0; nodes come at 0 and 300000, or at 299999 alone. */
  private static void reachOfTheSun() {
    test("promise 10: a new moon at the time of a node", x -> dueEclipses(x, true, 299999, 30000, 29999, 1));
    test("promise 10: a new moon 15000 behind a node", x -> dueEclipses(x, true, 0, 40000, 15000, 2));
    test("promise 10: a new moon 15001 behind a node", x -> dueEclipses(x, true, 0, 40000, 15001, 1));
    test("promise 10: a new moon 15000 before a node", x -> dueEclipses(x, true, 0, 40000, 5000, 2));
    test("promise 10: a new moon 15001 before a node", x -> dueEclipses(x, true, 0, 40000, 4999, 1));
    test("promise 10: a new moon 15000 before the first node", x -> dueEclipses(x, true, 299999, 40000, 4999, 1));
    test("promise 10: a new moon 15001 before the first node", x -> dueEclipses(x, true, 299999, 40000, 4998, 0));
    test("promise 10: a new moon 15000 behind the first node", x -> dueEclipses(x, true, 299999, 40000, 34999, 1));
    test("promise 10: a new moon 15001 behind the first node", x -> dueEclipses(x, true, 299999, 40000, 35000, 0));
  }

  /** With moons of 20000 the full moons come 10000 behind the new ones. */
  private static void reachOfTheMoon() {
    test("promise 10: a full moon at the time of a node", x -> dueEclipses(x, false, 299999, 30000, 14999, 1));
    test("promise 10: a full moon 11000 behind a node", x -> {
      // at 11000, 291000 and 311000
      dueEclipses(x, false, 0, 20000, 1000, 3);
    });
    test("promise 10: a full moon 11001 behind a node", x -> dueEclipses(x, false, 0, 20000, 1001, 1));
    test("promise 10: a full moon 11000 before a node", x -> {
      // at 289000 and 309000, and at 9000 none: the first one comes at 29000
      dueEclipses(x, false, 0, 20000, 19000, 2);
    });
    test("promise 10: a full moon 11001 before a node", x -> dueEclipses(x, false, 0, 20000, 18999, 1));
    test("promise 10: a full moon 11000 before the first node", x -> {
      // at 288999 and 308999
      dueEclipses(x, false, 299999, 20000, 18999, 2);
    });
    test("promise 10: a full moon 11001 before the first node", x ->
        dueEclipses(x, false, 299999, 20000, 18998, 1));
  }

  private static void beforeTheFirstNode() {
    test("promise 10: no node comes a period before the first one, for the sun", x -> {
      // new moons at 39999, 79999, 119999, 159999, 199999, .. with no node before 299999
      x.setNodes(100000, 299999);
      x.setMoon(40000, 39999);
      due(0, () -> x.eclipses(0, true));
    });
    test("promise 10: no node comes a period before the first one, for the moon", x -> {
      // full moons at 59999, 99999, 139999, .., 299999, with no node at 99999 or 199999
      x.setNodes(100000, 299999);
      x.setMoon(40000, 39999);
      due(1, () -> x.eclipses(0, false));
      due(299, () -> x.next(0));
    });
  }

  /** Nodes come with some moons, and a thousandth part of a day moves a moon over the end of a year. */
  private static void eclipsesAtTheEndsOfYears() {
    test("promise 10: an eclipse at the end of the last day of a leap year", x -> {
      // nodes at 66000, 366000, 666000; new moons at 65999, 365999, 665999
      x.setNodes(300000, 66000);
      x.setMoon(30000, 5999);
      due(2, () -> x.eclipses(0, true));
      due(1, () -> x.eclipses(1, true));
    });
    test("promise 10: an eclipse at the beginning of the first day behind a leap year", x -> {
      x.setNodes(300000, 66000);
      x.setMoon(30000, 6000);
      due(1, () -> x.eclipses(0, true));
      due(2, () -> x.eclipses(1, true));
    });
    test("promise 10: an eclipse at the end of the last day of another year", x -> {
      // nodes at 431000, 731000, 1031000; new moons at 430999, 730999, 1030999
      x.setNodes(300000, 131000);
      x.setMoon(30000, 10999);
      due(2, () -> x.eclipses(1, true));
      due(1, () -> x.eclipses(2, true));
    });
    test("promise 10: an eclipse at the beginning of the first day behind another year", x -> {
      x.setNodes(300000, 131000);
      x.setMoon(30000, 11000);
      due(1, () -> x.eclipses(1, true));
      due(2, () -> x.eclipses(2, true));
    });
    test("promise 10: an eclipse of the moon at the end of the last day of a leap year", x -> {
      x.setNodes(300000, 66000);
      x.setMoon(30000, 20999);
      due(2, () -> x.eclipses(0, false));
      due(1, () -> x.eclipses(1, false));
    });
    test("promise 10: an eclipse of the moon at the beginning of the first day behind a leap year", x -> {
      x.setNodes(300000, 66000);
      x.setMoon(30000, 21000);
      due(1, () -> x.eclipses(0, false));
      due(2, () -> x.eclipses(1, false));
    });
    test("promise 10: an eclipse at the end of the greatest day, of a moon behind the number 10000", x -> {
      // of the days 365634 to 365999 nodes come on 365700 and behind the last one, on 366000
      x.setLeaps(4, 4);
      x.setNodes(300000, 0);
      x.setMoon(30000, 29999);
      due(2, () -> x.eclipses(999, true));
    });
    test("promise 10: an eclipse at the beginning of the day behind the greatest one", x -> {
      x.setLeaps(4, 4);
      x.setNodes(300000, 0);
      x.setMoon(30000, 0);
      due(1, () -> x.eclipses(999, true));
    });
  }

  private static void nextDays() {
    test("promise 11: the day 0", x -> due(0, () -> x.next(0)));
    test("promise 11: the last day, with an eclipse behind all years", x -> {
      // a node on 365400
      x.setNodes(300000, 0);
      x.setMoon(30000, 0);
      due(365400, () -> x.next(365249));
    });
    test("promise 11: the greatest day, with an eclipse on it", x -> {
      x.setLeaps(4, 4);
      x.setNodes(300000, 0);
      x.setMoon(30000, 29999);
      due(365999, () -> x.next(365999));
    });
    test("promise 11: the greatest day, with the next eclipse nearly a whole period behind it", x -> {
      // nodes on 365991 and 366291, new moons 7749 behind them and full moons 11001 before them
      x.setLeaps(4, 4);
      x.setNodes(300000, 291000);
      x.setMoon(37500, 36249);
      due(365998, () -> x.next(365998));
      due(366298, () -> x.next(365999));
    });
    refuses("promise 11: the day -1", ARGUMENT, x -> x.next(-1));
    refuses("promise 11: the day behind the last one at first", ARGUMENT, AlmanacHouse::new, x -> x.next(365250));
    refuses("promise 11: the day behind the last one without leap years", ARGUMENT,
        () -> Almanacs.withLeaps(4, 0), x -> x.next(365000));
    refuses("promise 11: the day behind the last one with leap years alone", ARGUMENT,
        () -> Almanacs.withLeaps(4, 4), x -> x.next(366000));
    refuses("promise 11: the least day of all", ARGUMENT, x -> x.next(LEAST));
    refuses("promise 11: the greatest day of all", ARGUMENT, x -> x.next(MOST));
  }

  /**
   * The -1 can't be shown: some moon, new or full, comes within 10000 of every node, and nodes come 300
   * days from one another at the most, the first one within 300.
   */
  private static void nextEclipses() {
    test("promise 11: an eclipse at the beginning of the day", x -> {
      x.setNodes(300000, 0);
      x.setMoon(30000, 0);
      due(300, () -> x.next(300));
      due(600, () -> x.next(301));
    });
    test("promise 11: an eclipse at the end of the day", x -> {
      x.setNodes(300000, 999);
      x.setMoon(30000, 999);
      due(300, () -> x.next(300));
      due(600, () -> x.next(301));
    });
    test("promise 11: an eclipse of the sun before one of the moon", x -> {
      // a new moon on 300, a full one on 310
      x.setNodes(300000, 0);
      x.setMoon(20000, 999);
      due(300, () -> x.next(291));
      due(310, () -> x.next(301));
    });
    test("promise 11: an eclipse of the moon before one of the sun", x -> {
      // a full moon on 290, a new one on 300
      x.setNodes(300000, 0);
      x.setMoon(20000, 999);
      due(290, () -> x.next(11));
    });
    test("promise 11: eclipses of the moon alone, for none of the sun ever comes", x -> {
      // full moons at all nodes
      x.setNodes(200000, 20000);
      x.setMoon(40000, 0);
      due(20, () -> x.next(0));
      due(220, () -> x.next(21));
    });
    test("promise 11: eclipses of the sun alone, for none of the moon ever comes", x -> {
      // new moons at all nodes
      x.setNodes(300000, 0);
      x.setMoon(30000, 0);
      due(0, () -> x.next(0));
      due(300, () -> x.next(1));
    });
    test("promise 11: an eclipse of the sun behind a full moon that is out of reach by 1", x -> {
      // a full moon at 288998, 11001 before the node, and a new one at 308998
      x.setNodes(300000, 299999);
      x.setMoon(40000, 28998);
      due(308, () -> x.next(0));
    });
  }

  private static void observedDays() {
    test("promise 12: the day 0", x -> {
      due(0, () -> x.observe(0, false));
      due(1, () -> x.count(9));
    });
    test("promise 12: the day 99999, the day of a new moon", x -> {
      // the new moon 2499 comes at 99999999
      x.setMoon(40000, 39999);
      due(0, () -> x.observe(99999, false));
      due(1, () -> x.count(9));
      due(0, () -> x.count(10));
    });
    test("promise 12: the day 99999, the greatest numbers with a full moon", x -> {
      // the full moon 4999 comes on 99990: 2 * 99999500 / 9999
      x.setMoon(20000, 0);
      due(9, () -> x.observe(99999, true));
      due(20001, () -> x.count(2));
    });
    test("promise 12: the day 99999, the greatest numbers with a new moon", x -> {
      // the new moon 4999 comes on 99989: (99999500 - 9000) / 4999
      x.setMoon(20000, 9000);
      due(10, () -> x.observe(99999, false));
      due(20002, () -> x.count(2));
    });
    for (boolean isFull : new boolean[] {true, false}) {
      String kind = isFull ? ", a full moon" : ", a new moon";
      refuses("promise 12: the day -1" + kind, ARGUMENT, x -> x.observe(-1, isFull));
      refuses("promise 12: the day 100000" + kind, ARGUMENT, x -> x.observe(100000, isFull));
      refuses("promise 12: the least day of all" + kind, ARGUMENT, x -> x.observe(LEAST, isFull));
      refuses("promise 12: the greatest day of all" + kind, ARGUMENT, x -> x.observe(MOST, isFull));
    }
  }

  /** With moons of a length and a first one, an observation, its answer, and the length and corrections due. */
  private static void observed(String edge, int[] moons, int day, boolean isFull, int want, int length,
      int corrected) {
    test("promise 12: " + edge, x -> {
      x.setMoon(moons[0], moons[1]);
      dueObserved(x, day, isFull, want, length, corrected);
    });
  }

  private static void dueObserved(AlmanacHouse x, int day, boolean isFull, int want, int length, int corrected) {
    due(want, () -> x.observe(day, isFull));
    due(length, () -> x.count(2));
    due(1, () -> x.count(9));
    due(corrected, () -> x.count(10));
  }

  private static void nearestMoons() {
    observed("a new moon at the beginning of the day", new int[] {20000, 0}, 20, false, 0, 20000, 0);
    observed("a new moon at the end of the day", new int[] {20999, 0}, 20, false, 0, 20999, 0);
    observed("a full moon at the beginning of the day", new int[] {20000, 0}, 30, true, 0, 20000, 0);
    observed("a full moon at the end of the day", new int[] {20000, 999}, 30, true, 0, 20000, 0);
    // the new moons 1 and 2 come on 20 and 40: 30500 / 1
    observed("of two new moons as near the earlier one", new int[] {20000, 0}, 30, false, 10, 30500, 1);
    // 31500 / 2 is held
    observed("of two new moons the later one, if it is nearer by a day",
        new int[] {20000, 0}, 31, false, -9, 20000, 1);
    // the full moons 1 and 2 come on 30 and 50: 2 * 40500 / 3
    observed("of two full moons as near the earlier one", new int[] {20000, 0}, 40, true, 10, 27000, 1);
    // 2 * 41500 / 5 is held
    observed("of two full moons the later one, if it is nearer by a day",
        new int[] {20000, 0}, 41, true, -9, 20000, 1);
    // the new moons 0 and 1 come at 0 and 20999, on 0 and 20, and the day 10 ends a little nearer to 1
    observed("as near by days, though the later one is nearer by time",
        new int[] {20999, 0}, 10, false, 10, 20999, 0);
    // the new moons 0 and 1 come at 501 and 21500, on 0 and 21, and the day 11 begins a little nearer to 0
    observed("nearer by days, though the earlier one is nearer by time",
        new int[] {20999, 501}, 11, false, -10, 20000, 1);
    observed("a day before the first new moon", new int[] {20000, 39999}, 0, false, -39, 20000, 0);
    // 2 * (500 - 39999)
    observed("a day before the first full moon, and a length below 0 that is held",
        new int[] {30000, 39999}, 0, true, -54, 20000, 1);
  }

  private static void corrections() {
    test("promise 12: the reckoned day corrects nothing and is counted", x -> {
      dueObserved(x, 59, false, 0, 29531, 0);
      due(0, () -> x.observe(44, true));
      due(2, () -> x.count(9));
      due(0, () -> x.count(10));
    });
    test("promise 12: a new moon with k of 0 corrects nothing and is counted", x -> {
      dueObserved(x, 1, false, 1, 29531, 0);
      due(0, () -> x.count(3));
    });
    observed("a new moon with k of 0 before its day corrects nothing",
        new int[] {29531, 5000}, 4, false, -1, 29531, 0);
    test("promise 12: a new moon with k of 1 corrects the length", x -> {
      // 30500 - 7
      x.setMoon(29531, 7);
      dueObserved(x, 30, false, 1, 30493, 1);
      due(7, () -> x.count(3));
    });
    // 61499 / 2
    observed("a new moon with k of 2, cut towards 0", new int[] {29531, 1}, 61, false, 2, 30749, 1);
    test("promise 12: a full moon with k of 0 corrects the length", x -> {
      // 2 * (15500 - 7)
      x.setMoon(29531, 7);
      dueObserved(x, 15, true, 1, 30986, 1);
      due(7, () -> x.count(3));
    });
    // 2 * 44501 / 3
    observed("a full moon with k of 1, doubled first and then cut towards 0",
        new int[] {29000, 999}, 45, true, 1, 29667, 1);
    test("promise 12: a moon that was corrected is reckoned for the day", x -> {
      due(2, () -> x.observe(61, false));
      due(0, () -> x.observe(61, false));
      due(2, () -> x.count(9));
      due(1, () -> x.count(10));
    });
  }

  private static void heldLengths() {
    observed("a length of just 40000, of a new moon", new int[] {39000, 500}, 40, false, 1, 40000, 1);
    observed("a length of 39999, of a new moon", new int[] {39000, 501}, 40, false, 1, 39999, 1);
    observed("a length of 40001 is held at 40000, of a new moon", new int[] {39000, 499}, 40, false, 1, 40000, 1);
    observed("a length of just 20000, of a new moon", new int[] {21000, 500}, 20, false, -1, 20000, 1);
    observed("a length of 20001, of a new moon", new int[] {21000, 499}, 20, false, -1, 20001, 1);
    observed("a length of 19999 is held at 20000, of a new moon", new int[] {21000, 501}, 20, false, -1, 20000, 1);
    observed("a length of 40002 is held at 40000, of a full moon", new int[] {38000, 499}, 20, true, 1, 40000, 1);
    observed("a length of 39998, of a full moon", new int[] {38000, 501}, 20, true, 1, 39998, 1);
    observed("a length of 19998 is held at 20000, of a full moon", new int[] {22000, 501}, 10, true, -1, 20000, 1);
    observed("a length of 20002, of a full moon", new int[] {22000, 499}, 10, true, -1, 20002, 1);
    observed("a length of 40000 that is held there counts as corrected",
        new int[] {40000, 7}, 41, false, 1, 40000, 1);
    observed("a length of 20000 that is held there counts as corrected",
        new int[] {20000, 7}, 19, false, -1, 20000, 1);
  }
}

/** Promises 1 to 4, the new almanac and the lengths: a case for each edge that the document names. */
public final class AlmanacHouseLengthsEdgesTest extends Cases {
  public static void main(String[] args) {
    newObject();
    cycles();
    leaps();
    moons();
    nodes();
    end();
  }

  private static void newObject() {
    test("promise 1: a new almanac has the lengths of the terms and nothing else", x -> {
      int[] counts = {4, 1, 29531, 0, 173310, 0, 0, 0, 0, 0, 0};
      for (int what = 0; what < counts.length; what++) {
        int w = what;
        due(counts[w], () -> x.count(w));
      }
    });
    test("promise 1: without feasts none fall together", x -> {
      due(0, () -> x.clashes(0));
      due(0, () -> x.clashes(999));
    });
    refuses("promise 1: a new almanac has no feast", INDEX, AlmanacHouse::new, x -> x.feast(0, 0));
    refuses("promise 1: a new almanac has no feast to come again", INDEX, AlmanacHouse::new, x -> x.again(0, 0));
    refuses("promise 1: a new almanac has no sheet", INDEX, AlmanacHouse::new, x -> x.sheet(0, 0));
    refuses("promise 1: a new almanac has no sheet to print anew", INDEX, AlmanacHouse::new, x -> x.reprint(0));
    refuses("promise 1: a new almanac has nothing printed", INDEX, AlmanacHouse::new, x -> x.printed(0, 0));
    test("promise 1: an almanac that is made later takes nothing from a full one", x -> {
      Almanacs.full();
      dueLines(Almanacs.told(x), Almanacs.told(new AlmanacHouse()));
      due(0, () -> new AlmanacHouse().count(6));
    });
    test("promise 1: an almanac loses nothing when others are made and filled", unused -> {
      AlmanacHouse x = Almanacs.inUse();
      long digest = x.digest();
      Almanacs.full();
      due(digest, x::digest);
    });
  }

  private static void cycles() {
    test("promise 2: a cycle of 1 is the least", x -> {
      due(4001, () -> x.setLeaps(1, 1));
      due(1, () -> x.count(0));
      due(true, () -> x.leap(1));
    });
    test("promise 2: a cycle of 400 is the greatest", x -> {
      due(4001, () -> x.setLeaps(400, 1));
      due(400, () -> x.count(0));
      due(false, () -> x.leap(399));
      due(true, () -> x.leap(400));
    });
    refuses("promise 2: a cycle of 0", ARGUMENT, x -> x.setLeaps(0, 0));
    refuses("promise 2: a cycle of -1", ARGUMENT, x -> x.setLeaps(-1, 0));
    refuses("promise 2: a cycle of 401", ARGUMENT, x -> x.setLeaps(401, 1));
    refuses("promise 2: the least cycle of all", ARGUMENT, x -> x.setLeaps(LEAST, 0));
    refuses("promise 2: the greatest cycle of all", ARGUMENT, x -> x.setLeaps(MOST, 1));
    test("promise 2: 1000 * the cycle and the leaps before, the least and the greatest", x -> {
      x.setLeaps(1, 0);
      due(1000, () -> x.setLeaps(400, 400));
      due(400400, () -> x.setLeaps(400, 400));
    });
  }

  private static void leaps() {
    test("promise 2: leaps of 0 are the least", x -> {
      due(4001, () -> x.setLeaps(4, 0));
      due(0, () -> x.count(1));
      due(false, () -> x.leap(0));
    });
    test("promise 2: as many leaps as the cycle are the most", x -> {
      due(4001, () -> x.setLeaps(7, 7));
      due(7, () -> x.count(1));
      due(true, () -> x.leap(6));
    });
    test("promise 2: 400 leaps of a cycle of 400", x -> {
      due(4001, () -> x.setLeaps(400, 400));
      due(400, () -> x.count(1));
      due(true, () -> x.leap(999));
    });
    refuses("promise 2: leaps of -1", ARGUMENT, x -> x.setLeaps(4, -1));
    refuses("promise 2: one leap more than the cycle", ARGUMENT, x -> x.setLeaps(4, 5));
    refuses("promise 2: two leaps of a cycle of 1", ARGUMENT, x -> x.setLeaps(1, 2));
    refuses("promise 2: 401 leaps of a cycle of 400", ARGUMENT, x -> x.setLeaps(400, 401));
    refuses("promise 2: the least leaps of all", ARGUMENT, x -> x.setLeaps(4, LEAST));
    refuses("promise 2: the most leaps of all", ARGUMENT, x -> x.setLeaps(4, MOST));
    refuses("promise 2: both too large", ARGUMENT, x -> x.setLeaps(401, 402));
  }

  private static void moons() {
    test("promise 3: a length of 20000 is the least", x -> {
      due(29531, () -> x.setMoon(20000, 0));
      due(20000, () -> x.count(2));
      due(20, () -> x.moon(1, false));
    });
    test("promise 3: a length of 40000 is the greatest", x -> {
      due(29531, () -> x.setMoon(40000, 0));
      due(40000, () -> x.setMoon(40000, 0));
      due(40, () -> x.moon(1, false));
    });
    test("promise 3: a first moon at 0 is the earliest", x -> {
      x.setMoon(29531, 5);
      due(29531, () -> x.setMoon(30000, 0));
      due(0, () -> x.count(3));
      due(0, () -> x.moon(0, false));
    });
    test("promise 3: a first moon at 39999 is the latest", x -> {
      due(29531, () -> x.setMoon(30000, 39999));
      due(39999, () -> x.count(3));
      due(39, () -> x.moon(0, false));
    });
    refuses("promise 3: a length of 19999", ARGUMENT, x -> x.setMoon(19999, 0));
    refuses("promise 3: a length of 40001", ARGUMENT, x -> x.setMoon(40001, 0));
    refuses("promise 3: a length of 0", ARGUMENT, x -> x.setMoon(0, 0));
    refuses("promise 3: the least length of all", ARGUMENT, x -> x.setMoon(LEAST, 0));
    refuses("promise 3: the greatest length of all", ARGUMENT, x -> x.setMoon(MOST, 0));
    refuses("promise 3: a first moon at -1", ARGUMENT, x -> x.setMoon(30000, -1));
    refuses("promise 3: a first moon at 40000", ARGUMENT, x -> x.setMoon(30000, 40000));
    refuses("promise 3: the earliest first moon of all", ARGUMENT, x -> x.setMoon(30000, LEAST));
    refuses("promise 3: the latest first moon of all", ARGUMENT, x -> x.setMoon(30000, MOST));
  }

  private static void nodes() {
    test("promise 4: a period of 100000 is the least", x -> {
      due(173310, () -> x.setNodes(100000, 0));
      due(100000, () -> x.count(4));
      x.setMoon(40000, 20000);
      // of 20, 60, 100, 140, .. 340 days those at the nodes 100 and 300
      due(2, () -> x.eclipses(0, true));
    });
    test("promise 4: a period of 300000 is the greatest", x -> {
      due(173310, () -> x.setNodes(300000, 0));
      due(300000, () -> x.setNodes(300000, 0));
      x.setMoon(40000, 20000);
      due(1, () -> x.eclipses(0, true));
      due(300, () -> x.next(21));
    });
    test("promise 4: a first node at 0 is the earliest", x -> {
      x.setNodes(173310, 5);
      due(173310, () -> x.setNodes(173310, 0));
      due(0, () -> x.count(5));
      due(0, () -> x.next(0));
    });
    test("promise 4: a first node at 299999 is the latest", x -> {
      due(173310, () -> x.setNodes(173310, 299999));
      due(299999, () -> x.count(5));
      x.setMoon(40000, 0);
      due(300, () -> x.next(0));
    });
    refuses("promise 4: a period of 99999", ARGUMENT, x -> x.setNodes(99999, 0));
    refuses("promise 4: a period of 300001", ARGUMENT, x -> x.setNodes(300001, 0));
    refuses("promise 4: a period of 0", ARGUMENT, x -> x.setNodes(0, 0));
    refuses("promise 4: the least period of all", ARGUMENT, x -> x.setNodes(LEAST, 0));
    refuses("promise 4: the greatest period of all", ARGUMENT, x -> x.setNodes(MOST, 0));
    refuses("promise 4: a first node at -1", ARGUMENT, x -> x.setNodes(150000, -1));
    refuses("promise 4: a first node at 300000", ARGUMENT, x -> x.setNodes(150000, 300000));
    refuses("promise 4: the earliest first node of all", ARGUMENT, x -> x.setNodes(150000, LEAST));
    refuses("promise 4: the latest first node of all", ARGUMENT, x -> x.setNodes(150000, MOST));
  }
}

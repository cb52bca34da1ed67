import java.util.List;

/** What the terms say of all calls: refused ones, the last one that is promised, numbers that never wrap. */
public final class AlmanacHouseTermsEdgesTest extends Cases {
  public static void main(String[] args) {
    refusedCalls();
    lastCalls();
    greatestNumbers();
    end();
  }

  private static void refusedCalls() {
    test("terms: the almanac in use to which refused calls are made holds something that could change", unused -> {
      AlmanacHouse x = Almanacs.inUse();
      due(3, () -> x.count(6));
      due(2, () -> x.count(7));
      due(true, () -> x.count(8) > 0);
      due(2, () -> x.count(9));
      due(1, () -> x.count(10));
      due(2, () -> x.sheet(0, 1));
    });
    test("terms: the full almanac to which refused calls are made is full", unused -> {
      AlmanacHouse x = Almanacs.full();
      due(8, () -> x.count(6));
      due(10, () -> x.count(7));
      due(10, () -> x.count(8));
      due(8, () -> x.sheet(9, 1));
    });
    test("terms: refused calls one behind the other change nothing, and the calls behind them answer", unused -> {
      AlmanacHouse x = Almanacs.full();
      List<String> before = Almanacs.told(x);
      refuseAll(x);
      dueLines(before, Almanacs.told(x));
      dueLines(Almanacs.goneOn(Almanacs.full()), Almanacs.goneOn(x));
    });
  }

  private static void refuseAll(AlmanacHouse x) {
    refused(ARGUMENT, () -> x.setLeaps(3, 4));
    refused(ARGUMENT, () -> x.setMoon(30000, 40000));
    refused(ARGUMENT, () -> x.setNodes(150000, 300000));
    refused(ARGUMENT, () -> x.leap(1000));
    refused(ARGUMENT, () -> x.day(0, 0, 30));
    refused(INDEX, () -> x.date(0, 5));
    refused(ARGUMENT, () -> x.line(-1));
    refused(ARGUMENT, () -> x.moon(10001, true));
    refused(ARGUMENT, () -> x.eclipses(1000, true));
    refused(ARGUMENT, () -> x.next(-1));
    refused(ARGUMENT, () -> x.observe(100000, true));
    refused(STATE, () -> x.addFeast(0, 0, 0, -1, 0));
    refused(INDEX, () -> x.feast(8, 0));
    refused(ARGUMENT, () -> x.clashes(1000));
    refused(ARGUMENT, () -> x.again(7, 1000));
    refused(STATE, () -> x.print(0));
    refused(INDEX, () -> x.reprint(10));
    refused(INDEX, () -> x.sheet(9, 5));
    refused(INDEX, () -> x.printed(9, 8));
    refused(INDEX, () -> x.count(11));
    refused(ARGUMENT, () -> x.cycle(5001));
  }

  private static void lastCalls() {
    test("terms: the call 512 counts the 510 observations before it", x -> {
      // with k of 1, held at 40000
      x.setMoon(40000, 0);
      for (int i = 0; i < 510; i++) {
        x.observe(41, false);
      }
      due(510, () -> x.count(9));
    });
    test("terms: the call 512 counts the 510 corrections before it", x -> {
      x.setMoon(40000, 0);
      for (int i = 0; i < 510; i++) {
        x.observe(41, false);
      }
      due(510, () -> x.count(10));
    });
    test("terms: the call 512 prints a sheet anew with all feasts", unused -> {
      AlmanacHouse x = Almanacs.withFeasts(8);
      x.print(1);
      for (int i = 0; i < 501; i++) {
        x.reprint(0);
      }
      x.setLeaps(4, 0);
      due(8, () -> x.reprint(0));
    });
  }

  private static void greatestNumbers() {
    test("terms: the greatest lengths, and all that is told of them", x -> {
      x.setLeaps(400, 400);
      x.setMoon(40000, 39999);
      x.setNodes(300000, 299999);
      x.addFeast(11, 29, 3, 6, 60);
      // full moons on 366019, 366059 and 366099, a weekday 6
      due(366159, () -> x.feast(0, 999));
      // the new moons 9148 and 9149 on 365959 and 365999
      due(39, () -> x.date(365998, 4));
      due(0, () -> x.date(365999, 4));
      due(0, () -> x.print(999));
      due(366159, () -> x.printed(0, 0));
      due(-1, () -> x.again(0, 999));
      due(400059, () -> x.moon(10000, true));
    });
  }
}

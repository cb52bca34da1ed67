import java.util.ArrayList;
import java.util.List;

/**
 * Almanacs in several states, and all that an almanac tells. An object answers 512 calls: to make one
 * takes 30 at most, to ask it all that it tells 180, and that is done twice.
 */
final class Almanacs {
  private static final int MOST_FEASTS = 8;
  private static final int MOST_SHEETS = 10;

  private Almanacs() {
  }

  /** Three feasts, the last of them told later than the sheets, of which the first is wrong. */
  static AlmanacHouse inUse() {
    AlmanacHouse x = new AlmanacHouse();
    x.setLeaps(30, 11);
    x.setMoon(29400, 1234);
    x.setNodes(173300, 5000);
    x.addFeast(2, 20, 1, 6, 0);
    x.addFeast(11, 24, 0, -1, 0);
    x.print(3);
    x.observe(16, true);
    x.observe(62, false);
    x.print(999);
    x.addFeast(0, 0, 3, 0, -60);
    return x;
  }

  /** The most feasts and the most sheets, all of them wrong; the first seven do not hold all feasts. */
  static AlmanacHouse full() {
    AlmanacHouse x = new AlmanacHouse();
    x.setLeaps(4, 3);
    for (int i = 0; i < MOST_FEASTS; i++) {
      x.addFeast(i, 3 * i, i % 4, i - 1, 10 * i - 40);
      x.print(100 * i);
    }
    x.setNodes(200000, 100);
    x.print(3);
    x.print(999);
    x.observe(45, true);
    return x;
  }

  /** An almanac with feasts of one rule. */
  static AlmanacHouse withFeasts(int feasts) {
    AlmanacHouse x = new AlmanacHouse();
    for (int i = 0; i < feasts; i++) {
      x.addFeast(0, 5, 0, -1, 0);
    }
    return x;
  }

  /** An almanac with sheets for the years from 0. */
  static AlmanacHouse withSheets(int sheets) {
    AlmanacHouse x = new AlmanacHouse();
    for (int i = 0; i < sheets; i++) {
      x.print(i);
    }
    return x;
  }

  static AlmanacHouse withLeaps(int cycle, int leaps) {
    AlmanacHouse x = new AlmanacHouse();
    x.setLeaps(cycle, leaps);
    return x;
  }

  /** What every call tells that changes nothing. */
  static List<String> told(AlmanacHouse x) {
    List<String> told = new ArrayList<>();
    for (int what = 0; what <= 10; what++) {
      int w = what;
      add(told, "count " + w, () -> x.count(w));
    }
    add(told, "mean", x::mean);
    add(told, "digest", x::digest);
    add(told, "cycle", () -> x.cycle(2000));
    addDates(told, x);
    addMoons(told, x);
    for (int i = 0; i < MOST_FEASTS; i++) {
      int feast = i;
      add(told, "feast " + i, () -> x.feast(feast, 3));
      add(told, "again " + i, () -> x.again(feast, 3));
    }
    add(told, "clashes", () -> x.clashes(3));
    for (int i = 0; i < MOST_SHEETS; i++) {
      addSheet(told, x, i);
    }
    return told;
  }

  private static void addDates(List<String> told, AlmanacHouse x) {
    add(told, "leap 0", () -> x.leap(0));
    add(told, "leap 3", () -> x.leap(3));
    add(told, "day", () -> x.day(999, 11, 29));
    add(told, "line", () -> x.line(12345));
    for (int what = 0; what <= 4; what++) {
      int w = what;
      add(told, "date " + w, () -> x.date(12345, w));
    }
  }

  private static void addMoons(List<String> told, AlmanacHouse x) {
    add(told, "new moon", () -> x.moon(1000, false));
    add(told, "full moon", () -> x.moon(1000, true));
    add(told, "eclipses of the sun", () -> x.eclipses(3, true));
    add(told, "eclipses of the moon", () -> x.eclipses(3, false));
    add(told, "next", () -> x.next(12345));
  }

  private static void addSheet(List<String> told, AlmanacHouse x, int sheet) {
    for (int what = 0; what <= 4; what++) {
      int w = what;
      add(told, "sheet " + sheet + ", " + w, () -> x.sheet(sheet, w));
    }
    for (int i = 0; i < MOST_FEASTS; i++) {
      int feast = i;
      add(told, "printed " + sheet + ", " + i, () -> x.printed(sheet, feast));
    }
  }

  /** What the calls tell that change something, one behind the other. */
  static List<String> goneOn(AlmanacHouse x) {
    List<String> told = new ArrayList<>();
    add(told, "observe", () -> x.observe(100, false));
    add(told, "observe", () -> x.observe(151, true));
    add(told, "reprint", () -> x.reprint(0));
    add(told, "addFeast", () -> x.addFeast(0, 4, 1, -1, 0));
    add(told, "print", () -> x.print(4));
    add(told, "setMoon", () -> x.setMoon(29500, 100));
    add(told, "setNodes", () -> x.setNodes(173000, 100));
    add(told, "setLeaps", () -> x.setLeaps(19, 5));
    add(told, "digest", x::digest);
    return told;
  }

  private static void add(List<String> told, String name, Cases.Call call) {
    told.add(name + ": " + Cases.answer(call));
  }
}

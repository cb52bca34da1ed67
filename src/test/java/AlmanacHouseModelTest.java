import java.util.ArrayList;
import java.util.Arrays;
import java.util.List;

/**
 * Long runs of calls against a model that reckons everything the slow way: it walks through the years,
 * days, moons and nodes one by one, so that it shares no formula with the class.
 */
public final class AlmanacHouseModelTest {
  private static final int RUNS = 60;
  private static final int CALLS = 512;
  private static final int LAST_DAY = 371000;

  private static int wrong = 0;
  private static long seed;

  public static void main(String[] args) {
    for (int run = 1; run <= RUNS; run++) {
      seed = run * 7919L;
      compareRun(run);
    }
    System.out.println(wrong == 0 ? "the model agrees" : wrong + " runs differ from the model");
    if (wrong != 0) {
      System.exit(1);
    }
  }

  private static void compareRun(int run) {
    AlmanacHouse almanac = new AlmanacHouse();
    Model model = new Model();
    for (int call = 1; call <= CALLS; call++) {
      int kind = kindOfCall(call);
      int[] x = arguments(kind);
      String got = answer(() -> callClass(almanac, kind, x));
      String due = answer(() -> callModel(model, kind, x));
      if (!got.equals(due)) {
        wrong++;
        System.out.println("run " + run + ", call " + call + ": " + NAMES[kind] + Arrays.toString(x)
            + " answered " + got + ", due is " + due);
        return;
      }
    }
  }

  private static final String[] NAMES = {"setLeaps", "setMoon", "setNodes", "leap", "day", "date", "line",
      "moon", "eclipses", "next", "observe", "addFeast", "feast", "clashes", "again", "print", "reprint",
      "sheet", "printed", "count", "cycle", "mean", "digest"};

  /** Settings are changed less often than asked, so that sheets are right for a while. */
  private static int kindOfCall(int call) {
    if (call % 16 == 0) {
      return random(0, 2);
    }
    return random(3, NAMES.length - 1);
  }

  private static int[] arguments(int kind) {
    switch (kind) {
      case 0: {
        int cycle = pick(1, 400);
        return new int[] {cycle, pick(0, Math.max(0, Math.min(cycle, 400)))};
      }
      case 1: return new int[] {pick(20000, 40000), pick(0, 39999)};
      case 2: return new int[] {pick(100000, 300000), pick(0, 299999)};
      case 3: return new int[] {pick(0, 999)};
      case 4: return new int[] {pick(0, 999), pick(0, 11), pick(0, 30)};
      case 5: return new int[] {pickDay(), pick(0, 4)};
      case 6: return new int[] {pickDay()};
      case 7: return new int[] {pick(0, 10000), random(0, 1)};
      case 8: return new int[] {pick(0, 999), random(0, 1)};
      case 9: return new int[] {pickDay()};
      case 10: return new int[] {random(0, 2) == 0 ? pick(0, 99) : pick(0, 99999), random(0, 1)};
      case 11: return new int[] {pick(0, 11), pick(0, 29), pick(0, 3), pick(-1, 6), pick(-60, 60)};
      case 12: return new int[] {pick(0, 7), pick(0, 999)};
      case 13: return new int[] {pick(0, 999)};
      case 14: return new int[] {pick(0, 7), pick(0, 999)};
      case 15: return new int[] {pick(0, 999)};
      case 16: return new int[] {pick(0, 9)};
      case 17: return new int[] {pick(0, 9), pick(0, 4)};
      case 18: return new int[] {pick(0, 9), pick(0, 7)};
      case 19: return new int[] {pick(0, 10)};
      case 20: return new int[] {pick(0, 5000)};
      default: return new int[] {};
    }
  }

  private static int pickDay() {
    return random(0, 9) == 0 ? random(364990, 366010) : pick(0, 364999);
  }

  /** Mostly a number of the range, sometimes an end of it, seldom one beyond it. */
  private static int pick(int least, int most) {
    switch (random(0, 29)) {
      case 0: return least - 1;
      case 1: return most + 1;
      case 2: return random(0, 1) == 0 ? Integer.MIN_VALUE : Integer.MAX_VALUE;
      case 3: return least;
      case 4: return most;
      default: return random(least, most);
    }
  }

  private static int random(int least, int most) {
    seed = seed * 6364136223846793005L + 1442695040888963407L;
    return least + (int) ((seed >>> 33) % (most - least + 1));
  }

  private interface Call {
    Object run();
  }

  private static String answer(Call call) {
    try {
      return String.valueOf(call.run());
    } catch (RuntimeException e) {
      return e.getClass().getName() + (isThrownHere(e) ? "" : " of the machine or the library");
    }
  }

  /** The name of the class begins the name of the model's too. */
  private static boolean isThrownHere(RuntimeException e) {
    StackTraceElement[] trace = e.getStackTrace();
    return trace.length > 0 && trace[0].getClassName().startsWith("AlmanacHouse");
  }

  private static Object callClass(AlmanacHouse a, int kind, int[] x) {
    switch (kind) {
      case 0: return a.setLeaps(x[0], x[1]);
      case 1: return a.setMoon(x[0], x[1]);
      case 2: return a.setNodes(x[0], x[1]);
      case 3: return a.leap(x[0]);
      case 4: return a.day(x[0], x[1], x[2]);
      case 5: return a.date(x[0], x[1]);
      case 6: return a.line(x[0]);
      case 7: return a.moon(x[0], x[1] == 1);
      case 8: return a.eclipses(x[0], x[1] == 1);
      case 9: return a.next(x[0]);
      case 10: return a.observe(x[0], x[1] == 1);
      case 11: return a.addFeast(x[0], x[1], x[2], x[3], x[4]);
      case 12: return a.feast(x[0], x[1]);
      case 13: return a.clashes(x[0]);
      case 14: return a.again(x[0], x[1]);
      case 15: return a.print(x[0]);
      case 16: return a.reprint(x[0]);
      case 17: return a.sheet(x[0], x[1]);
      case 18: return a.printed(x[0], x[1]);
      case 19: return a.count(x[0]);
      case 20: return a.cycle(x[0]);
      case 21: return a.mean();
      default: return a.digest();
    }
  }

  private static Object callModel(Model m, int kind, int[] x) {
    switch (kind) {
      case 0: return m.setLeaps(x[0], x[1]);
      case 1: return m.setMoon(x[0], x[1]);
      case 2: return m.setNodes(x[0], x[1]);
      case 3: return m.leap(x[0]);
      case 4: return m.day(x[0], x[1], x[2]);
      case 5: return m.date(x[0], x[1]);
      case 6: return m.line(x[0]);
      case 7: return m.moon(x[0], x[1] == 1);
      case 8: return m.eclipses(x[0], x[1] == 1);
      case 9: return m.next(x[0]);
      case 10: return m.observe(x[0], x[1] == 1);
      case 11: return m.addFeast(x[0], x[1], x[2], x[3], x[4]);
      case 12: return m.feast(x[0], x[1]);
      case 13: return m.clashes(x[0]);
      case 14: return m.again(x[0], x[1]);
      case 15: return m.print(x[0]);
      case 16: return m.reprint(x[0]);
      case 17: return m.sheet(x[0], x[1]);
      case 18: return m.printed(x[0], x[1]);
      case 19: return m.count(x[0]);
      case 20: return m.cycle(x[0]);
      case 21: return m.mean();
      default: return m.digest();
    }
  }

  /** The document, said with tables of every day. */
  private static final class Model {
    int cycle = 4;
    int leaps = 1;
    int length = 29531;
    int first = 0;
    int period = 173310;
    int node = 0;
    int observed = 0;
    int corrected = 0;
    final List<int[]> feasts = new ArrayList<>();
    final List<int[]> sheets = new ArrayList<>();

    int[] yearBegins;
    int[][] dates;
    boolean[] newMoons;
    boolean[] fullMoons;
    boolean[] sunEclipses;
    boolean[] moonEclipses;

    void makeDates() {
      if (yearBegins != null) {
        return;
      }
      yearBegins = new int[1001];
      dates = new int[366001][];
      int day = 0;
      for (int year = 0; year < 1000; year++) {
        yearBegins[year] = day;
        for (int month = 0; month < 12; month++) {
          int days = month % 2 == 0 ? 30 : month < 11 ? 31 : isLeap(year) ? 31 : 30;
          for (int i = 0; i < days; i++) {
            dates[day++] = new int[] {year, month, i};
          }
        }
      }
      yearBegins[1000] = day;
    }

    void makeMoons() {
      if (newMoons != null) {
        return;
      }
      newMoons = new boolean[LAST_DAY];
      fullMoons = new boolean[LAST_DAY];
      sunEclipses = new boolean[LAST_DAY];
      moonEclipses = new boolean[LAST_DAY];
      List<Long> nodes = new ArrayList<>();
      for (long t = node; t < 1000L * LAST_DAY + 300000; t += period) {
        nodes.add(t);
      }
      int at = 0;
      for (long k = 0; first + k * length < 1000L * LAST_DAY; k++) {
        long dark = first + k * length;
        long full = dark + length / 2;
        while (at > 0 && nodes.get(at) > dark - 100000) {
          at--;
        }
        while (at + 1 < nodes.size() && nodes.get(at + 1) < dark - 100000) {
          at++;
        }
        newMoons[(int) (dark / 1000)] = true;
        sunEclipses[(int) (dark / 1000)] = anyNear(nodes, at, dark, 15000);
        if (full < 1000L * LAST_DAY) {
          fullMoons[(int) (full / 1000)] = true;
          moonEclipses[(int) (full / 1000)] = anyNear(nodes, at, full, 11000);
        }
      }
    }

    boolean anyNear(List<Long> nodes, int from, long time, long most) {
      for (int i = from; i < nodes.size() && nodes.get(i) <= time + 400000; i++) {
        if (Math.abs(nodes.get(i) - time) <= most) {
          return true;
        }
      }
      return false;
    }

    boolean isLeap(int year) {
      return (year * leaps) % cycle < leaps;
    }

    void needYear(int year) {
      if (year < 0 || year > 999) {
        throw new IllegalArgumentException();
      }
    }

    void needDay(int day) {
      makeDates();
      if (day < 0 || day >= yearBegins[1000]) {
        throw new IllegalArgumentException();
      }
    }

    void needFeast(int feast) {
      if (feast < 0 || feast >= feasts.size()) {
        throw new IndexOutOfBoundsException();
      }
    }

    void needSheet(int sheet) {
      if (sheet < 0 || sheet >= sheets.size()) {
        throw new IndexOutOfBoundsException();
      }
    }

    int setLeaps(int c, int l) {
      if (c < 1 || c > 400 || l < 0 || l > c) {
        throw new IllegalArgumentException();
      }
      int before = cycle * 1000 + leaps;
      cycle = c;
      leaps = l;
      yearBegins = null;
      return before;
    }

    int setMoon(int l, int f) {
      if (l < 20000 || l > 40000 || f < 0 || f > 39999) {
        throw new IllegalArgumentException();
      }
      int before = length;
      length = l;
      first = f;
      newMoons = null;
      return before;
    }

    int setNodes(int p, int n) {
      if (p < 100000 || p > 300000 || n < 0 || n > 299999) {
        throw new IllegalArgumentException();
      }
      int before = period;
      period = p;
      node = n;
      newMoons = null;
      return before;
    }

    boolean leap(int year) {
      needYear(year);
      return isLeap(year);
    }

    int day(int year, int month, int day) {
      needYear(year);
      makeDates();
      for (int i = yearBegins[year]; i < yearBegins[year + 1]; i++) {
        if (dates[i][1] == month && dates[i][2] == day) {
          return i;
        }
      }
      throw new IllegalArgumentException();
    }

    int date(int day, int what) {
      needDay(day);
      if (what < 0 || what > 4) {
        throw new IndexOutOfBoundsException();
      }
      if (what < 3) {
        return dates[day][what];
      }
      if (what == 3) {
        return day % 7;
      }
      makeMoons();
      for (int ago = 0; ago <= day; ago++) {
        if (newMoons[day - ago]) {
          return ago;
        }
      }
      return -1;
    }

    int line(int day) {
      needDay(day);
      return (dates[day][0] + "-" + dates[day][1] + "-" + dates[day][2]).hashCode();
    }

    long moon(int k, boolean isFull) {
      if (k < 0 || k > 10000) {
        throw new IllegalArgumentException();
      }
      return ((long) first + (long) k * length + (isFull ? length / 2 : 0)) / 1000;
    }

    int eclipses(int year, boolean ofSun) {
      needYear(year);
      makeDates();
      makeMoons();
      int found = 0;
      for (int i = yearBegins[year]; i < yearBegins[year + 1]; i++) {
        if ((ofSun ? sunEclipses : moonEclipses)[i]) {
          found++;
        }
      }
      return found;
    }

    int next(int day) {
      needDay(day);
      makeMoons();
      for (int i = day; i <= day + 2999; i++) {
        if (sunEclipses[i] || moonEclipses[i]) {
          return i;
        }
      }
      return -1;
    }

    long observe(int day, boolean isFull) {
      if (day < 0 || day > 99999) {
        throw new IllegalArgumentException();
      }
      long meant = 0;
      long reckoned = 0;
      for (long k = 0; k < 5200; k++) {
        long falls = (first + k * length + (isFull ? length / 2 : 0)) / 1000;
        if (k == 0 || Math.abs(falls - day) < Math.abs(reckoned - day)) {
          meant = k;
          reckoned = falls;
        }
      }
      observed++;
      if (reckoned != day && (isFull || meant >= 1)) {
        long found = isFull
            ? 2 * (1000L * day + 500 - first) / (2 * meant + 1)
            : (1000L * day + 500 - first) / meant;
        length = (int) (found < 20000 ? 20000 : found > 40000 ? 40000 : found);
        corrected++;
        newMoons = null;
      }
      return day - reckoned;
    }

    int addFeast(int month, int day, int moons, int weekday, int offset) {
      if (month < 0 || month > 11 || day < 0 || day > 29 || moons < 0 || moons > 3 || weekday < -1
          || weekday > 6 || offset < -60 || offset > 60) {
        throw new IllegalArgumentException();
      }
      if (feasts.size() == 8) {
        throw new IllegalStateException();
      }
      feasts.add(new int[] {month, day, moons, weekday, offset});
      return feasts.size() - 1;
    }

    int feast(int feast, int year) {
      needFeast(feast);
      needYear(year);
      makeMoons();
      int[] told = feasts.get(feast);
      int day = day(year, told[0], told[1]);
      if (told[2] > 0) {
        int seen = fullMoons[day] ? 1 : 0;
        while (seen < told[2]) {
          day++;
          if (fullMoons[day]) {
            seen++;
          }
        }
      }
      while (told[3] >= 0 && day % 7 != told[3]) {
        day++;
      }
      return day + told[4];
    }

    int clashes(int year) {
      needYear(year);
      int pairs = 0;
      for (int i = 0; i < feasts.size(); i++) {
        for (int j = i + 1; j < feasts.size(); j++) {
          if (feast(i, year) == feast(j, year)) {
            pairs++;
          }
        }
      }
      return pairs;
    }

    int again(int feast, int year) {
      needFeast(feast);
      needYear(year);
      makeDates();
      for (int years = 1; years <= 100; years++) {
        if (year + years <= 999 && feast(feast, year + years) - yearBegins[year + years]
            == feast(feast, year) - yearBegins[year]) {
          return year + years;
        }
      }
      return -1;
    }

    int[] sheetNow(int year, int held) {
      int[] row = new int[2 + held];
      row[0] = year;
      row[1] = eclipses(year, true) + eclipses(year, false);
      for (int i = 0; i < held; i++) {
        row[2 + i] = feast(i, year);
      }
      return row;
    }

    int print(int year) {
      needYear(year);
      if (sheets.size() == 10) {
        throw new IllegalStateException();
      }
      sheets.add(sheetNow(year, feasts.size()));
      return sheets.size() - 1;
    }

    int reprint(int sheet) {
      needSheet(sheet);
      int[] old = sheets.get(sheet);
      int[] anew = sheetNow(old[0], feasts.size());
      sheets.set(sheet, anew);
      int changed = 0;
      for (int i = 2; i < old.length; i++) {
        if (old[i] != anew[i]) {
          changed++;
        }
      }
      return changed;
    }

    int sheet(int sheet, int what) {
      needSheet(sheet);
      if (what < 0 || what > 4) {
        throw new IndexOutOfBoundsException();
      }
      int[] old = sheets.get(sheet);
      int[] now = sheetNow(old[0], old.length - 2);
      int greatest = 0;
      for (int i = 2; i < old.length; i++) {
        greatest = Math.max(greatest, Math.abs(old[i] - now[i]));
      }
      return new int[] {old[0], old.length - 2, old[1], Arrays.equals(old, now) ? 0 : 1, greatest}[what];
    }

    int printed(int sheet, int feast) {
      needSheet(sheet);
      if (feast < 0 || feast >= sheets.get(sheet).length - 2) {
        throw new IndexOutOfBoundsException();
      }
      return sheets.get(sheet)[2 + feast];
    }

    int count(int what) {
      if (what < 0 || what > 10) {
        throw new IndexOutOfBoundsException();
      }
      int wrongOnes = 0;
      for (int i = 0; i < sheets.size(); i++) {
        wrongOnes += sheet(i, 3);
      }
      return new int[] {cycle, leaps, length, first, period, node, feasts.size(), sheets.size(), wrongOnes,
          observed, corrected}[what];
    }

    int cycle(int off) {
      if (off < 0 || off > 5000) {
        throw new IllegalArgumentException();
      }
      makeDates();
      for (int n = 1; n <= 400; n++) {
        long time = 1000L * yearBegins[n];
        long nearest = time;
        for (long t = 0; t <= time + 40000; t += length) {
          nearest = Math.min(nearest, Math.abs(time - t));
        }
        if (yearBegins[n] % 7 == 0 && nearest <= off) {
          return n;
        }
      }
      return -1;
    }

    double mean() {
      return 365 + (double) leaps / cycle;
    }

    long digest() {
      List<Long> told = new ArrayList<>();
      for (int what = 0; what <= 10; what++) {
        told.add((long) count(what));
      }
      for (int[] feast : feasts) {
        for (int x : feast) {
          told.add((long) x);
        }
      }
      for (int i = 0; i < sheets.size(); i++) {
        for (int what = 0; what <= 4; what++) {
          told.add((long) sheet(i, what));
        }
        for (int f = 0; f < sheets.get(i).length - 2; f++) {
          told.add((long) printed(i, f));
        }
      }
      long d = 827;
      for (long x : told) {
        d = d * 31 + x;
      }
      return d;
    }
  }
}

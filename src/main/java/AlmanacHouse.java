import java.util.ArrayList;

/**
 * Almanac makers: years with leap days, moons, nodes, feasts that move, and sheets printed for years.
 *
 * <p>Days and times are int throughout: no day that a call can reach lies behind 400,059, that of the
 * latest full moon 10000, and so no time behind 400,060,000 thousandths.
 *
 * <p>The settings are checked where they are set; the tests of divisors and indices further in only
 * make it visible on the spot that nothing there can throw.
 */
public final class AlmanacHouse {
  private static final int YEARS = 1000;
  private static final int MONTHS = 12;
  private static final int WEEK = 7;
  private static final int DAY = 1000;
  private static final int LEAST_LENGTH = 20000;
  private static final int MOST_LENGTH = 40000;
  private static final int SUN_REACH = 15000;
  private static final int MOON_REACH = 11000;
  private static final int SEARCHED_DAYS = 3000;
  private static final int MOST_FEASTS = 8;
  private static final int MOST_SHEETS = 10;
  private static final int COUNTS = 11;
  private static final int SHEET_FACTS = 5;

  private final Years years;
  private final Moons moons;
  private final Nodes nodes;
  private final ArrayList<Feast> feasts;
  private final ArrayList<Sheet> sheets;
  private int observations;
  private int corrections;

  public AlmanacHouse() {
    years = new Years();
    moons = new Moons();
    nodes = new Nodes();
    feasts = new ArrayList<>();
    sheets = new ArrayList<>();
  }

  // ---- lengths

  public int setLeaps(int cycle, int leaps) throws IllegalArgumentException {
    if (cycle < 1 || cycle > 400 || leaps < 0 || leaps > cycle) {
      throw new IllegalArgumentException("no such cycle of leap years");
    }
    int before = 1000 * years.cycle + years.leaps;
    years.cycle = cycle;
    years.leaps = leaps;
    return before;
  }

  public int setMoon(int length, int first) throws IllegalArgumentException {
    if (length < LEAST_LENGTH || length > MOST_LENGTH || first < 0 || first > 39999) {
      throw new IllegalArgumentException("no such moons");
    }
    int before = moons.length;
    moons.length = length;
    moons.first = first;
    return before;
  }

  public int setNodes(int period, int node) throws IllegalArgumentException {
    if (period < 100000 || period > 300000 || node < 0 || node > 299999) {
      throw new IllegalArgumentException("no such nodes");
    }
    int before = nodes.period;
    nodes.period = period;
    nodes.node = node;
    return before;
  }

  // ---- dates

  public boolean leap(int year) throws IllegalArgumentException {
    if (!isYear(year)) {
      throw new IllegalArgumentException("no such year");
    }
    return years.hasLeapDay(year);
  }

  public int day(int year, int month, int day) throws IllegalArgumentException {
    if (!isYear(year) || month < 0 || month >= MONTHS) {
      throw new IllegalArgumentException("no such month");
    }
    if (day < 0 || day >= years.daysOfMonth(year, month)) {
      throw new IllegalArgumentException("no such day");
    }
    return years.firstDay(year) + inYear(month, day);
  }

  public int date(int day, int what) throws IllegalArgumentException, IndexOutOfBoundsException {
    if (!isDay(day)) {
      throw new IllegalArgumentException("no such day");
    }
    switch (what) {
      case 0:
        return years.yearOf(day);
      case 1:
        return years.monthOf(day);
      case 2:
        return years.dayOfMonth(day);
      case 3:
        return day % WEEK;
      case 4:
        return daysSinceNewMoon(day);
      default:
        throw new IndexOutOfBoundsException("dates tell 0 to 4");
    }
  }

  public int line(int day) throws IllegalArgumentException {
    if (!isDay(day)) {
      throw new IllegalArgumentException("no such day");
    }
    int sum = withNumber(0, years.yearOf(day));
    sum = withNumber(withSign(sum, '-'), years.monthOf(day));
    return withNumber(withSign(sum, '-'), years.dayOfMonth(day));
  }

  // ---- moons and eclipses

  public int moon(int k, boolean isFull) throws IllegalArgumentException {
    if (k < 0 || k > 10000) {
      throw new IllegalArgumentException("no such moon");
    }
    return moons.timeOf(k, isFull) / DAY;
  }

  public int eclipses(int year, boolean ofSun) throws IllegalArgumentException {
    if (!isYear(year)) {
      throw new IllegalArgumentException("no such year");
    }
    return countEclipses(year, !ofSun);
  }

  public int next(int day) throws IllegalArgumentException {
    if (!isDay(day)) {
      throw new IllegalArgumentException("no such day");
    }
    int ofSun = firstEclipse(day, false);
    int ofMoon = firstEclipse(day, true);
    if (ofSun < 0 || ofMoon < 0) {
      return Math.max(ofSun, ofMoon);
    }
    return Math.min(ofSun, ofMoon);
  }

  public int observe(int day, boolean isFull) throws IllegalArgumentException {
    if (day < 0 || day > 99999) {
      throw new IllegalArgumentException("no such day");
    }
    int k = moons.nearestTo(day, isFull);
    int late = day - moons.timeOf(k, isFull) / DAY;
    observations++;
    if (late != 0 && moons.correct(k, isFull, day)) {
      corrections++;
    }
    return late;
  }

  // ---- feasts

  public int addFeast(int month, int day, int moons, int weekday, int offset)
      throws IllegalArgumentException, IllegalStateException {
    if (month < 0 || month >= MONTHS || day < 0 || day > 29 || moons < 0 || moons > 3) {
      throw new IllegalArgumentException("no such month, day or number of moons");
    }
    if (weekday < -1 || weekday >= WEEK || offset < -60 || offset > 60) {
      throw new IllegalArgumentException("no such weekday or offset");
    }
    if (feasts.size() >= MOST_FEASTS) {
      throw new IllegalStateException("there are 8 feasts");
    }
    feasts.add(new Feast(month, day, moons, weekday, offset));
    return feasts.size() - 1;
  }

  public int feast(int feast, int year)
      throws IndexOutOfBoundsException, IllegalArgumentException {
    if (feast < 0 || feast >= feasts.size()) {
      throw new IndexOutOfBoundsException("no such feast");
    }
    if (!isYear(year)) {
      throw new IllegalArgumentException("no such year");
    }
    return feastDay(feasts.get(feast), year);
  }

  public int clashes(int year) throws IllegalArgumentException {
    if (!isYear(year)) {
      throw new IllegalArgumentException("no such year");
    }
    int pairs = 0;
    for (int i = 0; i < feasts.size(); i++) {
      pairs += earlierOnTheSameDay(i, feastDay(feasts.get(i), year), year);
    }
    return pairs;
  }

  public int again(int feast, int year)
      throws IndexOutOfBoundsException, IllegalArgumentException {
    if (feast < 0 || feast >= feasts.size()) {
      throw new IndexOutOfBoundsException("no such feast");
    }
    if (!isYear(year)) {
      throw new IllegalArgumentException("no such year");
    }
    Feast told = feasts.get(feast);
    int behind = feastDay(told, year) - years.firstDay(year);
    for (int later = year + 1; later <= year + 100 && later < YEARS; later++) {
      if (feastDay(told, later) - years.firstDay(later) == behind) {
        return later;
      }
    }
    return -1;
  }

  // ---- sheets

  public int print(int year) throws IllegalArgumentException, IllegalStateException {
    if (!isYear(year)) {
      throw new IllegalArgumentException("no such year");
    }
    if (sheets.size() >= MOST_SHEETS) {
      throw new IllegalStateException("there are 10 sheets");
    }
    Sheet printed = new Sheet(year);
    fill(printed);
    sheets.add(printed);
    return sheets.size() - 1;
  }

  public int reprint(int sheet) throws IndexOutOfBoundsException {
    if (!isSheet(sheet)) {
      throw new IndexOutOfBoundsException("no such sheet");
    }
    Sheet printed = sheets.get(sheet);
    int changed = changedDays(printed);
    fill(printed);
    return changed;
  }

  public int sheet(int sheet, int what) throws IndexOutOfBoundsException {
    if (!isSheet(sheet)) {
      throw new IndexOutOfBoundsException("no such sheet");
    }
    Sheet printed = sheets.get(sheet);
    switch (what) {
      case 0:
        return printed.year;
      case 1:
        return printed.held;
      case 2:
        return printed.eclipses;
      case 3:
        return isWrong(printed) ? 1 : 0;
      case 4:
        return greatestShift(printed);
      default:
        throw new IndexOutOfBoundsException("sheets tell 0 to 4");
    }
  }

  public int printed(int sheet, int feast) throws IndexOutOfBoundsException {
    if (!isSheet(sheet)) {
      throw new IndexOutOfBoundsException("no such sheet");
    }
    Sheet printed = sheets.get(sheet);
    if (feast < 0 || feast >= printed.held) {
      throw new IndexOutOfBoundsException("no such feast on the sheet");
    }
    return printed.dayAt(feast);
  }

  public int count(int what) throws IndexOutOfBoundsException {
    switch (what) {
      case 0:
        return years.cycle;
      case 1:
        return years.leaps;
      case 2:
        return moons.length;
      case 3:
        return moons.first;
      case 4:
        return nodes.period;
      case 5:
        return nodes.node;
      case 6:
        return feasts.size();
      case 7:
        return sheets.size();
      case 8:
        return wrongSheets();
      case 9:
        return observations;
      case 10:
        return corrections;
      default:
        throw new IndexOutOfBoundsException("counts tell 0 to 10");
    }
  }

  public int cycle(int off) throws IllegalArgumentException {
    if (off < 0 || off > 5000) {
      throw new IllegalArgumentException("off is 0 to 5000");
    }
    for (int n = 1; n <= 400; n++) {
      int days = years.firstDay(n);
      if (days % WEEK == 0 && moons.isNearWholeLengths(days * DAY, off)) {
        return n;
      }
    }
    return -1;
  }

  public double mean() {
    return years.cycle < 1 ? 365.0 : 365.0 + (double) years.leaps / (double) years.cycle;
  }

  public long digest() {
    long d = 827L;
    for (int what = 0; what < COUNTS; what++) {
      d = d * 31L + count(what);
    }
    for (int i = 0; i < feasts.size(); i++) {
      d = feasts.get(i).addTo(d);
    }
    for (int i = 0; i < sheets.size(); i++) {
      for (int what = 0; what < SHEET_FACTS; what++) {
        d = d * 31L + sheet(i, what);
      }
      d = sheets.get(i).addDaysTo(d);
    }
    return d;
  }

  // ---- what the calls share

  private static boolean isYear(int year) {
    return year >= 0 && year < YEARS;
  }

  private boolean isDay(int day) {
    return day >= 0 && day < years.firstDay(YEARS);
  }

  private boolean isSheet(int sheet) {
    return sheet >= 0 && sheet < sheets.size();
  }

  /** The months before an even one are pairs of 30 and 31 days. */
  private static int inYear(int month, int day) {
    return 30 * month + month / 2 + day;
  }

  private static int withSign(int sum, char sign) {
    return sum * 31 + sign;
  }

  /** The numbers of a date have three digits at most. */
  private static int withNumber(int sum, int number) {
    int longer = sum;
    if (number >= 100) {
      longer = withSign(longer, (char) ('0' + number / 100));
    }
    if (number >= 10) {
      longer = withSign(longer, (char) ('0' + number / 10 % 10));
    }
    return withSign(longer, (char) ('0' + number % 10));
  }

  private int daysSinceNewMoon(int day) {
    int k = moons.firstFrom(DAY * (day + 1), false) - 1;
    return k < 0 ? -1 : day - moons.timeOf(k, false) / DAY;
  }

  private int countEclipses(int year, boolean isFull) {
    int end = moons.firstFrom(DAY * years.firstDay(year + 1), isFull);
    int eclipses = 0;
    for (int k = moons.firstFrom(DAY * years.firstDay(year), isFull); k < end; k++) {
      if (nodes.isNear(moons.timeOf(k, isFull), reach(isFull))) {
        eclipses++;
      }
    }
    return eclipses;
  }

  private int firstEclipse(int day, boolean isFull) {
    int end = moons.firstFrom(DAY * (day + SEARCHED_DAYS), isFull);
    for (int k = moons.firstFrom(DAY * day, isFull); k < end; k++) {
      int time = moons.timeOf(k, isFull);
      if (nodes.isNear(time, reach(isFull))) {
        return time / DAY;
      }
    }
    return -1;
  }

  private static int reach(boolean isFull) {
    return isFull ? MOON_REACH : SUN_REACH;
  }

  private int feastDay(Feast feast, int year) {
    int day = years.firstDay(year) + inYear(feast.month, feast.day);
    if (feast.moons >= 1) {
      int k = moons.firstFrom(DAY * day, true) + feast.moons - 1;
      day = moons.timeOf(k, true) / DAY;
    }
    if (feast.weekday >= 0) {
      day += (feast.weekday - day % WEEK + WEEK) % WEEK;
    }
    return day + feast.offset;
  }

  private int earlierOnTheSameDay(int feast, int day, int year) {
    int found = 0;
    for (int i = 0; i < feast && i < feasts.size(); i++) {
      if (feastDay(feasts.get(i), year) == day) {
        found++;
      }
    }
    return found;
  }

  private void fill(Sheet sheet) {
    sheet.held = 0;
    for (int i = 0; i < feasts.size(); i++) {
      sheet.addDay(feastDay(feasts.get(i), sheet.year));
    }
    sheet.eclipses = countEclipses(sheet.year, false) + countEclipses(sheet.year, true);
  }

  private int changedDays(Sheet sheet) {
    int changed = 0;
    for (int i = 0; i < sheet.held && i < feasts.size(); i++) {
      if (feastDay(feasts.get(i), sheet.year) != sheet.dayAt(i)) {
        changed++;
      }
    }
    return changed;
  }

  private int greatestShift(Sheet sheet) {
    int greatest = 0;
    for (int i = 0; i < sheet.held && i < feasts.size(); i++) {
      int shift = feastDay(feasts.get(i), sheet.year) - sheet.dayAt(i);
      greatest = Math.max(greatest, Math.abs(shift));
    }
    return greatest;
  }

  private boolean isWrong(Sheet sheet) {
    int now = countEclipses(sheet.year, false) + countEclipses(sheet.year, true);
    return now != sheet.eclipses || changedDays(sheet) > 0;
  }

  private int wrongSheets() {
    int wrong = 0;
    for (int i = 0; i < sheets.size(); i++) {
      if (isWrong(sheets.get(i))) {
        wrong++;
      }
    }
    return wrong;
  }

  /** The calendar: which years are leap years, and which day has which date. */
  private static final class Years {
    int cycle = 4;
    int leaps = 1;

    boolean hasLeapDay(int year) {
      return cycle > 0 && year * leaps % cycle < leaps;
    }

    /**
     * A year is a leap year where year * leaps / cycle is more than for the year before, and so their
     * number needs no walk through the years: only the year 0, a leap year too, is added.
     */
    int firstDay(int year) {
      if (year < 1 || leaps < 1 || cycle < 1) {
        return 365 * year;
      }
      return 365 * year + (year - 1) * leaps / cycle + 1;
    }

    int daysOfMonth(int year, int month) {
      if (month == MONTHS - 1) {
        return hasLeapDay(year) ? 31 : 30;
      }
      return 30 + month % 2;
    }

    /** No year is longer than 366 days, so the walk starts at the right year or a few before it. */
    int yearOf(int day) {
      int year = day / 366;
      while (year < YEARS - 1 && firstDay(year + 1) <= day) {
        year++;
      }
      return year;
    }

    /** Two months have 61 days, the first of them 30. */
    int monthOf(int day) {
      int inYear = day - firstDay(yearOf(day));
      return inYear / 61 * 2 + (inYear % 61 < 30 ? 0 : 1);
    }

    int dayOfMonth(int day) {
      int inPair = (day - firstDay(yearOf(day))) % 61;
      return inPair < 30 ? inPair : inPair - 30;
    }
  }

  /** The new and full moons by their numbers. */
  private static final class Moons {
    int length = 29531;
    int first = 0;

    int timeOf(int k, boolean isFull) {
      return first + k * length + (isFull ? length / 2 : 0);
    }

    /** The number of the first moon of the kind at this time or later. */
    int firstFrom(int time, boolean isFull) {
      int behind = time - first - (isFull ? length / 2 : 0);
      if (behind <= 0 || length < 1) {
        return 0;
      }
      return (behind + length - 1) / length;
    }

    int nearestTo(int day, boolean isFull) {
      int later = firstFrom(DAY * day, isFull);
      if (later == 0) {
        return 0;
      }
      int ahead = timeOf(later, isFull) / DAY - day;
      int back = day - timeOf(later - 1, isFull) / DAY;
      return back <= ahead ? later - 1 : later;
    }

    /**
     * Tells whether the moon corrects the length. Counted in half lengths both kinds have one formula,
     * and the new moon 0, which corrects nothing, is the one with none.
     */
    boolean correct(int k, boolean isFull, int day) {
      int halves = 2 * k + (isFull ? 1 : 0);
      if (halves < 1) {
        return false;
      }
      int found = 2 * (DAY * day + 500 - first) / halves;
      length = Math.max(LEAST_LENGTH, Math.min(MOST_LENGTH, found));
      return true;
    }

    boolean isNearWholeLengths(int time, int off) {
      if (length < 1) {
        return false;
      }
      int behind = time % length;
      return behind <= off || length - behind <= off;
    }
  }

  /** The nodes; there is none before the first one. */
  private static final class Nodes {
    int period = 173310;
    int node = 0;

    boolean isNear(int time, int reach) {
      if (time <= node || period < 1) {
        return node - time <= reach;
      }
      int behind = (time - node) % period;
      return behind <= reach || period - behind <= reach;
    }
  }

  /** A feast as it was told. */
  private static final class Feast {
    final int month;
    final int day;
    final int moons;
    final int weekday;
    final int offset;

    Feast(int month, int day, int moons, int weekday, int offset) {
      this.month = month;
      this.day = day;
      this.moons = moons;
      this.weekday = weekday;
      this.offset = offset;
    }

    long addTo(long sum) {
      long longer = sum * 31L + month;
      longer = longer * 31L + day;
      longer = longer * 31L + moons;
      longer = longer * 31L + weekday;
      return longer * 31L + offset;
    }
  }

  /** A sheet as it was printed; its row of days is used again when it is printed anew. */
  private static final class Sheet {
    final int year;
    final int[] days = new int[MOST_FEASTS];
    int held;
    int eclipses;

    Sheet(int year) {
      this.year = year;
    }

    void addDay(int day) {
      if (held >= 0 && held < days.length) {
        days[held] = day;
        held++;
      }
    }

    int dayAt(int feast) {
      return feast < 0 || feast >= days.length ? 0 : days[feast];
    }

    long addDaysTo(long sum) {
      long longer = sum;
      for (int i = 0; i < held && i < days.length; i++) {
        longer = longer * 31L + days[i];
      }
      return longer;
    }
  }
}

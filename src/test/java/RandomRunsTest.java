import java.util.ArrayList;
import java.util.Comparator;
import java.util.List;
import java.util.Random;

/** Random runs, in which each answer must agree with what other calls of the same object tell. */
public final class RandomRunsTest {
  private static final int RUNS = 150;
  private static final int ACTS = 120;

  private final Random random;
  private final QuotaLicences x;
  private final String name;
  /** The day on which each licence ended, watched from outside. */
  private final int[] endedOn = new int[60];

  private RandomRunsTest(int seed) {
    random = new Random(seed);
    name = "run " + seed;
    x = Check.of(randomScheme());
  }

  public static void main(String[] args) {
    for (int seed = 0; seed < RUNS; seed++) {
      new RandomRunsTest(seed).run();
    }
    for (int seed = 0; seed < RUNS; seed++) {
      wildRun(new Random(1000 + seed));
    }
    Check.close("RandomRunsTest");
  }

  private void due(String call, long got, long want) {
    Check.due(name + ", day " + x.count(4) + ": " + call, got, want);
  }

  private void dueLook(String call, String want) {
    Check.dueText(name + ", day " + x.count(4) + ": " + call, Look.ofState(x), want);
  }

  private int below(int n) {
    return random.nextInt(n);
  }

  private String randomScheme() {
    StringBuilder text = new StringBuilder();
    text.append("scheme ").append(below(101)).append(' ').append(1 + below(300)).append(' ').append(1 + below(90));
    text.append(' ').append(below(101)).append(' ').append(below(2001)).append(' ').append(1 + below(3));
    int origins = 1 + below(4);
    int importers = 1 + below(8);
    for (int i = 0; i < origins; i++) {
      text.append(";origin ").append(below(2000));
    }
    for (int i = 0; i < importers; i++) {
      text.append(";importer");
    }
    for (int i = 0; i < 8; i++) {
      String past = ";past " + below(importers) + ' ' + below(origins) + ' ' + below(3) * below(500) + ' '
          + below(3) * below(500) + ' ' + below(3) * below(500);
      if (text.length() + past.length() <= 400) {
        text.append(past);
      }
    }
    return text.toString();
  }

  private void run() {
    for (int i = 0; i < ACTS; i++) {
      String before = Look.ofState(x);
      int acts = x.count(5);
      boolean done = act();
      due("acts that can be undone", x.count(5), done ? Math.min(acts + 1, 10) : acts);
      if (!done) {
        dueLook("a refused act changes nothing", before);
      } else if (below(4) == 0) {
        checkUndo(before);
      }
      watchEnds();
      checkSums();
      checkLicences();
      checkImporters();
      if (below(3) == 0) {
        checkAhead();
      }
    }
  }

  // ---- acts ----

  private int anImporter() {
    return below(x.count(1));
  }

  private int anOrigin() {
    return below(x.count(0));
  }

  private int aLicence() {
    return below(x.count(2) + 1);
  }

  private int anAmount() {
    return below(20) == 0 ? below(100002) - 1 : 1 + below(150);
  }

  private boolean act() {
    switch (below(14)) {
      case 0: case 1: case 2: return checkedApply();
      case 3: case 4: case 5: return x.use(aLicence(), anAmount()) >= 0;
      case 6: return x.giveBack(aLicence()) >= 0;
      case 7: return x.hand(aLicence(), anImporter(), anAmount()) >= 0;
      case 8: return x.merge(aLicence(), aLicence()) >= 0;
      case 9: return x.lend(anImporter(), anImporter(), anOrigin(), anAmount()) >= 0;
      case 10: return x.excess(anImporter(), anOrigin(), anAmount(), 1 + below(9999)) >= 0;
      case 11: case 12: return x.days(below(3) == 0 ? 1 + below(90) : 1 + below(12)) >= 0;
      default: return below(2) == 0 ? x.widen(anOrigin(), below(3000)) >= 0 : x.set(below(6), 1 + below(100)) >= 0;
    }
  }

  private boolean checkedApply() {
    int importer = anImporter();
    int origin = anOrigin();
    int n = anAmount();
    int would = x.would(importer, origin, n);
    int pool = x.origin(origin, 3);
    int left = x.share(importer, origin, 1);
    int number = x.apply(importer, origin, n);
    if (would < 0) {
      due("apply() as would()", number, would);
      return false;
    }
    due("granted as would()", x.licence(number, 2), would);
    int there = x.sort(importer, origin) == 1 ? left : pool;
    due("granted what is there", would, Math.min(n, there));
    due("pool and share are as much less", x.origin(origin, 3) + x.share(importer, origin, 1), pool + left - would);
    int day = x.count(4);
    due("last day", x.licence(number, 6), Math.min(day + x.told(2) - 1, day / 360 * 360 + 359));
    return true;
  }

  private void checkUndo(String before) {
    int open = x.keep(0);
    String after = Look.ofState(x);
    x.undo();
    dueLook("undone", before);
    due("back", x.back(0), open);
    dueLook("as it was kept", after);
  }

  private void watchEnds() {
    int day = x.count(4);
    for (int i = 0; i < x.count(2); i++) {
      if (x.licence(i, 5) == 0) {
        endedOn[i] = -1;
      } else if (endedOn[i] < 0) {
        endedOn[i] = x.licence(i, 5) == 3 ? x.licence(i, 6) : day;
      }
    }
    for (int i = x.count(2); i < 60; i++) {
      endedOn[i] = -1;
    }
  }

  // ---- what must agree ----

  private void checkSums() {
    long amounts = 0;
    long open = 0;
    for (int i = 0; i < x.count(2); i++) {
      amounts += x.licence(i, 2);
      open += x.licence(i, 7);
    }
    due("granted is what licences are of", x.total(0), amounts);
    due("granted is used, back, lapsed or open", x.total(1) + x.total(2) + x.total(3) + open, amounts);
    due("window()", x.window(), 1);
    for (int origin = 0; origin < x.count(0); origin++) {
      int left = x.origin(origin, 3);
      for (int i = 0; i < x.count(1); i++) {
        left += x.share(i, origin, 1);
      }
      boolean lastPeriod = x.count(4) % 360 >= 270;
      due("carry()", x.carry(origin), lastPeriod ? 0 : left);
      due("nothing is lost", left + taken(origin), x.origin(origin, 1) + x.origin(origin, 2) + x.origin(origin, 7));
      Check.isTrue("pool", x.origin(origin, 3) >= 0);
      due("stood()", x.stood(origin, x.count(4) / 2), stood(origin, x.count(4) / 2));
    }
  }

  private int taken(int origin) {
    int sum = 0;
    for (int i = 0; i < x.count(2); i++) {
      if (x.licence(i, 1) == origin && x.licence(i, 3) / 90 == x.count(4) / 90) {
        sum += x.licence(i, 5) == 0 ? x.licence(i, 2) : x.licence(i, 4);
      }
    }
    return sum;
  }

  private int stood(int origin, int day) {
    if (day >= x.count(4)) {
      return -1;
    }
    int sum = 0;
    for (int i = 0; i < x.count(2); i++) {
      boolean ended = x.licence(i, 5) != 0 && endedOn[i] <= day;
      if (x.licence(i, 1) == origin && x.licence(i, 3) <= day && !ended) {
        sum += x.licence(i, 2);
      }
    }
    return sum;
  }

  private boolean lies(int licence) {
    return x.licence(licence, 4) * 100 < x.told(3) * x.licence(licence, 2);
  }

  private void checkLicences() {
    List<Integer> open = new ArrayList<>();
    List<Integer> lying = new ArrayList<>();
    for (int i = 0; i < x.count(2); i++) {
      if (x.licence(i, 5) == 0) {
        open.add(i);
        if (lies(i)) {
          lying.add(i);
        }
        Check.isTrue("open ones have something left", x.licence(i, 7) > 0);
        Check.isTrue("open ones have not lapsed", x.licence(i, 6) >= x.count(4));
      }
      due("root()", x.root(x.root(i, 0), 1), 0);
    }
    open.sort(Comparator.comparing((Integer i) -> x.licence(i, 6)).thenComparing(i -> i));
    due("next(-1)", x.next(-1), open.size());
    due("count(3)", x.count(3), open.size());
    for (int k = 0; k <= open.size(); k++) {
      due("next()", x.next(k), k < open.size() ? open.get(k) : -2);
    }
    due("risk(-1)", x.risk(-1), lying.size());
    for (int k = 0; k <= lying.size(); k++) {
      due("risk()", x.risk(k), k < lying.size() ? lying.get(k) : -2);
    }
  }

  private void checkImporters() {
    List<Integer> all = new ArrayList<>();
    for (int i = 0; i < x.count(1); i++) {
      all.add(i);
      checkHolds(i);
      for (int origin = 0; origin < x.count(0); origin++) {
        checkIdle(i, origin);
      }
      int n = anAmount();
      checkBest(i, n);
    }
    all.sort(Comparator.comparing((Integer i) -> -inYear(i)).thenComparing(i -> i));
    for (int k = 0; k < all.size(); k++) {
      due("order()", x.order(k), all.get(k));
    }
  }

  private int inYear(int importer) {
    int sum = 0;
    for (int month = 0; month < 12; month++) {
      sum += x.month(importer, month);
    }
    due("pace()", x.pace(importer), Float.floatToIntBits((float) sum / (float) (x.count(4) % 360 + 1)));
    return sum;
  }

  private void checkHolds(int importer) {
    int many = 0;
    int left = 0;
    int earliest = Integer.MAX_VALUE;
    int longest = -2;
    int owing = 0;
    for (int i = 0; i < x.count(2); i++) {
      if (x.licence(i, 5) == 0 && x.licence(i, 0) == importer) {
        many++;
        left += x.licence(i, 7);
        earliest = Math.min(earliest, x.licence(i, 6));
        longest = Math.max(longest, x.count(4) - x.licence(i, 3) + 1);
        for (int used = x.licence(i, 4); used * 100 < x.told(3) * x.licence(i, 2); used++) {
          owing++;
        }
      }
    }
    due("holds(0)", x.holds(importer, 0), many);
    due("holds(1)", x.holds(importer, 1), left);
    due("holds(2)", x.holds(importer, 2), many == 0 ? -2 : earliest);
    due("holds(3)", x.holds(importer, 3), longest);
    due("owing()", x.owing(importer), owing);
  }

  private void checkIdle(int importer, int origin) {
    int last = -1;
    for (int i = 0; i < x.count(2); i++) {
      if (x.licence(i, 5) != 0 && x.licence(i, 0) == importer && x.licence(i, 1) == origin
          && (last < 0 || endedOn[i] >= endedOn[last])) {
        last = i;
      }
    }
    due("idle()", x.idle(importer, origin), last >= 0 && lies(last) ? 1 : 0);
  }

  private void checkBest(int importer, int n) {
    int which = -2;
    for (int origin = x.count(0) - 1; origin >= 0; origin--) {
      int would = x.would(importer, origin, n);
      if (would > 0 && (which < 0 || would >= x.would(importer, which, n))) {
        which = origin;
      }
    }
    boolean wrong = n < 1 || n > 99999;
    due("best(0)", x.best(importer, n, 0), wrong ? -1 : which);
    due("best(1)", x.best(importer, n, 1), wrong ? -1 : which < 0 ? -2 : x.would(importer, which, n));
  }

  /** What is told ahead must come true, on what is kept and brought back. */
  private void checkAhead() {
    x.keep(1);
    int n = 1 + below(90);
    int lapses = x.lapses(n);
    if (x.count(4) + n <= 3600) {
      due("lapses()", x.days(n), lapses);
      x.back(1);
    }
    checkRush();
    if (x.count(4) < 3000) {
      checkFuture();
    }
  }

  private void checkRush() {
    int origin = anOrigin();
    int n = 1 + below(150);
    int[] rush = new int[x.count(1)];
    for (int i = 0; i < rush.length; i++) {
      rush[i] = x.rush(i, origin, n);
    }
    for (int i = 0; i < rush.length; i++) {
      int number = x.apply(i, origin, n);
      due("rush()", rush[i], number < 0 ? 0 : x.licence(number, 2));
    }
    x.back(1);
  }

  private void checkFuture() {
    int importer = anImporter();
    int origin = anOrigin();
    int future = x.future(importer, origin);
    int[] past = {x.past(importer, origin, 3), x.past(importer, origin, 0), x.past(importer, origin, 1)};
    int carry = x.carry(origin);
    int toPeriod = 90 - x.count(4) % 90;
    boolean lapses = x.lapses(toPeriod) > 0;
    x.days(toPeriod);
    if (!lapses) {
      due("carried as carry()", x.origin(origin, 2), carry);
    }
    for (int i = 0; i < 4 && x.count(4) % 360 != 0; i++) {
      x.days(90);
    }
    due("share as future()", x.share(importer, origin, 0), future);
    for (int year = 0; year < 3; year++) {
      due("past", x.past(importer, origin, year), past[year]);
    }
    due("shareAt() of part", x.shareAt(importer, origin, x.told(0)), future);
    x.back(1);
  }

  // ---- any arguments in any state: nothing is thrown ----

  private static int wild(Random r) {
    int[] some = {-2147483648, -2, -1, 0, 1, 2, 3, 4, 5, 7, 8, 9, 59, 60, 61, 100, 360, 3600, 99999, 100000, 2147483647};
    return r.nextInt(3) == 0 ? r.nextInt() : r.nextInt(2) == 0 ? r.nextInt(4) : some[r.nextInt(some.length)];
  }

  private static void wildRun(Random r) {
    QuotaLicences x = new QuotaLicences();
    for (int i = 0; i < 600; i++) {
      if (r.nextInt(60) == 0) {
        Check.tell(x, new RandomRunsTest(r.nextInt()).randomScheme());
      }
      wildAct(x, r);
      wildAsk(x, r);
      wildPlan(x, r);
    }
    Check.isTrue("nothing is thrown", true);
  }

  private static void wildAct(QuotaLicences x, Random r) {
    switch (r.nextInt(19)) {
      case 0: x.feed(wild(r), wild(r), wild(r), wild(r), wild(r)); break;
      case 1: x.end(wild(r)); break;
      case 2: if (r.nextInt(30) == 0) { x.tell(); } break;
      case 3: case 4: case 5: x.apply(wild(r), wild(r), wild(r)); break;
      case 6: x.use(wild(r), wild(r)); break;
      case 7: x.giveBack(wild(r)); break;
      case 8: x.hand(wild(r), wild(r), wild(r)); break;
      case 9: x.merge(wild(r), wild(r)); break;
      case 10: x.lend(wild(r), wild(r), wild(r), wild(r)); break;
      case 11: x.excess(wild(r), wild(r), wild(r), wild(r)); break;
      case 12: x.days(wild(r)); break;
      case 13: x.widen(wild(r), wild(r)); break;
      case 14: x.set(wild(r), wild(r)); break;
      case 15: x.undo(); break;
      case 16: x.keep(wild(r)); break;
      case 17: x.back(wild(r)); break;
      default: x.row(wild(r), wild(r)); x.note(wild(r), wild(r), r.nextLong());
    }
  }

  private static void wildAsk(QuotaLicences x, Random r) {
    x.told(wild(r));
    x.origin(wild(r), wild(r));
    x.past(wild(r), wild(r), wild(r));
    x.sort(wild(r), wild(r));
    x.mean(wild(r), wild(r));
    x.share(wild(r), wild(r), wild(r));
    x.licence(wild(r), wild(r));
    x.month(wild(r), wild(r));
    x.rate(wild(r));
    x.idle(wild(r), wild(r));
    x.owed(wild(r));
    x.would(wild(r), wild(r), wild(r));
    x.lapses(wild(r));
    x.next(wild(r));
    x.best(wild(r), wild(r), wild(r));
    x.order(wild(r));
    x.focus(wild(r));
    x.carry(wild(r));
    x.window();
    x.shareAt(wild(r), wild(r), wild(r));
    x.speed(wild(r));
  }

  private static void wildPlan(QuotaLicences x, Random r) {
    x.fastest(wild(r));
    x.log(wild(r), wild(r), wild(r));
    x.risk(wild(r));
    x.lacks(wild(r), wild(r), wild(r));
    x.pace(wild(r));
    x.peak(wild(r), wild(r), wild(r));
    x.even(wild(r), wild(r));
    x.future(wild(r), wild(r));
    x.likely(wild(r));
    x.root(wild(r), wild(r));
    x.median(wild(r));
    x.rush(wild(r), wild(r), wild(r));
    x.stood(wild(r), wild(r));
    x.owing(wild(r));
    x.holds(wild(r), wild(r));
    x.total(wild(r));
    x.noted(wild(r));
    x.letter(wild(r));
    x.count(wild(r));
  }
}

import java.math.BigInteger;
import java.util.ArrayList;
import java.util.Collections;
import java.util.List;

/**
 * The document, read a second time and done in another way than in the class: it keeps what happened as lists and works
 * each answer out from them anew. What is asked ahead (would(), rush(), lapses(), future(), carry()) is done on a copy.
 */
final class Ledger {
  private static final int NONE = -1;
  private static final long NO_DOUBLE = Double.doubleToLongBits(-1.0);

  private final StringBuilder tape = new StringBuilder();
  private final List<World> before = new ArrayList<>();
  private final World[] shelves = new World[2];
  private World w = new World();
  private Object[] notes;
  private int notesSort;

  /** A licence; each use of it is {day, n}. */
  private static final class Lic {
    int who;
    int origin;
    int amount;
    int issued;
    int last;
    int stand;
    int ended = -1;
    int from = -1;
    List<int[]> uses = new ArrayList<>();

    Lic copy() {
      Lic c = new Lic();
      c.who = who;
      c.origin = origin;
      c.amount = amount;
      c.issued = issued;
      c.last = last;
      c.stand = stand;
      c.ended = ended;
      c.from = from;
      c.uses = new ArrayList<>(uses);
      return c;
    }

    boolean open() {
      return stand == 0;
    }

    int used() {
      return uses.stream().mapToInt(u -> u[1]).sum();
    }

    int left() {
      return open() ? amount - used() : 0;
    }

    void end(int how, int day) {
      stand = how;
      ended = day;
    }
  }

  /** All but the tape, the acts, the shelves and the notes. */
  private static final class World {
    /** PART, LOT, VALID, SURETY, DUTY, NEED; null without a scheme. */
    int[] terms;
    List<Integer> quotas = new ArrayList<>();
    int importers;
    /** {importer, origin, year 2, year 1, year 0}, the last one counts. */
    List<int[]> pasts = new ArrayList<>();
    int day;
    /** Of each period that began {part, need, quotas ..}. */
    List<int[]> starts = new ArrayList<>();
    List<Lic> lics = new ArrayList<>();
    /** {day, importer, origin, n}. */
    List<int[]> grants = new ArrayList<>();
    /** {day, importer, origin, n, 1 by a licence or 0}. */
    List<int[]> imports = new ArrayList<>();
    /** {day, origin, n, day of issue, 2 given back or 3 lapsed}. */
    List<int[]> pooled = new ArrayList<>();
    /** {day, from, to, origin, n}. */
    List<int[]> lends = new ArrayList<>();
    double[] owes = new double[8];

    World copy() {
      World c = new World();
      c.terms = terms == null ? null : terms.clone();
      c.quotas = new ArrayList<>(quotas);
      c.importers = importers;
      c.pasts = pasts;
      c.day = day;
      c.starts = new ArrayList<>(starts);
      for (Lic lic : lics) {
        c.lics.add(lic.copy());
      }
      c.grants = new ArrayList<>(grants);
      c.imports = new ArrayList<>(imports);
      c.pooled = new ArrayList<>(pooled);
      c.lends = new ArrayList<>(lends);
      c.owes = owes.clone();
      return c;
    }

    int period() {
      return day / 90;
    }

    int year() {
      return day / 360;
    }

    void begin() {
      int[] start = new int[2 + quotas.size()];
      start[0] = terms[0];
      start[1] = terms[5];
      for (int o = 0; o < quotas.size(); o++) {
        start[2 + o] = quotas.get(o);
      }
      starts.add(start);
    }

    int quota(int p, int o) {
      return starts.get(p)[2 + o];
    }

    /** In a year by its number; those ahead of day 0 are -1, -2, -3. */
    int imported(int who, int o, int year) {
      if (year < 0) {
        int n = 0;
        for (int[] past : pasts) {
          n = past[0] == who && past[1] == o ? past[5 + year] : n;
        }
        return n;
      }
      int sum = 0;
      for (int[] one : imports) {
        sum += one[0] / 360 == year && one[1] == who && one[2] == o ? one[3] : 0;
      }
      return sum;
    }

    int together(int p, int who, int o) {
      int year = p / 4;
      return imported(who, o, year - 1) + imported(who, o, year - 2) + imported(who, o, year - 3);
    }

    boolean traditional(int p, int who, int o) {
      int some = 0;
      for (int back = 1; back <= 3; back++) {
        some += imported(who, o, p / 4 - back) != 0 ? 1 : 0;
      }
      return some >= starts.get(p)[1];
    }

    int[] shares(int p, int o, int part) {
      BigInteger all = BigInteger.ZERO;
      int[] own = new int[importers];
      for (int i = 0; i < importers; i++) {
        own[i] = traditional(p, i, o) ? together(p, i, o) : 0;
        all = all.add(BigInteger.valueOf(own[i]));
      }
      BigInteger whole = BigInteger.valueOf((long) part * quota(p, o) / 100);
      int[] shares = new int[importers];
      for (int i = 0; i < importers; i++) {
        shares[i] = own[i] == 0 ? 0 : whole.multiply(BigInteger.valueOf(own[i])).divide(all).intValueExact();
      }
      return shares;
    }

    int[] shares(int p, int o) {
      return shares(p, o, starts.get(p)[0]);
    }

    int granted(int p, int who, int o) {
      int sum = 0;
      for (int[] g : grants) {
        sum += g[0] / 90 == p && g[1] == who && g[2] == o ? g[3] : 0;
      }
      return sum;
    }

    int grantedOf(int p, int o) {
      int sum = 0;
      for (int i = 0; i < importers; i++) {
        sum += granted(p, i, o);
      }
      return sum;
    }

    int importedIn(int p, int o, int by) {
      int sum = 0;
      for (int[] one : imports) {
        sum += one[0] / 90 == p && one[2] == o && one[4] == by ? one[3] : 0;
      }
      return sum;
    }

    int left(int p, int who, int o) {
      if (!traditional(p, who, o)) {
        return 0;
      }
      int left = shares(p, o)[who] - granted(p, who, o);
      for (int[] l : lends) {
        if (l[0] / 90 == p && l[3] == o) {
          left += (l[2] == who ? l[4] : 0) - (l[1] == who ? l[4] : 0);
        }
      }
      return left;
    }

    int carried(int p, int o) {
      if (p % 4 == 0) {
        return 0;
      }
      int sum = pool(p - 1, o);
      for (int i = 0; i < importers; i++) {
        sum += left(p - 1, i, o);
      }
      return sum;
    }

    int pool(int p, int o) {
      int pool = quota(p, o) + carried(p, o);
      int[] shares = shares(p, o);
      for (int i = 0; i < importers; i++) {
        pool -= shares[i];
        pool -= traditional(p, i, o) ? 0 : granted(p, i, o);
      }
      for (int[] one : pooled) {
        pool += one[0] / 90 == p && one[1] == o ? one[2] : 0;
      }
      return pool;
    }

    int returned(int p, int o) {
      int sum = 0;
      for (int[] one : pooled) {
        sum += one[0] / 90 == p && one[1] == o && one[3] / 90 != p ? one[2] : 0;
      }
      return sum;
    }

    boolean lies(Lic lic) {
      return lic.used() * 100L < (long) terms[3] * lic.amount;
    }

    /** Of the licence that ended last. */
    boolean idle(int who, int o) {
      Lic last = null;
      for (Lic lic : lics) {
        if (!lic.open() && lic.who == who && lic.origin == o && (last == null || last.ended <= lic.ended)) {
          last = lic;
        }
      }
      return last != null && lies(last);
    }

    int apply(int who, int o, int n) {
      int p = period();
      if (lics.size() == 60) {
        return -2;
      }
      boolean traditional = traditional(p, who, o);
      if (!traditional && n > terms[1]) {
        return -3;
      }
      if (!traditional && grants.stream().anyMatch(g -> g[0] / 90 == p && g[1] == who && g[2] == o)) {
        return -4;
      }
      if (!traditional && idle(who, o)) {
        return -5;
      }
      int most = traditional ? left(p, who, o) : pool(p, o);
      if (most == 0) {
        return -6;
      }
      Lic lic = new Lic();
      lic.who = who;
      lic.origin = o;
      lic.amount = n < most ? n : most;
      lic.issued = day;
      lic.last = day + terms[2] - 1;
      while (lic.last / 360 > day / 360) {
        lic.last--;
      }
      lics.add(lic);
      grants.add(new int[] {day, who, o, lic.amount});
      return lics.size() - 1;
    }

    /** What comes to the pool. */
    int release(Lic lic, int how) {
      int left = lic.left();
      pooled.add(new int[] {day, lic.origin, left, lic.issued, how});
      lic.end(how, day);
      return left;
    }

    int passDays(int n) {
      int lapsed = 0;
      for (int i = 0; i < n; i++) {
        for (Lic lic : lics) {
          lapsed += lic.open() && lic.last == day ? release(lic, 3) : 0;
        }
        day++;
        if (day % 90 == 0) {
          begin();
        }
      }
      return lapsed;
    }

    double rate(int who) {
      long used = 0;
      long all = 0;
      for (Lic lic : lics) {
        if (lic.who == who && !lic.open()) {
          used += lic.used();
          all += lic.amount;
        }
      }
      return all == 0 ? -1.0 : (double) used / (double) all;
    }

    int byLicencesInYear(int who) {
      int sum = 0;
      for (int[] one : imports) {
        sum += one[0] / 360 == year() && one[1] == who && one[4] == 1 ? one[3] : 0;
      }
      return sum;
    }
  }

  private boolean scheme() {
    return w.terms != null;
  }

  private boolean who(int importer) {
    return importer >= 0 && importer < w.importers;
  }

  private boolean whence(int origin) {
    return origin >= 0 && origin < w.quotas.size();
  }

  private boolean pair(int importer, int origin) {
    return who(importer) && whence(origin);
  }

  private boolean lic(int licence) {
    return licence >= 0 && licence < w.lics.size();
  }

  private static boolean in(int n, int least, int most) {
    return least <= n && n <= most;
  }

  private static boolean amount(int n) {
    return in(n, 1, 99999);
  }

  private void act() {
    before.add(w.copy());
    if (before.size() > 10) {
      before.remove(0);
    }
  }

  // ---- the text ----

  /** The fault of a text, as an exception: the first place that is wrong ends the reading. */
  private static final class Fault extends RuntimeException {
    private static final long serialVersionUID = 1L;
    final int number;

    Fault(int place, int kind) {
      number = 8 * place + kind;
    }
  }

  /** Cuts a text into runs of letters, runs of digits and single bytes. */
  private static final class Tokens {
    final List<String> words = new ArrayList<>();
    final List<Integer> places = new ArrayList<>();
    int at;

    Tokens(String text) {
      int i = 0;
      while (i < text.length()) {
        int sort = sort(text.charAt(i));
        int end = i + 1;
        while (sort > 0 && end < text.length() && sort(text.charAt(end)) == sort) {
          end++;
        }
        if (text.charAt(i) != ' ') {
          words.add(text.substring(i, end));
          places.add(i);
        }
        i = end;
      }
      words.add("");
      places.add(text.length());
    }

    private static int sort(char c) {
      return c >= 'a' && c <= 'z' ? 1 : c >= '0' && c <= '9' ? 2 : 0;
    }

    String see() {
      return words.get(at);
    }

    int place() {
      return places.get(at);
    }

    void expect(String word) {
      if (!see().equals(word)) {
        throw new Fault(place(), 1);
      }
      at++;
    }

    int number(int least, int most) {
      if (see().isEmpty() || sort(see().charAt(0)) != 2) {
        throw new Fault(place(), 1);
      }
      BigInteger n = new BigInteger(see());
      if (n.compareTo(BigInteger.valueOf(least)) < 0 || n.compareTo(BigInteger.valueOf(most)) > 0) {
        throw new Fault(place(), 2);
      }
      at++;
      return n.intValueExact();
    }
  }

  private static World read(String text) {
    World world = new World();
    Tokens t = new Tokens(text);
    t.expect("scheme");
    world.terms = new int[] {t.number(0, 100), t.number(1, 99999), t.number(1, 90), t.number(0, 100),
        t.number(0, 2000), t.number(1, 3)};
    while (!t.see().isEmpty()) {
      t.expect(";");
      int place = t.place();
      switch (t.see()) {
        case "origin":
          if (world.quotas.size() == 4) {
            throw new Fault(place, 3);
          }
          t.at++;
          world.quotas.add(t.number(0, 99999));
          break;
        case "importer":
          if (world.importers == 8) {
            throw new Fault(place, 3);
          }
          t.at++;
          world.importers++;
          break;
        default:
          t.expect("past");
          world.pasts.add(new int[] {t.number(0, world.importers - 1), t.number(0, world.quotas.size() - 1),
              t.number(0, 99999), t.number(0, 99999), t.number(0, 99999)});
      }
    }
    if (world.quotas.isEmpty()) {
      throw new Fault(text.length(), 4);
    }
    world.begin();
    return world;
  }

  int feed(int a, int b, int c, int d, int e) {
    if (tape.length() > 380) {
      return NONE;
    }
    for (int number : new int[] {a, b, c, d, e}) {
      tape.append((char) (number >>> 24)).append((char) (number >>> 16 & 255));
      tape.append((char) (number >>> 8 & 255)).append((char) (number & 255));
    }
    return tape.length();
  }

  int end(int n) {
    if (!in(n, 0, tape.length())) {
      return NONE;
    }
    tape.setLength(n);
    return n;
  }

  int tell() {
    String text = tape.toString();
    tape.setLength(0);
    try {
      w = read(text);
    } catch (Fault fault) {
      return -2 - fault.number;
    }
    before.clear();
    return w.quotas.size();
  }

  // ---- acts ----

  int apply(int importer, int origin, int n) {
    if (!pair(importer, origin) || !amount(n)) {
      return NONE;
    }
    int would = w.copy().apply(importer, origin, n);
    if (would < 0) {
      return would;
    }
    act();
    return w.apply(importer, origin, n);
  }

  int use(int licence, int n) {
    if (!lic(licence) || !amount(n)) {
      return NONE;
    }
    Lic one = w.lics.get(licence);
    if (!one.open()) {
      return -2;
    }
    if (n > one.left()) {
      return -3;
    }
    act();
    one.uses.add(new int[] {w.day, n});
    w.imports.add(new int[] {w.day, one.who, one.origin, n, 1});
    int left = one.left();
    if (left == 0) {
      one.end(1, w.day);
    }
    return left;
  }

  int giveBack(int licence) {
    if (!lic(licence)) {
      return NONE;
    }
    if (!w.lics.get(licence).open()) {
      return -2;
    }
    act();
    return w.release(w.lics.get(licence), 2);
  }

  int hand(int licence, int importer, int n) {
    if (!lic(licence) || !who(importer) || !amount(n) || w.lics.get(licence).who == importer) {
      return NONE;
    }
    if (w.lics.size() == 60) {
      return -2;
    }
    Lic one = w.lics.get(licence);
    if (!one.open()) {
      return -3;
    }
    if (n > one.left()) {
      return -4;
    }
    act();
    Lic other = new Lic();
    other.who = importer;
    other.origin = one.origin;
    other.amount = n;
    other.issued = one.issued;
    other.last = one.last;
    other.from = licence;
    w.lics.add(other);
    one.amount -= n;
    if (one.left() == 0) {
      one.end(1, w.day);
    }
    return w.lics.size() - 1;
  }

  int merge(int licence, int other) {
    if (!lic(licence) || !lic(other) || licence == other) {
      return NONE;
    }
    Lic one = w.lics.get(licence);
    Lic two = w.lics.get(other);
    if (!one.open() || !two.open()) {
      return -2;
    }
    if (one.who != two.who || one.origin != two.origin || one.issued != two.issued || one.last != two.last) {
      return -3;
    }
    act();
    one.amount += two.amount;
    one.uses.addAll(two.uses);
    two.amount = 0;
    two.uses.clear();
    two.end(1, w.day);
    return one.left();
  }

  int lend(int importer, int other, int origin, int n) {
    if (!pair(importer, origin) || !who(other) || importer == other || !amount(n)) {
      return NONE;
    }
    int p = w.period();
    if (!w.traditional(p, importer, origin) || !w.traditional(p, other, origin)) {
      return -2;
    }
    if (n > w.left(p, importer, origin)) {
      return -3;
    }
    act();
    w.lends.add(new int[] {w.day, importer, other, origin, n});
    return w.left(p, importer, origin);
  }

  long excess(int importer, int origin, int n, int v) {
    if (!pair(importer, origin) || !amount(n) || !in(v, 1, 9999)) {
      return -1;
    }
    act();
    double owed = (double) ((long) n * v) * (double) w.terms[4] / 1000.0;
    w.owes[importer] += owed;
    w.imports.add(new int[] {w.day, importer, origin, n, 0});
    return Double.doubleToLongBits(owed);
  }

  int days(int n) {
    if (!scheme() || !in(n, 1, 90)) {
      return NONE;
    }
    if (w.day + n > 3600) {
      return -2;
    }
    act();
    return w.passDays(n);
  }

  int widen(int origin, int quota) {
    if (!whence(origin) || !in(quota, 0, 99999)) {
      return NONE;
    }
    int was = w.quotas.get(origin);
    if (was == quota) {
      return -2;
    }
    act();
    w.quotas.set(origin, quota);
    return was;
  }

  int set(int what, int n) {
    int[][] bounds = {{0, 100}, {1, 99999}, {1, 90}, {0, 100}, {0, 2000}, {1, 3}};
    if (!scheme() || !in(what, 0, 5) || !in(n, bounds[what][0], bounds[what][1])) {
      return NONE;
    }
    int was = w.terms[what];
    if (was == n) {
      return -2;
    }
    act();
    w.terms[what] = n;
    return was;
  }

  int undo() {
    if (before.isEmpty()) {
      return NONE;
    }
    w = before.remove(before.size() - 1);
    return before.size();
  }

  int keep(int shelf) {
    if (!in(shelf, 0, 1)) {
      return NONE;
    }
    shelves[shelf] = w.copy();
    return w.quotas.size();
  }

  int back(int shelf) {
    if (!in(shelf, 0, 1)) {
      return NONE;
    }
    if (shelves[shelf] == null) {
      return -2;
    }
    w = shelves[shelf].copy();
    before.clear();
    return w.quotas.size();
  }

  // ---- what there is ----

  int told(int what) {
    return scheme() && in(what, 0, 5) ? w.terms[what] : NONE;
  }

  int origin(int origin, int what) {
    if (!whence(origin)) {
      return NONE;
    }
    int p = w.period();
    switch (what) {
      case 0: return w.quotas.get(origin);
      case 1: return w.quota(p, origin);
      case 2: return w.carried(p, origin);
      case 3: return w.pool(p, origin);
      case 4: return w.grantedOf(p, origin);
      case 5: return w.importedIn(p, origin, 1);
      case 6: return w.importedIn(p, origin, 0);
      case 7: return w.returned(p, origin);
      default: return NONE;
    }
  }

  int past(int importer, int origin, int year) {
    if (!pair(importer, origin) || !in(year, 0, 3)) {
      return NONE;
    }
    return w.imported(importer, origin, year == 3 ? w.year() : w.year() - 1 - year);
  }

  int sort(int importer, int origin) {
    return !pair(importer, origin) ? NONE : w.traditional(w.period(), importer, origin) ? 1 : 0;
  }

  long mean(int importer, int origin) {
    if (!pair(importer, origin)) {
      return -1;
    }
    double sum = past(importer, origin, 0) + past(importer, origin, 1) + past(importer, origin, 2);
    return Double.doubleToLongBits(sum / 3);
  }

  int share(int importer, int origin, int what) {
    if (!pair(importer, origin) || !in(what, 0, 1)) {
      return NONE;
    }
    return what == 1 ? w.left(w.period(), importer, origin) : w.shares(w.period(), origin)[importer];
  }

  int licence(int licence, int what) {
    if (!lic(licence) || !in(what, 0, 7)) {
      return NONE;
    }
    Lic one = w.lics.get(licence);
    return new int[] {one.who, one.origin, one.amount, one.issued, one.used(), one.stand, one.last, one.left()}[what];
  }

  int month(int importer, int month) {
    if (!who(importer) || !in(month, 0, 11)) {
      return NONE;
    }
    int first = w.year() * 360 + month * 30;
    int sum = 0;
    for (int[] one : w.imports) {
      sum += one[1] == importer && one[4] == 1 && in(one[0], first, first + 29) ? one[3] : 0;
    }
    return sum;
  }

  long rate(int importer) {
    return who(importer) ? Double.doubleToLongBits(w.rate(importer)) : -1;
  }

  int idle(int importer, int origin) {
    return !pair(importer, origin) ? NONE : w.idle(importer, origin) ? 1 : 0;
  }

  long owed(int importer) {
    return who(importer) ? Double.doubleToLongBits(w.owes[importer]) : -1;
  }

  // ---- what would be ----

  int would(int importer, int origin, int n) {
    if (!pair(importer, origin) || !amount(n)) {
      return NONE;
    }
    World copy = w.copy();
    int number = copy.apply(importer, origin, n);
    return number < 0 ? number : copy.lics.get(number).amount;
  }

  int lapses(int n) {
    return scheme() && in(n, 1, 90) ? w.copy().passDays(n) : NONE;
  }

  int next(int k) {
    List<int[]> open = new ArrayList<>();
    for (int i = 0; i < w.lics.size(); i++) {
      if (w.lics.get(i).open()) {
        open.add(new int[] {w.lics.get(i).last, i});
      }
    }
    open.sort((a, b) -> a[0] != b[0] ? a[0] - b[0] : a[1] - b[1]);
    List<Integer> numbers = new ArrayList<>();
    for (int[] one : open) {
      numbers.add(one[1]);
    }
    return kth(numbers, k);
  }

  private static int kth(List<Integer> all, int k) {
    if (k < NONE) {
      return NONE;
    }
    return k == NONE ? all.size() : k < all.size() ? all.get(k) : -2;
  }

  int best(int importer, int n, int what) {
    if (!who(importer) || !amount(n) || !in(what, 0, 1)) {
      return NONE;
    }
    int best = -2;
    int most = 0;
    for (int o = w.quotas.size() - 1; o >= 0; o--) {
      int would = would(importer, o, n);
      if (would > 0 && would >= most) {
        best = o;
        most = would;
      }
    }
    return best == -2 ? -2 : what == 0 ? best : most;
  }

  int order(int k) {
    List<Integer> all = new ArrayList<>();
    for (int i = 0; i < w.importers; i++) {
      all.add(i);
    }
    all.sort((a, b) -> w.byLicencesInYear(b) - w.byLicencesInYear(a));
    return k >= 0 && k < all.size() ? all.get(k) : NONE;
  }

  long focus(int origin) {
    if (!whence(origin)) {
      return -1;
    }
    double all = w.grantedOf(w.period(), origin);
    double sum = 0;
    for (int i = 0; i < w.importers && all != 0; i++) {
      double part = w.granted(w.period(), i, origin) / all;
      sum += part * part;
    }
    return Double.doubleToLongBits(sum);
  }

  int carry(int origin) {
    if (!whence(origin)) {
      return NONE;
    }
    World copy = w.copy();
    copy.day = (w.period() + 1) * 90;
    copy.begin();
    return copy.carried(copy.period(), origin);
  }

  int window() {
    if (!scheme()) {
      return NONE;
    }
    int p = w.period();
    for (int o = 0; o < w.quotas.size(); o++) {
      int sum = 0;
      for (Lic lic : w.lics) {
        if (lic.origin == o && lic.issued / 90 == p) {
          sum += lic.open() ? lic.amount : lic.used();
        }
      }
      if (sum > w.quota(p, o) + w.carried(p, o) + w.returned(p, o)) {
        return 0;
      }
    }
    return 1;
  }

  int shareAt(int importer, int origin, int part) {
    return pair(importer, origin) && in(part, 0, 100) ? w.shares(w.period(), origin, part)[importer] : NONE;
  }

  // ---- how licences are used ----

  private static long waited(Lic lic) {
    return lic.uses.stream().mapToLong(u -> (long) u[1] * (u[0] - lic.issued)).sum();
  }

  long speed(int licence) {
    if (!lic(licence)) {
      return -1;
    }
    Lic one = w.lics.get(licence);
    return one.used() == 0 ? NO_DOUBLE : Double.doubleToLongBits((double) waited(one) / (double) one.used());
  }

  int fastest(int origin) {
    if (!whence(origin)) {
      return NONE;
    }
    int best = -2;
    BigInteger bestWaited = null;
    BigInteger bestUsed = null;
    for (int i = 0; i < w.importers; i++) {
      BigInteger used = BigInteger.ZERO;
      BigInteger waited = BigInteger.ZERO;
      for (Lic lic : w.lics) {
        if (lic.who == i && lic.origin == origin) {
          used = used.add(BigInteger.valueOf(lic.used()));
          waited = waited.add(BigInteger.valueOf(waited(lic)));
        }
      }
      boolean some = used.signum() > 0;
      if (some && (best < 0 || waited.multiply(bestUsed).compareTo(bestWaited.multiply(used)) < 0)) {
        best = i;
        bestWaited = waited;
        bestUsed = used;
      }
    }
    return best;
  }

  int log(int i, int origin, int what) {
    int p = w.period() - 1 - i;
    if (!whence(origin) || !in(i, 0, 7) || p < 0) {
      return NONE;
    }
    switch (what) {
      case 0: return w.quota(p, origin);
      case 1: return w.carried(p, origin);
      case 2: return w.grantedOf(p, origin);
      case 3: return w.importedIn(p, origin, 1);
      case 4: return w.importedIn(p, origin, 0);
      default: return NONE;
    }
  }

  int risk(int k) {
    List<Integer> all = new ArrayList<>();
    for (int i = 0; i < w.lics.size(); i++) {
      if (w.lics.get(i).open() && w.lies(w.lics.get(i))) {
        all.add(i);
      }
    }
    return kth(all, k);
  }

  int lacks(int importer, int origin, int n) {
    if (!pair(importer, origin) || !amount(n)) {
      return NONE;
    }
    int lack = n;
    for (Lic lic : w.lics) {
      lack -= lic.who == importer && lic.origin == origin ? lic.left() : 0;
    }
    return lack < 0 ? 0 : lack;
  }

  int pace(int importer) {
    if (!who(importer)) {
      return -1;
    }
    float days = w.day - w.year() * 360 + 1;
    return Float.floatToIntBits((float) w.byLicencesInYear(importer) / days);
  }

  int peak(int origin, int n, int what) {
    if (!whence(origin) || !in(n, 1, 12) || !in(what, 0, 1)) {
      return NONE;
    }
    int best = -1;
    int most = -1;
    for (int first = 0; first <= 12 - n; first++) {
      int sum = 0;
      for (int[] one : w.imports) {
        int month = (one[0] - w.year() * 360) / 30;
        boolean then = one[0] >= w.year() * 360 && in(month, first, first + n - 1);
        sum += then && one[2] == origin && one[4] == 1 ? one[3] : 0;
      }
      if (sum > most) {
        best = first;
        most = sum;
      }
    }
    return what == 0 ? best : most;
  }

  int even(int importer, int origin) {
    if (!pair(importer, origin) || w.traditional(w.period(), importer, origin)) {
      return NONE;
    }
    List<Integer> all = new ArrayList<>();
    for (int i = 0; i < w.importers; i++) {
      if (!w.traditional(w.period(), i, origin)) {
        all.add(i);
      }
    }
    int pool = w.pool(w.period(), origin);
    int each = pool / all.size();
    int over = pool - each * all.size();
    int got = all.indexOf(importer) < over ? each + 1 : each;
    return Math.min(got, w.terms[1]);
  }

  int future(int importer, int origin) {
    if (!pair(importer, origin)) {
      return NONE;
    }
    World copy = w.copy();
    copy.passDays(360 - copy.day % 360);
    return copy.shares(copy.period(), origin)[importer];
  }

  long likely(int origin) {
    if (!whence(origin)) {
      return -1;
    }
    double sum = 0;
    for (Lic lic : w.lics) {
      if (lic.open() && lic.origin == origin) {
        double rate = w.rate(lic.who);
        sum += lic.left() * (rate == -1.0 ? 1.0 : rate);
      }
    }
    return Double.doubleToLongBits(sum);
  }

  int root(int licence, int what) {
    if (!lic(licence) || !in(what, 0, 1)) {
      return NONE;
    }
    int from = w.lics.get(licence).from;
    if (from < 0) {
      return what == 0 ? licence : 0;
    }
    return root(from, what) + what;
  }

  int median(int origin) {
    if (!whence(origin)) {
      return NONE;
    }
    List<Integer> all = new ArrayList<>();
    for (int i = 0; i < w.importers; i++) {
      if (w.traditional(w.period(), i, origin)) {
        all.add(w.together(w.period(), i, origin));
      }
    }
    Collections.sort(all);
    if (all.isEmpty()) {
      return -2;
    }
    return all.get(all.size() % 2 == 0 ? all.size() / 2 - 1 : all.size() / 2);
  }

  int rush(int importer, int origin, int n) {
    if (!pair(importer, origin) || !amount(n)) {
      return NONE;
    }
    World copy = w.copy();
    int[] numbers = new int[w.importers];
    for (int i = 0; i < w.importers; i++) {
      numbers[i] = copy.apply(i, origin, n);
    }
    return numbers[importer] < 0 ? 0 : copy.lics.get(numbers[importer]).amount;
  }

  int stood(int origin, int day) {
    if (!whence(origin) || day < 0 || day >= w.day) {
      return NONE;
    }
    int sum = 0;
    for (Lic lic : w.lics) {
      boolean ended = !lic.open() && lic.ended <= day;
      sum += lic.origin == origin && lic.issued <= day && !ended ? lic.amount : 0;
    }
    return sum;
  }

  int owing(int importer) {
    if (!who(importer)) {
      return NONE;
    }
    int sum = 0;
    for (Lic lic : w.lics) {
      if (lic.who == importer && lic.open()) {
        int must = (int) Math.ceil((long) w.terms[3] * lic.amount / 100.0);
        sum += Math.max(0, must - lic.used());
      }
    }
    return sum;
  }

  int holds(int importer, int what) {
    if (!who(importer) || !in(what, 0, 3)) {
      return NONE;
    }
    List<Lic> open = new ArrayList<>();
    for (Lic lic : w.lics) {
      if (lic.who == importer && lic.open()) {
        open.add(lic);
      }
    }
    switch (what) {
      case 0: return open.size();
      case 1: return open.stream().mapToInt(Lic::left).sum();
      case 2: return open.stream().mapToInt(lic -> lic.last).min().orElse(-2);
      default: return open.stream().mapToInt(lic -> w.day - lic.issued + 1).max().orElse(-2);
    }
  }

  int total(int what) {
    if (!scheme()) {
      return NONE;
    }
    switch (what) {
      case 0: return w.grants.stream().mapToInt(g -> g[3]).sum();
      case 1: return w.imports.stream().mapToInt(one -> one[4] == 1 ? one[3] : 0).sum();
      case 2: return w.pooled.stream().mapToInt(one -> one[4] == 2 ? one[2] : 0).sum();
      case 3: return w.pooled.stream().mapToInt(one -> one[4] == 3 ? one[2] : 0).sum();
      case 4: return w.imports.stream().mapToInt(one -> one[4] == 0 ? one[3] : 0).sum();
      default: return NONE;
    }
  }

  // ---- notes, the text, counts ----

  int row(int sort, int n) {
    if (!in(sort, 0, 3) || !in(n, 0, 40)) {
      return NONE;
    }
    Object[] zeros = {0, 0L, 0.0, (short) 0};
    notes = new Object[n];
    java.util.Arrays.fill(notes, zeros[sort]);
    notesSort = sort;
    return n;
  }

  int note(int k, int sort, long v) {
    if (!in(sort, 0, 3)) {
      return NONE;
    }
    if (notes == null) {
      return -2;
    }
    if (!in(k, 0, notes.length - 1)) {
      return -3;
    }
    if (sort != notesSort) {
      return -4;
    }
    if (sort == 0 && (v < Integer.MIN_VALUE || v > Integer.MAX_VALUE)
        || sort == 3 && (v < Short.MIN_VALUE || v > Short.MAX_VALUE)) {
      return -5;
    }
    Object[] values = {(int) v, v, Double.longBitsToDouble(v), (short) v};
    notes[k] = values[sort];
    return k;
  }

  long noted(int k) {
    if (notes == null || !in(k, 0, notes.length - 1)) {
      return -9000000000L;
    }
    return notesSort == 2 ? Double.doubleToLongBits((Double) notes[k]) : ((Number) notes[k]).longValue();
  }

  private String text() {
    if (!scheme()) {
      return "";
    }
    StringBuilder text = new StringBuilder("scheme");
    for (int term : w.terms) {
      text.append(' ').append(term);
    }
    for (int quota : w.quotas) {
      text.append(";origin ").append(quota);
    }
    text.append(";importer".repeat(w.importers));
    for (int i = 0; i < w.importers; i++) {
      for (int o = 0; o < w.quotas.size(); o++) {
        String years = " " + past(i, o, 2) + " " + past(i, o, 1) + " " + past(i, o, 0);
        text.append(years.equals(" 0 0 0") ? "" : ";past " + i + " " + o + years);
      }
    }
    return text.toString();
  }

  int letter(int k) {
    String text = text();
    if (k < NONE) {
      return NONE;
    }
    return k == NONE ? text.length() : k < text.length() ? text.charAt(k) : -2;
  }

  int count(int what) {
    switch (what) {
      case 0: return w.quotas.size();
      case 1: return w.importers;
      case 2: return w.lics.size();
      case 3: return (int) w.lics.stream().filter(Lic::open).count();
      case 4: return w.day;
      case 5: return before.size();
      case 6: return tape.length();
      case 7: return (shelves[0] != null ? 1 : 0) + (shelves[1] != null ? 2 : 0);
      case 8: return notes == null ? 0 : notes.length;
      default: return NONE;
    }
  }
}

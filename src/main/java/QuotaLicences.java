import java.util.Arrays;

/** A safeguard quota with its importers, their shares, the pool and the licences; see README.md. */
public final class QuotaLicences {
  public static final int NONE = -1;

  private static final int MOST_ORIGINS = 4;
  private static final int MOST_IMPORTERS = 8;
  private static final int MOST_PAIRS = 32;
  private static final int MOST_LICENCES = 60;
  private static final int MOST_AMOUNT = 99999;
  private static final int MOST_WORTH = 9999;
  private static final int MOST_BYTES = 400;
  private static final int MOST_UNDONE = 10;
  private static final int MOST_LOGGED = 8;
  private static final int MOST_NOTES = 40;
  private static final int SHELVES = 2;

  private static final int MONTH_DAYS = 30;
  private static final int PERIOD_DAYS = 90;
  private static final int YEAR_DAYS = 360;
  private static final int YEAR_MONTHS = 12;
  private static final int LAST_DAY = 3600;
  private static final int OLD_YEARS = 3;

  private static final int PART = 0;
  private static final int LOT = 1;
  private static final int VALID = 2;
  private static final int SURETY = 3;
  private static final int DUTY = 4;
  private static final int NEED = 5;
  private static final int[] TOLD_LEAST = {0, 1, 1, 0, 0, 1};
  private static final int[] TOLD_MOST = {100, 99999, 90, 100, 2000, 3};

  /** The figures of an origin in a period bear the numbers that origin() has for them. */
  private static final int QUOTA = 1;
  private static final int CARRIED = 2;
  private static final int POOL = 3;
  private static final int GRANTED = 4;
  private static final int IMPORTED = 5;
  private static final int WITHOUT = 6;
  private static final int RETURNED = 7;
  private static final int FIGURES = 8;
  private static final int[] LOGGED = {QUOTA, CARRIED, GRANTED, IMPORTED, WITHOUT};
  private static final int LOG_SORTS = 5;

  private static final int ALL_GRANTED = 0;
  private static final int ALL_IMPORTED = 1;
  private static final int ALL_GIVEN_BACK = 2;
  private static final int ALL_LAPSED = 3;
  private static final int ALL_WITHOUT = 4;
  private static final int TOTALS = 5;

  private static final int OPEN = 0;
  private static final int USED_UP = 1;
  private static final int GIVEN_BACK = 2;
  private static final int LAPSED = 3;

  private static final int INTS = 0;
  private static final int DOUBLES = 2;
  private static final int SHORTS = 3;
  private static final int NOTE_SORTS = 4;
  private static final long NO_NOTE = -9000000000L;
  private static final long NO_NUMBER = 9221120237041090560L;

  private static final long SIGN_BIT = -9223372036854775808L;
  private static final long FRACTION_MASK = 4503599627370495L;
  private static final long EXPONENT_MASK = 9218868437227405312L;

  private final Reader reader = new Reader();
  private final Spelling spelling = new Spelling();
  private final State now = new State();
  private final Acts acts = new Acts();
  private final State[] shelves = new State[SHELVES];
  private final Notes notes = new Notes();

  public QuotaLicences() {
  }

  // ---- the scheme's text ----

  public int feed(int a, int b, int c, int d, int e) {
    return reader.tape.takeIn(a, b, c, d, e);
  }

  public int end(int n) {
    return reader.tape.cutTo(n);
  }

  public int tell() {
    int fault = reader.readText();
    reader.tape.length = 0;
    if (fault != 0) {
      return -2 - fault;
    }
    now.startWith(reader.scheme);
    acts.forget();
    return now.scheme.origins;
  }

  // ---- acts ----

  public int apply(int importer, int origin, int n) {
    if (!now.hasPair(importer, origin) || !isAmount(n)) {
      return NONE;
    }
    int offered = now.offerNow(importer, origin, n);
    if (offered < 0) {
      return offered;
    }
    acts.remember(now);
    return now.grant(importer, origin, offered);
  }

  public int use(int licence, int n) {
    if (!now.book.has(licence) || !isAmount(n)) {
      return NONE;
    }
    if (!now.book.isOpen(licence)) {
      return -2;
    }
    if (now.book.remains(licence) < n) {
      return -3;
    }
    acts.remember(now);
    now.importBy(licence, n);
    return now.book.remains(licence);
  }

  public int giveBack(int licence) {
    if (!now.book.has(licence)) {
      return NONE;
    }
    if (!now.book.isOpen(licence)) {
      return -2;
    }
    acts.remember(now);
    int given = now.closeIntoPool(licence, GIVEN_BACK);
    now.totals[ALL_GIVEN_BACK] += given;
    return given;
  }

  public int hand(int licence, int importer, int n) {
    Book book = now.book;
    if (!book.has(licence) || !now.hasImporter(importer) || !isAmount(n)
        || book.importer[licence] == importer) {
      return NONE;
    }
    if (book.size >= MOST_LICENCES) {
      return -2;
    }
    if (!book.isOpen(licence)) {
      return -3;
    }
    if (book.remains(licence) < n) {
      return -4;
    }
    acts.remember(now);
    return book.handOn(licence, importer, n, now.day);
  }

  public int merge(int licence, int other) {
    Book book = now.book;
    if (!book.has(licence) || !book.has(other) || licence == other) {
      return NONE;
    }
    if (!book.isOpen(licence) || !book.isOpen(other)) {
      return -2;
    }
    if (!book.areAlike(licence, other)) {
      return -3;
    }
    acts.remember(now);
    book.takeOver(licence, other, now.day);
    return book.remains(licence);
  }

  public int lend(int importer, int other, int origin, int n) {
    if (!now.hasPair(importer, origin) || !now.hasImporter(other) || !isAmount(n)
        || importer == other) {
      return NONE;
    }
    Period period = now.period;
    int from = pairOf(importer, origin);
    int to = pairOf(other, origin);
    if (!period.isTraditional(from) || !period.isTraditional(to)) {
      return -2;
    }
    if (period.left[from] < n) {
      return -3;
    }
    acts.remember(now);
    period.left[from] -= n;
    period.left[to] += n;
    return period.left[from];
  }

  public long excess(int importer, int origin, int n, int v) {
    if (!now.hasPair(importer, origin) || !isAmount(n) || v < 1 || v > MOST_WORTH) {
      return NONE;
    }
    acts.remember(now);
    return bitsOf(now.importWithout(importer, origin, n, v));
  }

  public int days(int n) {
    if (!now.hasScheme() || !isDays(n)) {
      return NONE;
    }
    if (now.day + n > LAST_DAY) {
      return -2;
    }
    acts.remember(now);
    int lapsed = 0;
    for (int i = 0; i < n; i++) {
      lapsed += now.passDay();
    }
    return lapsed;
  }

  public int widen(int origin, int quota) {
    if (!now.hasOrigin(origin) || quota < 0 || quota > MOST_AMOUNT) {
      return NONE;
    }
    int was = now.scheme.quotas[origin];
    if (was == quota) {
      return -2;
    }
    acts.remember(now);
    now.scheme.quotas[origin] = quota;
    return was;
  }

  public int set(int what, int n) {
    if (!now.hasScheme() || !isTold(what) || n < TOLD_LEAST[what] || n > TOLD_MOST[what]) {
      return NONE;
    }
    int was = now.scheme.terms[what];
    if (was == n) {
      return -2;
    }
    acts.remember(now);
    now.scheme.terms[what] = n;
    return was;
  }

  // ---- undone, kept ----

  public int undo() {
    return acts.takeBackInto(now);
  }

  public int keep(int shelf) {
    if (shelf < 0 || shelf >= SHELVES) {
      return NONE;
    }
    State kept = shelves[shelf];
    if (kept == null) {
      kept = new State();
      shelves[shelf] = kept;
    }
    kept.copyFrom(now);
    return now.scheme.origins;
  }

  public int back(int shelf) {
    if (shelf < 0 || shelf >= SHELVES) {
      return NONE;
    }
    State kept = shelves[shelf];
    if (kept == null) {
      return -2;
    }
    now.copyFrom(kept);
    acts.forget();
    return now.scheme.origins;
  }

  // ---- the scheme, origins and importers ----

  public int told(int what) {
    return now.hasScheme() && isTold(what) ? now.scheme.terms[what] : NONE;
  }

  public int origin(int origin, int what) {
    if (!now.hasOrigin(origin) || what < 0 || what >= FIGURES) {
      return NONE;
    }
    return what == 0 ? now.scheme.quotas[origin] : now.period.figure(origin, what);
  }

  public int past(int importer, int origin, int year) {
    if (!now.hasPair(importer, origin) || year < 0 || year > OLD_YEARS) {
      return NONE;
    }
    int pair = pairOf(importer, origin);
    return year == OLD_YEARS ? now.year.imported[pair] : now.scheme.inYear(pair, year);
  }

  public int sort(int importer, int origin) {
    if (!now.hasPair(importer, origin)) {
      return NONE;
    }
    return now.period.sorts[pairOf(importer, origin)];
  }

  public long mean(int importer, int origin) {
    if (!now.hasPair(importer, origin)) {
      return NONE;
    }
    return bitsOf((double) now.scheme.inOldYears(pairOf(importer, origin)) / 3.0);
  }

  public int share(int importer, int origin, int what) {
    if (!now.hasPair(importer, origin) || what < 0 || what > 1) {
      return NONE;
    }
    int pair = pairOf(importer, origin);
    return what == 0 ? now.period.shares[pair] : now.period.left[pair];
  }

  public int licence(int licence, int what) {
    if (!now.book.has(licence)) {
      return NONE;
    }
    Book book = now.book;
    switch (what) {
      case 0: return book.importer[licence];
      case 1: return book.origin[licence];
      case 2: return book.amount[licence];
      case 3: return book.issued[licence];
      case 4: return book.used[licence];
      case 5: return book.stand[licence];
      case 6: return book.lastDay[licence];
      case 7: return book.remains(licence);
      default: return NONE;
    }
  }

  public int month(int importer, int month) {
    if (!now.hasImporter(importer) || month < 0 || month >= YEAR_MONTHS) {
      return NONE;
    }
    return now.year.byImporter[importer * YEAR_MONTHS + month];
  }

  public long rate(int importer) {
    return now.hasImporter(importer) ? bitsOf(now.book.rateOf(importer)) : NONE;
  }

  public int idle(int importer, int origin) {
    if (!now.hasPair(importer, origin)) {
      return NONE;
    }
    return now.isKeptOut(importer, origin) ? 1 : 0;
  }

  public long owed(int importer) {
    return now.hasImporter(importer) ? bitsOf(now.owes[importer]) : NONE;
  }

  // ---- what would be ----

  public int would(int importer, int origin, int n) {
    if (!now.hasPair(importer, origin) || !isAmount(n)) {
      return NONE;
    }
    return now.offerNow(importer, origin, n);
  }

  public int lapses(int n) {
    if (!now.hasScheme() || !isDays(n)) {
      return NONE;
    }
    Book book = now.book;
    int sum = 0;
    for (int i = 0; i < book.size; i++) {
      if (book.lastDay[i] < now.day + n) {
        sum += book.remains(i);
      }
    }
    return sum;
  }

  public int next(int k) {
    if (k < NONE) {
      return NONE;
    }
    Book book = now.book;
    if (k == NONE) {
      return book.openOnes();
    }
    for (int i = 0; i < book.size; i++) {
      if (book.isOpen(i) && book.openAhead(i) == k) {
        return i;
      }
    }
    return -2;
  }

  public int best(int importer, int n, int what) {
    if (!now.hasImporter(importer) || !isAmount(n) || what < 0 || what > 1) {
      return NONE;
    }
    int which = -2;
    int most = 0;
    for (int origin = 0; origin < now.scheme.origins; origin++) {
      int offered = now.offerNow(importer, origin, n);
      if (offered > most) {
        most = offered;
        which = origin;
      }
    }
    return which < 0 || what == 0 ? which : most;
  }

  public int order(int k) {
    for (int i = 0; i < now.scheme.importers; i++) {
      if (now.importersAhead(i) == k) {
        return i;
      }
    }
    return NONE;
  }

  public long focus(int origin) {
    if (!now.hasOrigin(origin)) {
      return NONE;
    }
    int all = now.period.figure(origin, GRANTED);
    double sum = 0.0;
    for (int i = 0; i < now.scheme.importers && all > 0; i++) {
      double part = (double) now.period.granted[pairOf(i, origin)] / (double) all;
      sum = sum + part * part;
    }
    return bitsOf(sum);
  }

  public int carry(int origin) {
    if (!now.hasOrigin(origin)) {
      return NONE;
    }
    boolean yearEnds = now.day % YEAR_DAYS >= YEAR_DAYS - PERIOD_DAYS;
    return yearEnds ? 0 : now.leftIn(origin);
  }

  public int window() {
    if (!now.hasScheme()) {
      return NONE;
    }
    for (int origin = 0; origin < now.scheme.origins; origin++) {
      int most = now.period.figure(origin, QUOTA) + now.period.figure(origin, CARRIED)
          + now.period.figure(origin, RETURNED);
      if (now.takenIn(origin) > most) {
        return 0;
      }
    }
    return 1;
  }

  public int shareAt(int importer, int origin, int part) {
    if (!now.hasPair(importer, origin) || part < TOLD_LEAST[PART] || part > TOLD_MOST[PART]) {
      return NONE;
    }
    return now.shareBy(importer, origin, part, now.period.figure(origin, QUOTA));
  }

  // ---- how licences are used ----

  public long speed(int licence) {
    if (!now.book.has(licence)) {
      return NONE;
    }
    int used = now.book.used[licence];
    return bitsOf(used > 0 ? (double) now.book.waited[licence] / (double) used : -1.0);
  }

  public int fastest(int origin) {
    if (!now.hasOrigin(origin)) {
      return NONE;
    }
    int which = -2;
    long leastWaited = 0;
    long leastUsed = 1;
    for (int i = 0; i < now.scheme.importers; i++) {
      long used = now.book.usedBy(i, origin);
      long waited = now.book.waitedBy(i, origin);
      if (used > 0 && (which < 0 || waited * leastUsed < leastWaited * used)) {
        which = i;
        leastWaited = waited;
        leastUsed = used;
      }
    }
    return which;
  }

  public int log(int i, int origin, int what) {
    if (!now.hasOrigin(origin) || i < 0 || i >= now.period.logged
        || what < 0 || what >= LOG_SORTS) {
      return NONE;
    }
    return now.period.log[logPlace(i, origin, what)];
  }

  public int risk(int k) {
    if (k < NONE) {
      return NONE;
    }
    int seen = 0;
    for (int i = 0; i < now.book.size; i++) {
      if (now.book.isOpen(i) && now.isIdle(i)) {
        if (seen == k) {
          return i;
        }
        seen++;
      }
    }
    return k == NONE ? seen : -2;
  }

  public int lacks(int importer, int origin, int n) {
    if (!now.hasPair(importer, origin) || !isAmount(n)) {
      return NONE;
    }
    Book book = now.book;
    int has = 0;
    for (int i = 0; i < book.size; i++) {
      if (book.isFor(i, importer, origin)) {
        has += book.remains(i);
      }
    }
    return Math.max(0, n - has);
  }

  public int pace(int importer) {
    if (!now.hasImporter(importer)) {
      return NONE;
    }
    int soFar = now.day % YEAR_DAYS + 1;
    return bitsOfFloat((float) now.year.importedBy(importer) / (float) soFar);
  }

  public int peak(int origin, int n, int what) {
    if (!now.hasOrigin(origin) || n < 1 || n > YEAR_MONTHS || what < 0 || what > 1) {
      return NONE;
    }
    int first = 0;
    int most = now.year.importedOf(origin, 0, n);
    for (int start = 1; start + n <= YEAR_MONTHS; start++) {
      int sum = now.year.importedOf(origin, start, n);
      if (sum > most) {
        most = sum;
        first = start;
      }
    }
    return what == 0 ? first : most;
  }

  public int even(int importer, int origin) {
    if (!now.hasPair(importer, origin) || now.period.isTraditional(pairOf(importer, origin))) {
      return NONE;
    }
    int newcomers = 0;
    int ahead = 0;
    for (int i = 0; i < now.scheme.importers; i++) {
      if (!now.period.isTraditional(pairOf(i, origin))) {
        newcomers++;
        ahead += i < importer ? 1 : 0;
      }
    }
    if (newcomers < 1) {
      return NONE;
    }
    int pool = now.period.figure(origin, POOL);
    int part = pool / newcomers + (ahead < pool % newcomers ? 1 : 0);
    return Math.min(part, now.scheme.terms[LOT]);
  }

  public int future(int importer, int origin) {
    return now.hasPair(importer, origin) ? now.shareNextYear(importer, origin) : NONE;
  }

  public long likely(int origin) {
    if (!now.hasOrigin(origin)) {
      return NONE;
    }
    Book book = now.book;
    double sum = 0.0;
    for (int i = 0; i < book.size; i++) {
      if (book.isOpen(i) && book.origin[i] == origin) {
        double rate = book.rateOf(book.importer[i]);
        sum = sum + (double) book.remains(i) * (rate < 0.0 ? 1.0 : rate);
      }
    }
    return bitsOf(sum);
  }

  public int root(int licence, int what) {
    if (!now.book.has(licence) || what < 0 || what > 1) {
      return NONE;
    }
    int at = licence;
    int hands = 0;
    for (int i = 0; i < MOST_LICENCES && now.book.has(now.book.from[at]); i++) {
      at = now.book.from[at];
      hands++;
    }
    return what == 0 ? at : hands;
  }

  public int median(int origin) {
    if (!now.hasOrigin(origin)) {
      return NONE;
    }
    int many = 0;
    for (int i = 0; i < now.scheme.importers; i++) {
      many += now.period.sorts[pairOf(i, origin)];
    }
    for (int i = 0; i < now.scheme.importers; i++) {
      int pair = pairOf(i, origin);
      if (now.period.isTraditional(pair) && now.lesserAhead(i, origin) == (many - 1) / 2) {
        return now.scheme.inOldYears(pair);
      }
    }
    return -2;
  }

  public int rush(int importer, int origin, int n) {
    if (!now.hasPair(importer, origin) || !isAmount(n)) {
      return NONE;
    }
    int pool = now.period.figure(origin, POOL);
    int licences = now.book.size;
    int got = 0;
    for (int i = 0; i <= importer; i++) {
      got = Math.max(0, now.offerOf(i, origin, n, pool, licences));
      if (got > 0) {
        licences++;
        pool -= now.period.isTraditional(pairOf(i, origin)) ? 0 : got;
      }
    }
    return got;
  }

  public int stood(int origin, int day) {
    if (!now.hasOrigin(origin) || day < 0 || day >= now.day) {
      return NONE;
    }
    Book book = now.book;
    int sum = 0;
    for (int i = 0; i < book.size; i++) {
      if (book.origin[i] == origin && book.wasOpenAfter(i, day)) {
        sum += book.amount[i];
      }
    }
    return sum;
  }

  public int owing(int importer) {
    if (!now.hasImporter(importer)) {
      return NONE;
    }
    int sum = 0;
    for (int i = 0; i < now.book.size; i++) {
      if (now.book.isOpen(i) && now.book.importer[i] == importer) {
        sum += now.neededFor(i);
      }
    }
    return sum;
  }

  public int holds(int importer, int what) {
    if (!now.hasImporter(importer)) {
      return NONE;
    }
    switch (what) {
      case 0: return now.book.openOnesOf(importer);
      case 1: return now.book.remainsOf(importer);
      case 2: return now.book.earliestLastDayOf(importer);
      case 3: return now.book.longestOpenOf(importer, now.day);
      default: return NONE;
    }
  }

  public int total(int what) {
    return now.hasScheme() && what >= 0 && what < TOTALS ? now.totals[what] : NONE;
  }

  // ---- notes, the text, counts ----

  public int row(int sort, int n) {
    return notes.makeRow(sort, n);
  }

  public int note(int k, int sort, long v) {
    return notes.put(k, sort, v);
  }

  public long noted(int k) {
    return notes.at(k);
  }

  public int letter(int k) {
    if (k < NONE) {
      return NONE;
    }
    spelling.spell(now.scheme, k);
    if (k == NONE) {
      return spelling.length;
    }
    return k < spelling.length ? spelling.found : -2;
  }

  public int count(int what) {
    switch (what) {
      case 0: return now.scheme.origins;
      case 1: return now.scheme.importers;
      case 2: return now.book.size;
      case 3: return now.book.openOnes();
      case 4: return now.day;
      case 5: return acts.many;
      case 6: return reader.tape.length;
      case 7: return (shelves[0] == null ? 0 : 1) + (shelves[1] == null ? 0 : 2);
      case 8: return notes.length;
      default: return NONE;
    }
  }

  // ---- plain helpers ----

  private static boolean isAmount(int n) {
    return n >= 1 && n <= MOST_AMOUNT;
  }

  private static boolean isDays(int n) {
    return n >= 1 && n <= PERIOD_DAYS;
  }

  private static boolean isTold(int what) {
    return what >= PART && what <= NEED;
  }

  private static int pairOf(int importer, int origin) {
    return importer * MOST_ORIGINS + origin;
  }

  private static int logPlace(int i, int origin, int what) {
    return (i * MOST_ORIGINS + origin) * LOG_SORTS + what;
  }

  private static int partOfAll(int whole, int own, long all) {
    return all > 0 ? (int) ((long) whole * own / all) : 0;
  }

  /** The bits are worked out by hand: the language that the class keeps to has no function for them. */
  private static long bitsOf(double d) {
    if (d == 0.0) {
      return 0L;
    }
    double rest = d < 0.0 ? -d : d;
    long exponent = 1023;
    for (int i = 0; i < 1100 && rest >= 2.0; i++) {
      rest = rest / 2.0;
      exponent++;
    }
    for (int i = 0; i < 1100 && rest < 1.0; i++) {
      rest = rest * 2.0;
      exponent--;
    }
    long fraction = (long) ((rest - 1.0) * 4503599627370496.0);
    return (d < 0.0 ? SIGN_BIT : 0L) | exponent << 52 | fraction;
  }

  /** Of a float that is 0 or a positive one of ordinary size, as all here are. */
  private static int bitsOfFloat(float f) {
    long bits = bitsOf((double) f);
    if (bits == 0L) {
      return 0;
    }
    int exponent = (int) (bits >> 52) - 1023 + 127;
    return exponent << 23 | (int) ((bits & FRACTION_MASK) >> 29);
  }

  /** The bytes that are to tell a scheme. */
  private static final class Tape {
    final byte[] bytes = new byte[MOST_BYTES];
    int length;

    int takeIn(int a, int b, int c, int d, int e) {
      if (length + 20 > MOST_BYTES) {
        return NONE;
      }
      takeFour(a);
      takeFour(b);
      takeFour(c);
      takeFour(d);
      takeFour(e);
      return length;
    }

    private void takeFour(int number) {
      for (int shift = 24; shift >= 0 && length < MOST_BYTES; shift -= 8) {
        bytes[length] = (byte) (number >> shift);
        length++;
      }
    }

    int cutTo(int n) {
      if (n < 0 || n > length) {
        return NONE;
      }
      length = n;
      return n;
    }
  }

  /** A scheme as it is told, with what was imported in the years that are over. */
  private static final class Scheme {
    final int[] terms = new int[NEED + 1];
    final int[] quotas = new int[MOST_ORIGINS];
    final int[] pasts = new int[MOST_PAIRS * OLD_YEARS];
    int origins;
    int importers;

    void clear() {
      Arrays.fill(terms, 0);
      Arrays.fill(quotas, 0);
      Arrays.fill(pasts, 0);
      origins = 0;
      importers = 0;
    }

    void copyFrom(Scheme other) {
      System.arraycopy(other.terms, 0, terms, 0, terms.length);
      System.arraycopy(other.quotas, 0, quotas, 0, quotas.length);
      System.arraycopy(other.pasts, 0, pasts, 0, pasts.length);
      origins = other.origins;
      importers = other.importers;
    }

    int inYear(int pair, int year) {
      return pasts[pair * OLD_YEARS + year];
    }

    void putYear(int pair, int year, int n) {
      pasts[pair * OLD_YEARS + year] = n;
    }

    int inOldYears(int pair) {
      return inYear(pair, 0) + inYear(pair, 1) + inYear(pair, 2);
    }

    int yearsWithSome(int pair) {
      return (inYear(pair, 0) > 0 ? 1 : 0) + (inYear(pair, 1) > 0 ? 1 : 0)
          + (inYear(pair, 2) > 0 ? 1 : 0);
    }

    void growOlder(int pair, int latest) {
      putYear(pair, 2, inYear(pair, 1));
      putYear(pair, 1, inYear(pair, 0));
      putYear(pair, 0, latest);
    }
  }

  /** Reads the tape into a scheme of its own, so that a wrong text changes nothing else. */
  private static final class Reader {
    private static final int MISPLACED = 1;
    private static final int BAD_NUMBER = 2;
    private static final int TOO_MANY = 3;
    private static final int NO_ORIGIN = 4;

    final Tape tape = new Tape();
    final Scheme scheme = new Scheme();
    private int at;
    private int fault;

    /** 0, or the fault of the text. */
    int readText() {
      at = 0;
      fault = 0;
      scheme.clear();
      readTerms();
      // each piece is at least one byte long, so there are never more of them than bytes
      for (int i = 0; i <= MOST_BYTES && fault == 0 && !isAtEnd(); i++) {
        readSeparator();
        readPiece();
      }
      if (fault == 0 && scheme.origins == 0) {
        fail(tape.length, NO_ORIGIN);
      }
      return fault;
    }

    private void readTerms() {
      skipBlanks();
      int start = at;
      skipLetters();
      if (!isWord(start, "scheme")) {
        fail(start, MISPLACED);
      }
      for (int what = PART; what <= NEED; what++) {
        scheme.terms[what] = readNumber(TOLD_LEAST[what], TOLD_MOST[what]);
      }
    }

    private void readSeparator() {
      if (fault != 0) {
        return;
      }
      if (at < tape.length && tape.bytes[at] == ';') {
        at++;
      } else {
        fail(at, MISPLACED);
      }
    }

    private void readPiece() {
      if (fault != 0) {
        return;
      }
      skipBlanks();
      int start = at;
      skipLetters();
      if (isWord(start, "origin")) {
        readOrigin(start);
      } else if (isWord(start, "importer")) {
        readImporter(start);
      } else if (isWord(start, "past")) {
        readPast();
      } else {
        fail(start, MISPLACED);
      }
    }

    private void readOrigin(int start) {
      if (scheme.origins >= MOST_ORIGINS) {
        fail(start, TOO_MANY);
        return;
      }
      scheme.quotas[scheme.origins] = readNumber(0, MOST_AMOUNT);
      scheme.origins++;
    }

    private void readImporter(int start) {
      if (scheme.importers >= MOST_IMPORTERS) {
        fail(start, TOO_MANY);
        return;
      }
      scheme.importers++;
    }

    private void readPast() {
      int importer = readNumber(0, scheme.importers - 1);
      int origin = readNumber(0, scheme.origins - 1);
      int oldest = readNumber(0, MOST_AMOUNT);
      int middle = readNumber(0, MOST_AMOUNT);
      int latest = readNumber(0, MOST_AMOUNT);
      if (fault == 0) {
        int pair = pairOf(importer, origin);
        scheme.putYear(pair, 2, oldest);
        scheme.putYear(pair, 1, middle);
        scheme.putYear(pair, 0, latest);
      }
    }

    /** 0 if there is none such, or if the text was wrong before. */
    private int readNumber(int least, int most) {
      if (fault != 0) {
        return 0;
      }
      skipBlanks();
      int start = at;
      int value = 0;
      while (at < tape.length && tape.bytes[at] >= '0' && tape.bytes[at] <= '9') {
        // a number of many digits stays above all that is allowed, and does not wrap round
        value = Math.min(value * 10 + tape.bytes[at] - '0', MOST_AMOUNT + 1);
        at++;
      }
      if (at == start) {
        fail(start, MISPLACED);
        return 0;
      }
      if (value < least || value > most) {
        fail(start, BAD_NUMBER);
        return 0;
      }
      return value;
    }

    private void fail(int place, int kind) {
      if (fault == 0) {
        fault = 8 * place + kind;
      }
    }

    private void skipBlanks() {
      while (at < tape.length && tape.bytes[at] == ' ') {
        at++;
      }
    }

    private void skipLetters() {
      while (at < tape.length && tape.bytes[at] >= 'a' && tape.bytes[at] <= 'z') {
        at++;
      }
    }

    private boolean isAtEnd() {
      skipBlanks();
      return at >= tape.length;
    }

    private boolean isWord(int start, String word) {
      if (at - start != word.length()) {
        return false;
      }
      for (int i = 0; i < word.length(); i++) {
        if (tape.bytes[start + i] != word.charAt(i)) {
          return false;
        }
      }
      return true;
    }
  }

  /** Writes a scheme as a text, of which it keeps the length and the one byte that is asked for. */
  private static final class Spelling {
    int length;
    int found;
    private int wanted;

    void spell(Scheme scheme, int k) {
      length = 0;
      found = NONE;
      wanted = k;
      if (scheme.origins == 0) {
        return;
      }
      putWord("scheme");
      for (int what = PART; what <= NEED; what++) {
        putNumber(scheme.terms[what]);
      }
      for (int i = 0; i < scheme.origins; i++) {
        putWord(";origin");
        putNumber(scheme.quotas[i]);
      }
      for (int i = 0; i < scheme.importers; i++) {
        putWord(";importer");
      }
      for (int i = 0; i < scheme.importers; i++) {
        for (int j = 0; j < scheme.origins; j++) {
          putPast(scheme, i, j);
        }
      }
    }

    private void putPast(Scheme scheme, int importer, int origin) {
      int pair = pairOf(importer, origin);
      if (scheme.yearsWithSome(pair) == 0) {
        return;
      }
      putWord(";past");
      putNumber(importer);
      putNumber(origin);
      for (int year = OLD_YEARS - 1; year >= 0; year--) {
        putNumber(scheme.inYear(pair, year));
      }
    }

    private void putByte(int b) {
      if (length == wanted) {
        found = b;
      }
      length++;
    }

    private void putWord(String word) {
      for (int i = 0; i < word.length(); i++) {
        putByte(word.charAt(i));
      }
    }

    private void putNumber(int n) {
      putByte(' ');
      int unit = 1;
      for (int i = 0; i < 9 && n / unit >= 10; i++) {
        unit = unit * 10;
      }
      for (int i = 0; i < 10 && unit > 0; i++) {
        putByte('0' + n / unit % 10);
        unit = unit / 10;
      }
    }
  }

  /** The licences, by their numbers. */
  private static final class Book {
    final int[] importer = new int[MOST_LICENCES];
    final int[] origin = new int[MOST_LICENCES];
    final int[] amount = new int[MOST_LICENCES];
    final int[] issued = new int[MOST_LICENCES];
    final int[] lastDay = new int[MOST_LICENCES];
    final int[] used = new int[MOST_LICENCES];
    final int[] stand = new int[MOST_LICENCES];
    final int[] endedOn = new int[MOST_LICENCES];
    /** The licence that one was handed on from, or NONE. */
    final int[] from = new int[MOST_LICENCES];
    /** The days from issue on, once for each piece that is used. */
    final int[] waited = new int[MOST_LICENCES];
    int size;

    /** Rows from size on are never read: each is written whole when its licence is issued. */
    void copyFrom(Book other) {
      size = other.size;
      System.arraycopy(other.importer, 0, importer, 0, size);
      System.arraycopy(other.origin, 0, origin, 0, size);
      System.arraycopy(other.amount, 0, amount, 0, size);
      System.arraycopy(other.issued, 0, issued, 0, size);
      System.arraycopy(other.lastDay, 0, lastDay, 0, size);
      System.arraycopy(other.used, 0, used, 0, size);
      System.arraycopy(other.stand, 0, stand, 0, size);
      System.arraycopy(other.endedOn, 0, endedOn, 0, size);
      System.arraycopy(other.from, 0, from, 0, size);
      System.arraycopy(other.waited, 0, waited, 0, size);
    }

    boolean has(int licence) {
      return licence >= 0 && licence < size;
    }

    boolean isOpen(int licence) {
      return stand[licence] == OPEN;
    }

    boolean isFor(int licence, int who, int whence) {
      return importer[licence] == who && origin[licence] == whence;
    }

    int remains(int licence) {
      return isOpen(licence) ? amount[licence] - used[licence] : 0;
    }

    boolean areAlike(int one, int other) {
      return isFor(one, importer[other], origin[other]) && issued[one] == issued[other]
          && lastDay[one] == lastDay[other];
    }

    boolean wasOpenAfter(int licence, int day) {
      return issued[licence] <= day && (isOpen(licence) || endedOn[licence] > day);
    }

    int issue(int who, int whence, int n, int day, int last, int giver) {
      if (size >= MOST_LICENCES) {
        return NONE;
      }
      int licence = size;
      size++;
      importer[licence] = who;
      origin[licence] = whence;
      amount[licence] = n;
      issued[licence] = day;
      lastDay[licence] = last;
      from[licence] = giver;
      used[licence] = 0;
      stand[licence] = OPEN;
      endedOn[licence] = NONE;
      waited[licence] = 0;
      return licence;
    }

    void close(int licence, int how, int day) {
      stand[licence] = how;
      endedOn[licence] = day;
    }

    void closeIfUsedUp(int licence, int day) {
      if (remains(licence) == 0) {
        close(licence, USED_UP, day);
      }
    }

    int handOn(int licence, int who, int n, int day) {
      int handed = issue(who, origin[licence], n, issued[licence], lastDay[licence], licence);
      amount[licence] -= n;
      closeIfUsedUp(licence, day);
      return handed;
    }

    void takeOver(int licence, int other, int day) {
      amount[licence] += amount[other];
      used[licence] += used[other];
      waited[licence] += waited[other];
      amount[other] = 0;
      used[other] = 0;
      waited[other] = 0;
      close(other, USED_UP, day);
    }

    int openOnes() {
      int many = 0;
      for (int i = 0; i < size; i++) {
        many += isOpen(i) ? 1 : 0;
      }
      return many;
    }

    /** How many open ones stand ahead of this one by last days, then by numbers. */
    int openAhead(int licence) {
      int many = 0;
      for (int i = 0; i < size; i++) {
        boolean ahead = lastDay[i] < lastDay[licence]
            || lastDay[i] == lastDay[licence] && i < licence;
        many += isOpen(i) && ahead ? 1 : 0;
      }
      return many;
    }

    /** NONE if none has ended. */
    int endedLast(int who, int whence) {
      int last = NONE;
      for (int i = 0; i < size; i++) {
        if (!isOpen(i) && isFor(i, who, whence)
            && (last == NONE || endedOn[i] >= endedOn[last])) {
          last = i;
        }
      }
      return last;
    }

    /** What was used of all that has ended; -1 if there is nothing to tell it by. */
    double rateOf(int who) {
      int all = 0;
      int taken = 0;
      for (int i = 0; i < size; i++) {
        if (!isOpen(i) && importer[i] == who) {
          all += amount[i];
          taken += used[i];
        }
      }
      return all > 0 ? (double) taken / (double) all : -1.0;
    }

    int usedBy(int who, int whence) {
      int sum = 0;
      for (int i = 0; i < size; i++) {
        sum += isFor(i, who, whence) ? used[i] : 0;
      }
      return sum;
    }

    int waitedBy(int who, int whence) {
      int sum = 0;
      for (int i = 0; i < size; i++) {
        sum += isFor(i, who, whence) ? waited[i] : 0;
      }
      return sum;
    }

    int openOnesOf(int who) {
      int many = 0;
      for (int i = 0; i < size; i++) {
        many += isOpen(i) && importer[i] == who ? 1 : 0;
      }
      return many;
    }

    int remainsOf(int who) {
      int sum = 0;
      for (int i = 0; i < size; i++) {
        sum += importer[i] == who ? remains(i) : 0;
      }
      return sum;
    }

    int earliestLastDayOf(int who) {
      int earliest = -2;
      for (int i = 0; i < size; i++) {
        if (isOpen(i) && importer[i] == who && (earliest < 0 || lastDay[i] < earliest)) {
          earliest = lastDay[i];
        }
      }
      return earliest;
    }

    int longestOpenOf(int who, int day) {
      int longest = -2;
      for (int i = 0; i < size; i++) {
        if (isOpen(i) && importer[i] == who) {
          longest = Math.max(longest, day - issued[i] + 1);
        }
      }
      return longest;
    }
  }

  /** The period that is running, and the log of those that are over. */
  private static final class Period {
    final int[] figures = new int[MOST_ORIGINS * FIGURES];
    /** 1 for a traditional importer, 0 for a newcomer, as sort() tells it. */
    final int[] sorts = new int[MOST_PAIRS];
    final int[] shares = new int[MOST_PAIRS];
    final int[] left = new int[MOST_PAIRS];
    final int[] granted = new int[MOST_PAIRS];
    final int[] log = new int[MOST_LOGGED * MOST_ORIGINS * LOG_SORTS];
    int logged;

    void copyFrom(Period other) {
      System.arraycopy(other.figures, 0, figures, 0, figures.length);
      System.arraycopy(other.sorts, 0, sorts, 0, sorts.length);
      System.arraycopy(other.shares, 0, shares, 0, shares.length);
      System.arraycopy(other.left, 0, left, 0, left.length);
      System.arraycopy(other.granted, 0, granted, 0, granted.length);
      System.arraycopy(other.log, 0, log, 0, log.length);
      logged = other.logged;
    }

    boolean isTraditional(int pair) {
      return sorts[pair] == 1;
    }

    int figure(int origin, int what) {
      return figures[origin * FIGURES + what];
    }

    void add(int origin, int what, int n) {
      figures[origin * FIGURES + what] += n;
    }

    void clearFigures(int origin) {
      for (int what = 0; what < FIGURES; what++) {
        figures[origin * FIGURES + what] = 0;
      }
    }

    void writeLog() {
      int one = MOST_ORIGINS * LOG_SORTS;
      for (int i = log.length - 1; i >= one; i--) {
        log[i] = log[i - one];
      }
      for (int origin = 0; origin < MOST_ORIGINS; origin++) {
        for (int what = 0; what < LOG_SORTS; what++) {
          log[logPlace(0, origin, what)] = figure(origin, LOGGED[what]);
        }
      }
      logged = Math.min(logged + 1, MOST_LOGGED);
    }
  }

  /** What is imported in the year that is running. */
  private static final class Year {
    /** By pairs, with licences and without. */
    final int[] imported = new int[MOST_PAIRS];
    /** By months, with licences alone. */
    final int[] byImporter = new int[MOST_IMPORTERS * YEAR_MONTHS];
    final int[] byOrigin = new int[MOST_ORIGINS * YEAR_MONTHS];

    void clear() {
      Arrays.fill(imported, 0);
      Arrays.fill(byImporter, 0);
      Arrays.fill(byOrigin, 0);
    }

    void copyFrom(Year other) {
      System.arraycopy(other.imported, 0, imported, 0, imported.length);
      System.arraycopy(other.byImporter, 0, byImporter, 0, byImporter.length);
      System.arraycopy(other.byOrigin, 0, byOrigin, 0, byOrigin.length);
    }

    int importedBy(int importer) {
      int sum = 0;
      for (int month = 0; month < YEAR_MONTHS; month++) {
        sum += byImporter[importer * YEAR_MONTHS + month];
      }
      return sum;
    }

    int importedOf(int origin, int first, int months) {
      int sum = 0;
      for (int month = first; month < first + months && month < YEAR_MONTHS; month++) {
        sum += byOrigin[origin * YEAR_MONTHS + month];
      }
      return sum;
    }
  }

  /** All that is kept and undone: everything but the tape, the acts, the shelves and the notes. */
  private static final class State {
    final Scheme scheme = new Scheme();
    final Book book = new Book();
    final Period period = new Period();
    final Year year = new Year();
    final double[] owes = new double[MOST_IMPORTERS];
    final int[] totals = new int[TOTALS];
    int day;

    void copyFrom(State other) {
      scheme.copyFrom(other.scheme);
      book.copyFrom(other.book);
      period.copyFrom(other.period);
      year.copyFrom(other.year);
      System.arraycopy(other.owes, 0, owes, 0, owes.length);
      System.arraycopy(other.totals, 0, totals, 0, totals.length);
      day = other.day;
    }

    void startWith(Scheme told) {
      scheme.copyFrom(told);
      book.size = 0;
      period.logged = 0;
      year.clear();
      Arrays.fill(owes, 0.0);
      Arrays.fill(totals, 0);
      day = 0;
      startPeriod();
    }

    boolean hasScheme() {
      return scheme.origins > 0;
    }

    boolean hasOrigin(int origin) {
      return origin >= 0 && origin < scheme.origins;
    }

    boolean hasImporter(int importer) {
      return importer >= 0 && importer < scheme.importers;
    }

    boolean hasPair(int importer, int origin) {
      return hasImporter(importer) && hasOrigin(origin);
    }

    // -- periods and shares --

    private void startPeriod() {
      for (int origin = 0; origin < scheme.origins; origin++) {
        // what is left is read before the figures that tell it are written anew
        int carried = day % YEAR_DAYS == 0 ? 0 : leftIn(origin);
        int quota = scheme.quotas[origin];
        period.clearFigures(origin);
        period.add(origin, QUOTA, quota);
        period.add(origin, CARRIED, carried);
        period.add(origin, POOL, quota - partOut(origin, quota) + carried);
      }
    }

    /** Gives each importer its share: how much all of them have. */
    private int partOut(int origin, int quota) {
      for (int i = 0; i < scheme.importers; i++) {
        int pair = pairOf(i, origin);
        period.sorts[pair] = scheme.yearsWithSome(pair) >= scheme.terms[NEED] ? 1 : 0;
        period.granted[pair] = 0;
      }
      int parted = 0;
      for (int i = 0; i < scheme.importers; i++) {
        int pair = pairOf(i, origin);
        int part = shareBy(i, origin, scheme.terms[PART], quota);
        period.shares[pair] = part;
        period.left[pair] = part;
        parted += part;
      }
      return parted;
    }

    int shareBy(int importer, int origin, int part, int quota) {
      int pair = pairOf(importer, origin);
      if (!period.isTraditional(pair)) {
        return 0;
      }
      long all = 0;
      for (int i = 0; i < scheme.importers; i++) {
        int other = pairOf(i, origin);
        all += period.isTraditional(other) ? scheme.inOldYears(other) : 0;
      }
      return partOfAll(part * quota / 100, scheme.inOldYears(pair), all);
    }

    int shareNextYear(int importer, int origin) {
      long all = 0;
      for (int i = 0; i < scheme.importers; i++) {
        all += countsNextYear(pairOf(i, origin));
      }
      int whole = scheme.terms[PART] * scheme.quotas[origin] / 100;
      return partOfAll(whole, countsNextYear(pairOf(importer, origin)), all);
    }

    /** What shares of the next year go by: 0 for one that will be a newcomer. */
    private int countsNextYear(int pair) {
      int latest = year.imported[pair];
      int middle = scheme.inYear(pair, 0);
      int oldest = scheme.inYear(pair, 1);
      int years = (latest > 0 ? 1 : 0) + (middle > 0 ? 1 : 0) + (oldest > 0 ? 1 : 0);
      return years >= scheme.terms[NEED] ? latest + middle + oldest : 0;
    }

    int leftIn(int origin) {
      int sum = period.figure(origin, POOL);
      for (int i = 0; i < scheme.importers; i++) {
        sum += period.left[pairOf(i, origin)];
      }
      return sum;
    }

    // -- days --

    /** How much lapses in it. */
    int passDay() {
      int lapsed = 0;
      for (int i = 0; i < book.size; i++) {
        if (book.isOpen(i) && book.lastDay[i] == day) {
          lapsed += closeIntoPool(i, LAPSED);
        }
      }
      totals[ALL_LAPSED] += lapsed;
      day++;
      if (day % YEAR_DAYS == 0) {
        turnYear();
      }
      if (day % PERIOD_DAYS == 0) {
        period.writeLog();
        startPeriod();
      }
      return lapsed;
    }

    private void turnYear() {
      for (int pair = 0; pair < MOST_PAIRS; pair++) {
        scheme.growOlder(pair, year.imported[pair]);
      }
      year.clear();
    }

    private boolean isOfThisPeriod(int licence) {
      return book.issued[licence] / PERIOD_DAYS == day / PERIOD_DAYS;
    }

    // -- licences --

    /** What would be granted (above 0), or the refusal (below 0). */
    int offerNow(int importer, int origin, int n) {
      return offerOf(importer, origin, n, period.figure(origin, POOL), book.size);
    }

    int offerOf(int importer, int origin, int n, int pool, int licences) {
      if (licences >= MOST_LICENCES) {
        return -2;
      }
      int pair = pairOf(importer, origin);
      int there = period.left[pair];
      if (!period.isTraditional(pair)) {
        if (n > scheme.terms[LOT]) {
          return -3;
        }
        if (period.granted[pair] > 0) {
          return -4;
        }
        if (isKeptOut(importer, origin)) {
          return -5;
        }
        there = pool;
      }
      return there > 0 ? Math.min(n, there) : -6;
    }

    int grant(int importer, int origin, int n) {
      int pair = pairOf(importer, origin);
      if (period.isTraditional(pair)) {
        period.left[pair] -= n;
      } else {
        period.add(origin, POOL, -n);
      }
      period.granted[pair] += n;
      period.add(origin, GRANTED, n);
      totals[ALL_GRANTED] += n;
      int yearsLast = day / YEAR_DAYS * YEAR_DAYS + YEAR_DAYS - 1;
      int last = Math.min(day + scheme.terms[VALID] - 1, yearsLast);
      return book.issue(importer, origin, n, day, last, NONE);
    }

    void importBy(int licence, int n) {
      int importer = book.importer[licence];
      int origin = book.origin[licence];
      int month = day % YEAR_DAYS / MONTH_DAYS;
      book.used[licence] += n;
      book.waited[licence] += n * (day - book.issued[licence]);
      book.closeIfUsedUp(licence, day);
      year.imported[pairOf(importer, origin)] += n;
      year.byImporter[importer * YEAR_MONTHS + month] += n;
      year.byOrigin[origin * YEAR_MONTHS + month] += n;
      period.add(origin, IMPORTED, n);
      totals[ALL_IMPORTED] += n;
    }

    /** What is owed by that. */
    double importWithout(int importer, int origin, int n, int v) {
      double due = (double) (n * v) * (double) scheme.terms[DUTY] / 1000.0;
      owes[importer] = owes[importer] + due;
      year.imported[pairOf(importer, origin)] += n;
      period.add(origin, WITHOUT, n);
      totals[ALL_WITHOUT] += n;
      return due;
    }

    /** How much comes to the pool. */
    int closeIntoPool(int licence, int how) {
      int rest = book.remains(licence);
      int origin = book.origin[licence];
      book.close(licence, how, day);
      period.add(origin, POOL, rest);
      if (!isOfThisPeriod(licence)) {
        period.add(origin, RETURNED, rest);
      }
      return rest;
    }

    boolean isIdle(int licence) {
      return neededFor(licence) > 0;
    }

    /** How much more had to be used of a licence for it not to be idle. */
    int neededFor(int licence) {
      int lacking = scheme.terms[SURETY] * book.amount[licence] - 100 * book.used[licence];
      return lacking > 0 ? (lacking + 99) / 100 : 0;
    }

    boolean isKeptOut(int importer, int origin) {
      int last = book.endedLast(importer, origin);
      return last != NONE && isIdle(last);
    }

    /** What licences of this period have: open ones all, others what is used. */
    int takenIn(int origin) {
      int sum = 0;
      for (int i = 0; i < book.size; i++) {
        if (book.origin[i] == origin && isOfThisPeriod(i)) {
          sum += book.isOpen(i) ? book.amount[i] : book.used[i];
        }
      }
      return sum;
    }

    // -- orders --

    int importersAhead(int importer) {
      int own = year.importedBy(importer);
      int many = 0;
      for (int i = 0; i < scheme.importers; i++) {
        int his = year.importedBy(i);
        many += his > own || his == own && i < importer ? 1 : 0;
      }
      return many;
    }

    /** How many traditional ones stand ahead of this one by what they imported, the least first. */
    int lesserAhead(int importer, int origin) {
      int own = scheme.inOldYears(pairOf(importer, origin));
      int many = 0;
      for (int i = 0; i < scheme.importers; i++) {
        int pair = pairOf(i, origin);
        int his = scheme.inOldYears(pair);
        boolean ahead = his < own || his == own && i < importer;
        many += period.isTraditional(pair) && ahead ? 1 : 0;
      }
      return many;
    }
  }

  /** The states ahead of the last acts; a state is made when first needed, and used again. */
  private static final class Acts {
    private final State[] states = new State[MOST_UNDONE];
    private int top;
    int many;

    void remember(State state) {
      State before = states[top];
      if (before == null) {
        before = new State();
        states[top] = before;
      }
      before.copyFrom(state);
      top = (top + 1) % MOST_UNDONE;
      many = Math.min(many + 1, MOST_UNDONE);
    }

    /** How many more can be undone, or NONE. */
    int takeBackInto(State state) {
      int last = (top + MOST_UNDONE - 1) % MOST_UNDONE;
      State before = states[last];
      if (many == 0 || before == null) {
        return NONE;
      }
      state.copyFrom(before);
      top = last;
      many--;
      return many;
    }

    void forget() {
      many = 0;
    }
  }

  /** A row of one sort; doubles stand in it as their bits. */
  private static final class Notes {
    private final long[] places = new long[MOST_NOTES];
    private int kind = NONE;
    int length;

    int makeRow(int sort, int n) {
      if (sort < 0 || sort >= NOTE_SORTS || n < 0 || n > MOST_NOTES) {
        return NONE;
      }
      kind = sort;
      length = n;
      Arrays.fill(places, 0L);
      return n;
    }

    int put(int k, int sort, long v) {
      if (sort < 0 || sort >= NOTE_SORTS) {
        return NONE;
      }
      if (kind == NONE) {
        return -2;
      }
      if (k < 0 || k >= length) {
        return -3;
      }
      if (sort != kind) {
        return -4;
      }
      if (kind == INTS && v != (int) v || kind == SHORTS && v != (short) v) {
        return -5;
      }
      places[k] = v;
      return k;
    }

    long at(int k) {
      if (k < 0 || k >= length) {
        return NO_NOTE;
      }
      boolean noNumber = kind == DOUBLES && (places[k] & EXPONENT_MASK) == EXPONENT_MASK
          && (places[k] & FRACTION_MASK) != 0L;
      return noNumber ? NO_NUMBER : places[k];
    }
  }
}

/** The edges of what is asked of a scheme, its importers and its licences: promises 18 to 54. */
public final class AskEdgesTest {
  /** Origin 0: shares 450 and 150, pool 400; origin 1: share 300 of importer 1, pool 200; 3 is ever a newcomer. */
  private static final String S = "scheme 60 100 30 50 200 2;origin 1000;origin 500;importer;importer;importer;importer"
      + ";past 0 0 100 200 300;past 1 0 50 0 150;past 1 1 10 20 30;past 2 0 0 0 70";
  /** All are newcomers, as many as there can be; no licence is idle. */
  private static final String FULL = "scheme 0 99999 90 0 100 1" + ";origin 9000".repeat(4) + ";importer".repeat(8);
  private static final long MINUS_ONE = Double.doubleToLongBits(-1.0);

  private AskEdgesTest() {
  }

  public static void main(String[] args) {
    scheme();
    planning();
    using();
    licences();
    full();
    Check.close("AskEdgesTest");
  }

  private static void scheme() {
    originOfPeriods();
    pastSums();
    meanEdges();
    shareEdges();
    licenceStands();
    monthEdges();
    rateEdges();
    owedStays();
  }

  private static void planning() {
    wouldEdges();
    lapsesEdges();
    nextEdges();
    bestEdges();
    orderEdges();
    focusEdges();
    carryEdges();
    windowEdges();
    shareAtEdges();
  }

  private static void using() {
    speedEdges();
    fastestEdges();
    fastestMerged();
    fastestExactly();
    logEdges();
    logPlaces();
    riskEdges();
    lacksEdges();
    paceEdges();
    peakEdges();
    peakOfOrigins();
    evenEdges();
    futureEdges();
    likelyEdges();
  }

  private static void licences() {
    rootEdges();
    medianEdges();
    rushEdges();
    rushSixty();
    stoodEdges();
    stoodEnds();
    owingEdges();
    holdsEdges();
    totalEdges();
  }

  private static void full() {
    fullPairs();
    fullBook();
    fullBookOfOne();
  }

  private static void due(String call, long got, long want) {
    Check.due(call, got, want);
  }

  private static void pass(QuotaLicences x, int many) {
    for (int left = many; left > 0; left -= 90) {
      Check.isTrue("12: days() pass", x.days(Math.min(left, 90)) >= 0);
    }
  }

  // ---- 18 to 28 ----

  private static void originOfPeriods() {
    QuotaLicences x = Check.of(S);
    x.set(2, 90);
    pass(x, 89);
    x.apply(1, 1, 100);
    x.use(0, 10);
    x.excess(0, 1, 3, 1);
    due("19: granted on the last day", x.origin(1, 4), 100);
    due("19: imported on the last day", x.origin(1, 5), 10);
    due("19: without on the last day", x.origin(1, 6), 3);
    pass(x, 1);
    for (int what = 4; what <= 7; what++) {
      due("19: anew, what " + what, x.origin(1, what), 0);
    }
    x.use(0, 7);
    due("19: imported in this period by an older licence", x.origin(1, 5), 7);
    due("19: it is not granted in it", x.origin(1, 4), 0);
    x.giveBack(0);
    due("19: returned", x.origin(1, 7), 83);
    due("19: the other origin", x.origin(0, 7), 0);
    due("19: pool: 200, carried 200 and 200, returned", x.origin(1, 3), 200 + 400 + 83);
  }

  private static void pastSums() {
    QuotaLicences x = Check.of(S);
    due("20: nothing yet", x.past(0, 0, 3), 0);
    x.apply(0, 0, 5);
    x.use(0, 5);
    due("20: by a licence", x.past(0, 0, 3), 5);
    x.excess(0, 0, 99999, 1);
    due("20: and without", x.past(0, 0, 3), 100004);
    due("20: of another origin", x.past(0, 1, 3), 0);
    due("20: of another importer", x.past(1, 0, 3), 0);
    x.apply(1, 1, 5);
    x.hand(1, 3, 2);
    x.use(2, 2);
    due("20: who uses it imports it", x.past(3, 1, 3), 2);
    due("20: who handed it on does not", x.past(1, 1, 3), 0);
  }

  private static void meanEdges() {
    due("22: nothing", Check.of(S).mean(3, 0), 0);
    QuotaLicences x = Check.of("scheme 0 1 1 0 0 1;origin 1;importer;importer;importer;importer;importer;past 0 0 1 0 0"
        + ";past 1 0 0 1 1;past 2 0 99999 99999 99999;past 3 0 99999 99999 99998");
    Check.dueDouble("22: a third", x.mean(0, 0), 1.0 / 3.0);
    Check.dueDouble("22: two thirds", x.mean(1, 0), 2.0 / 3.0);
    Check.dueDouble("22: the most", x.mean(2, 0), 99999.0);
    Check.dueDouble("22: a third less", x.mean(3, 0), 299996.0 / 3.0);
    for (int n = 1; n <= 65536; n = 2 * n) {
      String text = "scheme 0 1 1 0 0 1;origin 1;importer;past 0 0 " + n + " " + n + " " + n;
      Check.dueDouble("22: a power of two", Check.of(text).mean(0, 0), (double) n);
      text = text.substring(0, text.length() - ("" + n).length()) + (n - 1);
      Check.dueDouble("22: less than that", Check.of(text).mean(0, 0), (3.0 * n - 1.0) / 3.0);
    }
    x.excess(4, 0, 2, 1);
    due("22: this year aside", x.mean(4, 0), 0);
    pass(x, 359);
    due("22: this year aside", x.mean(4, 0), 0);
    pass(x, 1);
    Check.dueDouble("22: now it is over", x.mean(4, 0), 2.0 / 3.0);
  }

  private static void shareEdges() {
    QuotaLicences x = Check.of(S);
    due("23: a newcomer has none", x.share(3, 0, 0), 0);
    due("23: nothing is left of it", x.share(3, 0, 1), 0);
    x.apply(0, 0, 450);
    due("23: it stays", x.share(0, 0, 0), 450);
    due("23: nothing is left", x.share(0, 0, 1), 0);
    x.giveBack(0);
    due("23: what comes to the pool is not of it", x.share(0, 0, 1), 0);
    pass(x, 89);
    due("23: to the last day", x.share(0, 0, 1), 0);
    pass(x, 1);
    due("23: anew", x.share(0, 0, 1), 450);
  }

  private static void licenceStands() {
    QuotaLicences x = Check.of(S);
    for (int i = 0; i < 4; i++) {
      x.apply(0, 0, 10);
    }
    x.use(0, 10);
    x.use(1, 3);
    x.giveBack(1);
    x.use(2, 4);
    x.set(2, 31);
    x.apply(0, 0, 10);
    pass(x, 30);
    int[] stands = {1, 2, 3, 3, 0};
    int[] used = {10, 3, 4, 0, 0};
    for (int i = 0; i < 5; i++) {
      due("24: how much, " + i, x.licence(i, 2), 10);
      due("24: used, " + i, x.licence(i, 4), used[i]);
      due("24: stands, " + i, x.licence(i, 5), stands[i]);
      due("24: left, " + i, x.licence(i, 7), i == 4 ? 10 : 0);
    }
  }

  private static void monthEdges() {
    for (int month = 0; month < 12; month++) {
      QuotaLicences x = Check.of("scheme 0 99999 90 0 100 1;origin 9000;origin 9000;importer;importer");
      pass(x, 30 * month);
      x.apply(1, 0, 50);
      x.apply(1, 1, 50);
      x.use(0, 1);
      pass(x, 29);
      x.use(1, 10);
      due("25: the first and the last day of month " + month, x.month(1, month), 11);
      due("44: the first and the last day of month " + month, x.peak(0, 1, 1), 1);
      due("25: of another", x.month(0, month), 0);
      pass(x, 1);
      if (month < 11) {
        x.use(0, 1);
        due("25: the day behind is of the next", x.month(1, month + 1), 1);
      }
      due("25: it stays for the year", x.month(1, month), month < 11 ? 11 : 0);
    }
    QuotaLicences y = Check.of(S);
    y.excess(0, 0, 50, 1);
    due("25: by licences alone", y.month(0, 0), 0);
    pass(y, 365);
    y.apply(0, 0, 5);
    y.use(0, 2);
    due("25: of the next year", y.month(0, 0), 2);
  }

  private static void rateEdges() {
    QuotaLicences x = Check.of(S);
    due("26: none", x.rate(0), MINUS_ONE);
    x.apply(0, 0, 3);
    x.use(0, 2);
    due("26: none has ended", x.rate(0), MINUS_ONE);
    x.giveBack(0);
    Check.dueDouble("26: one has", x.rate(0), 2.0 / 3.0);
    due("26: of another", x.rate(1), MINUS_ONE);
    x.apply(0, 0, 1);
    x.use(1, 1);
    Check.dueDouble("26: two have", x.rate(0), 3.0 / 4.0);
    QuotaLicences y = Check.of(S);
    y.apply(1, 0, 5);
    y.hand(0, 3, 5);
    due("26: of 0", y.rate(1), MINUS_ONE);
    y.apply(1, 1, 1);
    y.giveBack(2);
    due("26: of 0 and 1, nothing used", y.rate(1), 0);
    y.apply(1, 1, 1);
    y.use(3, 1);
    Check.dueDouble("26: of all origins", y.rate(1), 0.5);
    y.giveBack(1);
    due("26: nothing used", y.rate(3), 0);
    QuotaLicences z = Check.of("scheme 0 99999 90 0 100 1;origin 99999;importer");
    z.apply(0, 0, 99999);
    z.use(0, 99998);
    pass(z, 90);
    Check.dueDouble("26: nearly all", z.rate(0), 99998.0 / 99999.0);
    z.apply(0, 0, 99999);
    z.use(1, 99999);
    Check.dueDouble("26: nearly all of two", z.rate(0), 199997.0 / 199998.0);
  }

  private static void owedStays() {
    QuotaLicences x = Check.of(S);
    x.excess(0, 0, 5, 1);
    x.apply(0, 0, 5);
    x.use(0, 5);
    Check.dueDouble("28: by licences nothing is", x.owed(0), 1.0);
    pass(x, 720);
    Check.dueDouble("28: in the next years, too", x.owed(0), 1.0);
    x.undo();
    Check.dueDouble("28: it stays", x.owed(0), 1.0);
  }

  // ---- 29 to 37 ----

  private static void wouldEdges() {
    QuotaLicences x = Check.of(S);
    due("29: 449 of 450", x.would(0, 0, 449), 449);
    due("29: 450 of 450", x.would(0, 0, 450), 450);
    due("29: 451 of 450", x.would(0, 0, 451), 450);
    due("29: LOT", x.would(3, 0, 100), 100);
    due("29: LOT and 1", x.would(3, 0, 101), -3);
    x.apply(3, 0, 1);
    due("29: granted", x.would(3, 0, 1), -4);
    x.giveBack(0);
    x.apply(0, 0, 450);
    due("29: nothing", x.would(0, 0, 1), -6);
    pass(x, 90);
    due("29: idle", x.would(3, 0, 1), -5);
    due("29: nothing is done by it", x.count(2), 2);
    due("29: nothing is done by it", x.count(5), 4);
    for (int i = 2; i < 60; i++) {
      x.apply(1, 1, 1);
    }
    due("29: 60", x.would(0, 0, 1), -2);
    due("29: NONE ahead of 60", x.would(0, 0, 0), -1);
    due("29: 60 ahead of LOT", x.would(3, 0, 101), -2);
    x.undo();
    due("29: 59", x.would(0, 0, 1), 1);
  }

  private static void lapsesEdges() {
    QuotaLicences x = Check.of(S);
    due("30: there are none", x.lapses(90), 0);
    x.set(2, 1);
    x.apply(0, 0, 1);
    x.set(2, 2);
    x.apply(0, 0, 10);
    x.set(2, 89);
    x.apply(0, 0, 50);
    x.use(2, 30);
    x.set(2, 90);
    x.apply(1, 1, 100);
    due("30: this day", x.lapses(1), 1);
    due("30: and the next", x.lapses(2), 11);
    due("30: 88", x.lapses(88), 11);
    due("30: 89: what is left alone", x.lapses(89), 31);
    due("30: 90", x.lapses(90), 131);
    x.giveBack(1);
    due("30: given back", x.lapses(90), 121);
    pass(x, 1);
    due("30: lapsed", x.lapses(1), 0);
    due("30: a day less", x.lapses(88), 20);
    due("30: a day less", x.lapses(87), 0);
    QuotaLicences y = Check.of("scheme 0 1 90 0 100 1;origin 9;importer;importer");
    pass(y, 3599);
    y.apply(0, 0, 1);
    due("30: day 3599", y.lapses(1), 1);
    due("30: beyond 3600", y.lapses(2), 1);
    pass(y, 1);
    y.apply(1, 0, 1);
    due("30: from 3600 on, 89 days", y.lapses(89), 0);
    due("30: from 3600 on, 90 days", y.lapses(90), 1);
    due("30: 91", y.lapses(91), -1);
    due("12: these days cannot pass", y.days(1), -2);
  }

  private static void nextEdges() {
    QuotaLicences x = Check.of(S);
    int[] valid = {30, 5, 30, 1, 5};
    for (int i = 0; i < 5; i++) {
      x.set(2, valid[i]);
      x.apply(0, 0, 10);
    }
    int[] want = {3, 1, 4, 0, 2};
    for (int k = 0; k < 5; k++) {
      due("31: next(" + k + ")", x.next(k), want[k]);
    }
    due("31: how many", x.next(-1), 5);
    due("31: behind the last", x.next(5), -2);
    due("31: far behind", x.next(Integer.MAX_VALUE), -2);
    due("31: below NONE", x.next(-2), -1);
    due("31: far below", x.next(Integer.MIN_VALUE), -1);
    pass(x, 1);
    due("31: one lapsed", x.next(-1), 4);
    due("31: one lapsed", x.next(0), 1);
    due("31: one lapsed", x.next(4), -2);
    x.use(1, 10);
    x.giveBack(0);
    due("31: two open", x.next(-1), 2);
    due("31: two open", x.next(0), 4);
    due("31: two open", x.next(1), 2);
    due("31: two open", x.next(2), -2);
    x.giveBack(4);
    x.giveBack(2);
    due("31: none open", x.next(-1), 0);
    due("31: none open", x.next(0), -2);
    due("31: none open", x.next(-2), -1);
  }

  private static void bestEdges() {
    QuotaLicences x = Check.of("scheme 0 100 90 0 100 1;origin 50;origin 60;origin 60;origin 10;importer");
    due("32: for 1", x.best(0, 1, 0), 0);
    due("32: for 1", x.best(0, 1, 1), 1);
    due("32: alike in all: the least", x.best(0, 10, 0), 0);
    due("32: alike in all", x.best(0, 10, 1), 10);
    due("32: alike in three", x.best(0, 50, 0), 0);
    due("32: more in two: the least", x.best(0, 51, 0), 1);
    due("32: more in two", x.best(0, 51, 1), 51);
    due("32: all there is", x.best(0, 100, 1), 60);
    due("32: above LOT", x.best(0, 101, 0), -2);
    due("32: above LOT", x.best(0, 101, 1), -2);
    x.apply(0, 1, 1);
    due("32: the third", x.best(0, 51, 0), 2);
    x.apply(0, 2, 1);
    x.apply(0, 0, 1);
    due("32: the last", x.best(0, 51, 0), 3);
    due("32: the last", x.best(0, 51, 1), 10);
    x.apply(0, 3, 1);
    due("32: in none", x.best(0, 1, 0), -2);
    due("32: in none", x.best(0, 1, 1), -2);
    QuotaLicences one = Check.of("scheme 0 100 90 0 100 1;origin 0;origin 1;origin 0;importer");
    due("32: 1 alone", one.best(0, 100, 0), 1);
    due("32: 1 alone", one.best(0, 100, 1), 1);
    due("32: NONE ahead of none", x.best(0, 1, 2), -1);
    due("32: NONE ahead of none", x.best(0, 0, 0), -1);
  }

  private static void orderEdges() {
    QuotaLicences x = Check.of(FULL);
    for (int k = 0; k < 8; k++) {
      due("33: nothing imported, " + k, x.order(k), k);
    }
    due("33: the ninth", x.order(8), -1);
    due("33: below 0", x.order(-1), -1);
    int[] used = {3, 5, 3, 0, 5, 1, 9, 0};
    for (int i = 0; i < 8; i++) {
      x.apply(i, i % 4, 20);
      if (used[i] > 0) {
        x.use(i, used[i]);
      }
      x.excess(i, 0, 100 * (8 - i), 1);
    }
    int[] want = {6, 1, 4, 0, 2, 5, 3, 7};
    for (int k = 0; k < 8; k++) {
      due("33: order(" + k + ")", x.order(k), want[k]);
    }
    x.use(2, 1);
    due("33: one more", x.order(3), 2);
    pass(x, 359);
    due("33: to the end of the year", x.order(0), 6);
    pass(x, 1);
    due("33: a new year", x.order(0), 0);
    due("33: without importers", Check.of("scheme 0 1 1 0 0 1;origin 1").order(0), -1);
  }

  private static void focusEdges() {
    QuotaLicences x = Check.of(FULL);
    due("34: nothing", x.focus(3), 0);
    x.apply(7, 3, 1);
    Check.dueDouble("34: one has all", x.focus(3), 1.0);
    due("34: of another origin nothing", x.focus(2), 0);
    x.apply(0, 3, 1);
    Check.dueDouble("34: two halves", x.focus(3), 0.5);
    x.apply(3, 3, 1);
    Check.dueDouble("34: three thirds", x.focus(3), (1.0 / 3.0) * (1.0 / 3.0) + (1.0 / 3.0) * (1.0 / 3.0)
        + (1.0 / 3.0) * (1.0 / 3.0));
    x.hand(0, 0, 1);
    x.giveBack(1);
    Check.dueDouble("34: as they were issued", x.focus(3), (1.0 / 3.0) * (1.0 / 3.0) + (1.0 / 3.0) * (1.0 / 3.0)
        + (1.0 / 3.0) * (1.0 / 3.0));
    for (int i = 1; i < 7; i++) {
      x.apply(i, 3, 10 * i);
    }
    double sum = 0.0;
    int[] granted = {1, 10, 20, 1, 40, 50, 60, 1};
    for (int i = 0; i < 8; i++) {
      double part = (double) granted[i] / 183.0;
      sum = sum + part * part;
    }
    Check.dueDouble("34: by numbers", x.focus(3), sum);
    pass(x, 89);
    Check.dueDouble("34: to the last day", x.focus(3), sum);
    pass(x, 1);
    due("34: a new period", x.focus(3), 0);
  }

  private static void carryEdges() {
    QuotaLicences x = Check.of(S);
    due("35: all", x.carry(0), 1000);
    x.apply(0, 0, 450);
    due("35: all but a share", x.carry(0), 550);
    x.set(2, 1);
    x.apply(1, 0, 50);
    due("35: what lapses by then is aside", x.carry(0), 500);
    pass(x, 1);
    due("35: it lapsed", x.carry(0), 550);
    x.use(0, 10);
    x.giveBack(0);
    due("35: given back", x.carry(0), 990);
    pass(x, 88);
    due("35: the last day", x.carry(0), 990);
    pass(x, 1);
    due("19: so it is", x.origin(0, 2), 990);
    due("35: with what was carried", x.carry(0), 1990);
    pass(x, 179);
    due("35: day 269", x.carry(0), 2990);
    pass(x, 1);
    due("35: day 270: none is carried into a new year", x.carry(0), 0);
    pass(x, 89);
    due("35: day 359", x.carry(0), 0);
    pass(x, 1);
    due("35: day 360", x.carry(0), 1000);
    due("19: none was", x.origin(0, 2), 0);
    QuotaLicences none = Check.of("scheme 0 1 1 0 0 1;origin 0;origin 1");
    due("35: nothing", none.carry(0), 0);
    due("35: one", none.carry(1), 1);
  }

  /** All that there is is granted, so that one more would be too much. */
  private static void windowEdges() {
    QuotaLicences x = Check.of("scheme 50 99999 90 0 100 1;origin 100;origin 80;importer;importer;importer;past 0 0 1 0 0");
    due("36: nothing", x.window(), 1);
    x.apply(0, 0, 50);
    x.apply(1, 0, 50);
    due("19: all is granted", x.carry(0), 0);
    due("36: quota", x.window(), 1);
    x.use(0, 20);
    x.giveBack(0);
    x.apply(2, 0, 30);
    due("36: what is used of one that ended", x.window(), 1);
    x.apply(2, 1, 79);
    pass(x, 60);
    x.apply(0, 1, 1);
    pass(x, 30);
    due("19: lapsed", x.origin(0, 2), 80);
    x.apply(0, 0, 99999);
    x.apply(1, 0, 99999);
    due("19: all is granted", x.carry(0), 0);
    due("36: quota and carried", x.window(), 1);
    x.giveBack(4);
    x.apply(1, 1, 99999);
    due("19: returned", x.origin(1, 7), 1);
    due("19: all is granted", x.carry(1), 0);
    due("36: quota, carried and returned", x.window(), 1);
    x.hand(7, 2, 50);
    x.use(8, 50);
    due("36: handed on", x.window(), 1);
    due("36: without a scheme", new QuotaLicences().window(), -1);
    due("36: a quota of 0", Check.of("scheme 0 1 1 0 0 1;origin 0").window(), 1);
  }

  private static void shareAtEdges() {
    QuotaLicences x = Check.of(S);
    due("37: 0", x.shareAt(0, 0, 0), 0);
    due("37: 1", x.shareAt(0, 0, 1), 7);
    due("37: 99", x.shareAt(0, 0, 99), 742);
    due("37: 100", x.shareAt(0, 0, 100), 750);
    due("37: a newcomer", x.shareAt(3, 0, 100), 0);
    x.widen(0, 99999);
    x.set(5, 1);
    x.set(0, 7);
    due("37: of this period", x.shareAt(0, 0, 100), 750);
    due("37: a newcomer of this period", x.shareAt(2, 0, 100), 0);
    due("37: PART as it was", x.share(0, 0, 0), 450);
    pass(x, 90);
    due("37: of the next period", x.shareAt(2, 0, 100), 8045);
    due("37: of the next period, 7 hundredths", x.shareAt(2, 0, 7), x.share(2, 0, 0));
    QuotaLicences most = Check.of("scheme 0 1 1 0 0 1;origin 99999;importer;past 0 0 99999 99999 99999");
    due("37: the most", most.shareAt(0, 0, 100), 99999);
    due("37: the most, 99", most.shareAt(0, 0, 99), 98999);
  }

  // ---- 38 to 47 ----

  private static void speedEdges() {
    QuotaLicences x = Check.of("scheme 0 99999 90 0 100 1;origin 99999;importer;importer");
    x.apply(0, 0, 99999);
    due("38: nothing is used", x.speed(0), MINUS_ONE);
    x.use(0, 1);
    due("38: on the day of issue", x.speed(0), 0);
    pass(x, 89);
    x.use(0, 2);
    Check.dueDouble("38: on the last day", x.speed(0), 2.0 * 89.0 / 3.0);
    x.hand(0, 1, 1000);
    due("38: of the other one nothing is used", x.speed(1), MINUS_ONE);
    x.use(1, 1);
    Check.dueDouble("38: from the issue of the first one on", x.speed(1), 89.0);
    x.use(0, 98996);
    Check.dueDouble("38: many", x.speed(0), 98998.0 * 89.0 / 98999.0);
    QuotaLicences y = Check.of(S);
    y.apply(0, 0, 10);
    y.apply(0, 0, 10);
    pass(y, 3);
    y.use(1, 2);
    y.merge(0, 1);
    Check.dueDouble("38: merged", y.speed(0), 3.0);
    due("38: of the other one nothing is used", y.speed(1), MINUS_ONE);
  }

  private static void fastestEdges() {
    QuotaLicences x = Check.of(FULL);
    due("39: nothing was", x.fastest(3), -2);
    for (int i = 0; i < 8; i++) {
      x.apply(i, 3, 20);
    }
    due("39: nothing was used", x.fastest(3), -2);
    pass(x, 2);
    x.use(7, 1);
    due("39: one alone, the last one", x.fastest(3), 7);
    x.use(5, 3);
    due("39: alike: the least", x.fastest(3), 5);
    x.use(0, 9);
    due("39: alike: the least", x.fastest(3), 0);
    due("39: of another origin", x.fastest(2), -2);
    pass(x, 1);
    x.use(0, 1);
    due("39: slower by little", x.fastest(3), 5);
    x.use(5, 1);
    due("39: both are slower", x.fastest(3), 7);
    x.excess(6, 3, 5, 5);
    due("39: by licences alone", x.fastest(3), 7);
    pass(x, 87);
    x.apply(6, 3, 1);
    x.use(8, 1);
    due("39: on the day of issue", x.fastest(3), 6);
    x.undo();
    due("39: undone", x.fastest(3), 7);
  }

  /** What was used of two that are merged is told once, as it was used. */
  private static void fastestMerged() {
    for (int merged = 0; merged < 2; merged++) {
      QuotaLicences x = Check.of(S);
      for (int importer = 0; importer < 2; importer++) {
        x.apply(importer, 0, 50);
        x.apply(importer, 0, 50);
      }
      pass(x, 1);
      for (int licence = 0; licence < 4; licence++) {
        x.use(licence, 5 + licence % 2);
      }
      x.merge(2 * merged, 2 * merged + 1);
      due("39: alike, merged " + merged, x.fastest(0), 0);
      x.use(2 * merged, 1);
      due("39: alike, merged " + merged, x.fastest(0), 0);
    }
  }

  /** Means that lie so near that floats would not part them: by one of 50000, by one of 49999. */
  private static void fastestExactly() {
    String many = "scheme 0 99999 90 0 100 1;origin 99999;importer;importer";
    QuotaLicences x = Check.of(many);
    x.apply(0, 0, 49999);
    x.apply(1, 0, 50000);
    pass(x, 88);
    x.use(0, 49998);
    x.use(1, 49999);
    due("39: alike", x.fastest(0), 0);
    pass(x, 1);
    x.use(0, 1);
    x.use(1, 1);
    due("39: one of 50000 is less than one of 49999", x.fastest(0), 1);
    QuotaLicences y = Check.of(many);
    y.apply(0, 0, 50000);
    y.apply(1, 0, 49999);
    pass(y, 88);
    y.use(0, 49999);
    y.use(1, 49998);
    pass(y, 1);
    y.use(0, 1);
    y.use(1, 1);
    due("39: one of 50000 is less than one of 49999", y.fastest(0), 0);
  }

  private static void logEdges() {
    QuotaLicences x = Check.of(FULL);
    x.apply(7, 3, 100);
    x.use(0, 30);
    x.excess(7, 3, 5, 5);
    pass(x, 89);
    due("40: none is over", x.log(0, 3, 0), -1);
    pass(x, 1);
    int[] want = {9000, 0, 100, 30, 5};
    for (int what = 0; what < 5; what++) {
      due("40: log(0, 3, " + what + ")", x.log(0, 3, what), want[what]);
      due("40: of another origin", x.log(0, 0, what), what == 0 ? 9000 : 0);
    }
    due("40: one alone is over", x.log(1, 3, 0), -1);
    for (int period = 1; period < 8; period++) {
      x.widen(3, 9000 + period);
      x.apply(6, 3, 100 + period);
      pass(x, 90);
      due("40: granted in period " + period, x.log(0, 3, 2), 100 + period);
      due("40: the first is kept", x.log(period, 3, 2), 100);
      due("40: there are no more", x.log(period + 1, 3, 2), -1);
    }
    due("40: quota of the period, not as told", x.log(0, 3, 0), 9006);
    due("40: carried into the first of a year", x.log(3, 3, 1), 0);
    for (int period = 8; period < 17; period++) {
      pass(x, 90);
      due("40: eight are kept", x.log(7, 3, 2), period < 15 ? 100 + period - 7 : 0);
      due("40: no more than eight", x.log(8, 3, 2), -1);
    }
    QuotaLicences y = Check.of(FULL);
    pass(y, 90);
    due("40: carried into the first", y.log(0, 0, 1), 0);
    pass(y, 90);
    due("40: carried into the second", y.log(0, 0, 1), 9000);
  }

  /** Each figure of each origin goes back place by place. */
  private static void logPlaces() {
    QuotaLicences x = Check.of(FULL.replace("100 1;", "100 3;"));
    for (int period = 0; period < 10; period++) {
      for (int origin = 0; origin < 4; origin++) {
        x.widen(origin, 1000 * origin + 900 + period);
        x.apply(7, origin, 20 + 4 * period + origin);
        x.use(x.count(2) - 1, 10 + period + origin);
        x.excess(0, origin, 1000 * origin + period + 1, 1);
      }
      pass(x, 90);
    }
    for (int i = 0; i < 8; i++) {
      int period = 9 - i;
      for (int origin = 0; origin < 4; origin++) {
        due("40: quota, " + i + ", " + origin, x.log(i, origin, 0), 1000 * origin + 900 + period - 1);
        due("40: granted, " + i + ", " + origin, x.log(i, origin, 2), 20 + 4 * period + origin);
        due("40: imported, " + i + ", " + origin, x.log(i, origin, 3), 10 + period + origin);
        due("40: without, " + i + ", " + origin, x.log(i, origin, 4), 1000 * origin + period + 1);
      }
    }
    due("40: no more than eight", x.log(8, 0, 0), -1);
  }

  private static void riskEdges() {
    QuotaLicences x = Check.of(S);
    due("41: there are none", x.risk(-1), 0);
    due("41: there are none", x.risk(0), -2);
    due("41: below NONE", x.risk(-2), -1);
    x.apply(0, 0, 100);
    x.apply(0, 0, 3);
    x.apply(0, 0, 1);
    due("41: nothing is used", x.risk(-1), 3);
    x.use(0, 49);
    due("41: 49 of 100", x.risk(0), 0);
    x.use(0, 1);
    due("41: 50 of 100", x.risk(0), 1);
    x.use(1, 1);
    due("41: 1 of 3", x.risk(0), 1);
    x.use(1, 1);
    due("41: 2 of 3", x.risk(0), 2);
    due("41: how many", x.risk(-1), 1);
    due("41: behind the last", x.risk(1), -2);
    due("41: far behind", x.risk(Integer.MAX_VALUE), -2);
    due("41: far below", x.risk(Integer.MIN_VALUE), -1);
    x.set(3, 51);
    due("41: SURETY as it is told now", x.risk(-1), 2);
    due("41: by numbers", x.risk(0), 0);
    due("41: by numbers", x.risk(1), 2);
    x.set(3, 0);
    due("41: SURETY 0", x.risk(-1), 0);
    x.set(3, 1);
    due("41: SURETY 1, one of 1", x.risk(-1), 1);
    x.giveBack(2);
    due("41: it has ended", x.risk(-1), 0);
    due("27: it was idle", x.idle(0, 0), 1);
    x.set(3, 100);
    due("41: SURETY 100", x.risk(-1), 2);
    x.use(1, 1);
    due("41: used up", x.risk(-1), 1);
  }

  private static void lacksEdges() {
    QuotaLicences x = Check.of(S);
    due("42: without licences", x.lacks(1, 0, 1), 1);
    due("42: without licences", x.lacks(1, 0, 99999), 99999);
    x.apply(1, 0, 100);
    x.apply(1, 0, 20);
    x.apply(1, 1, 50);
    x.apply(0, 0, 50);
    x.use(0, 30);
    due("42: one less", x.lacks(1, 0, 89), 0);
    due("42: just so much", x.lacks(1, 0, 90), 0);
    due("42: one more", x.lacks(1, 0, 91), 1);
    due("42: the other origin", x.lacks(1, 1, 51), 1);
    pass(x, 29);
    due("42: on their last day", x.lacks(1, 0, 90), 0);
    pass(x, 1);
    due("42: lapsed", x.lacks(1, 0, 90), 90);
  }

  private static void paceEdges() {
    QuotaLicences x = Check.of("scheme 0 99999 90 0 100 3;origin 99999;origin 99999;importer;importer");
    due("43: nothing", x.pace(0), 0);
    x.apply(0, 0, 99999);
    x.apply(0, 1, 99999);
    x.use(0, 99999);
    due("43: day 0: by 1", x.pace(0), Float.floatToIntBits(99999.0f));
    x.use(1, 1);
    pass(x, 1);
    due("43: day 1: by 2", x.pace(0), Float.floatToIntBits(100000.0f / 2.0f));
    x.use(1, 99998);
    pass(x, 2);
    due("43: day 3: by 4", x.pace(0), Float.floatToIntBits(199998.0f / 4.0f));
    pass(x, 356);
    due("43: day 359: by 360", x.pace(0), Float.floatToIntBits(199998.0f / 360.0f));
    due("43: of another", x.pace(1), 0);
    x.apply(1, 0, 1);
    x.use(2, 1);
    due("43: the least", x.pace(1), Float.floatToIntBits(1.0f / 360.0f));
    pass(x, 1);
    due("43: day 360", x.pace(0), 0);
    x.apply(1, 0, 7);
    x.use(3, 7);
    due("43: day 360: by 1", x.pace(1), Float.floatToIntBits(7.0f));
  }

  private static void peakEdges() {
    QuotaLicences x = Check.of(FULL);
    for (int n = 1; n <= 12; n++) {
      due("44: nothing: the first", x.peak(3, n, 0), 0);
      due("44: nothing", x.peak(3, n, 1), 0);
    }
    int[] used = {4, 0, 7, 1, 7, 0, 3, 3, 3, 5, 0, 8};
    for (int month = 0; month < 12; month++) {
      if (month % 3 == 0) {
        x.apply(month / 3, 3, 100);
      }
      if (used[month] > 0) {
        x.use(month / 3, used[month]);
      }
      pass(x, month < 11 ? 30 : 29);
    }
    int[] first = {11, 2, 2, 8, 0, 6, 2, 2, 3, 2, 1, 0};
    int[] most = {8, 8, 15, 16, 19, 22, 24, 29, 30, 37, 37, 41};
    for (int n = 1; n <= 12; n++) {
      due("44: the first of " + n, x.peak(3, n, 0), first[n - 1]);
      due("44: how much in " + n, x.peak(3, n, 1), most[n - 1]);
    }
    pass(x, 1);
    due("44: a new year", x.peak(3, 12, 1), 0);
    due("44: a new year", x.peak(3, 1, 0), 0);
  }

  /** Each origin has months of its own. */
  private static void peakOfOrigins() {
    QuotaLicences x = Check.of(FULL);
    for (int origin = 0; origin < 4; origin++) {
      x.apply(origin, origin, 100);
    }
    for (int origin = 0; origin < 4; origin++) {
      x.use(origin, 1);
      if (origin > 0) {
        pass(x, 30 * (origin % 2));
        x.use(origin, 10 * origin);
      }
      x.excess(origin, origin, 500, 1);
    }
    int[] month = {0, 1, 1, 2};
    int[] much = {1, 10, 21, 30};
    for (int origin = 0; origin < 4; origin++) {
      due("44: the month of origin " + origin, x.peak(origin, 1, 0), month[origin]);
      due("44: how much of origin " + origin, x.peak(origin, 1, 1), much[origin]);
      due("44: the year of origin " + origin, x.peak(origin, 12, 1), 1 + 10 * origin);
    }
  }

  private static void evenEdges() {
    String three = "scheme 50 LOT 90 0 100 1;origin QUOTA;importer;importer;importer;importer;past 1 0 1 0 0";
    int[] quotas = {0, 1, 2, 3, 4, 5, 6, 11, 12};
    int[][] parts = {{0, 0, 0}, {1, 0, 0}, {1, 0, 0}, {1, 1, 0}, {1, 1, 0}, {1, 1, 1}, {1, 1, 1}, {2, 2, 2}, {2, 2, 2}};
    for (int i = 0; i < quotas.length; i++) {
      QuotaLicences x = Check.of(three.replace("LOT", "99999").replace("QUOTA", "" + quotas[i]));
      due("45: of quota " + quotas[i], x.even(0, 0), parts[i][0]);
      due("45: of quota " + quotas[i], x.even(2, 0), parts[i][1]);
      due("45: of quota " + quotas[i], x.even(3, 0), parts[i][2]);
      due("45: a traditional one", x.even(1, 0), -1);
    }
    QuotaLicences lot = Check.of(three.replace("LOT", "4").replace("QUOTA", "28"));
    due("45: 5, LOT 4", lot.even(0, 0), 4);
    due("45: 5, LOT 4", lot.even(2, 0), 4);
    due("45: 4, LOT 4", lot.even(3, 0), 4);
    lot.set(1, 5);
    due("45: 5, LOT 5", lot.even(0, 0), 5);
    due("45: 4, LOT 5", lot.even(3, 0), 4);
    lot.set(1, 1);
    due("45: 5, LOT 1", lot.even(0, 0), 1);
    QuotaLicences full = Check.of(FULL);
    full.widen(3, 15);
    due("45: eight in this period", full.even(7, 3), 1125);
    pass(full, 360);
    for (int i = 0; i < 8; i++) {
      due("45: 15 for eight", full.even(i, 3), i < 7 ? 2 : 1);
    }
    due("45: one newcomer alone", Check.of("scheme 50 9 1 0 0 1;origin 8;importer;importer;past 0 0 1 1 1").even(1, 0), 4);
    QuotaLicences none = Check.of("scheme 0 1 1 0 0 1;origin 9;importer;past 0 0 1 1 1");
    due("45: no newcomers", none.even(0, 0), -1);
  }

  private static void futureEdges() {
    QuotaLicences x = Check.of(S);
    due("46: years 1, 2 of three are enough", x.future(0, 0), 600);
    due("46: year 0 alone", x.future(1, 0), 0);
    due("46: a newcomer", x.future(3, 0), 0);
    x.excess(3, 0, 1, 1);
    due("46: this year alone", x.future(3, 0), 0);
    x.set(5, 1);
    due("46: NEED as told: 600 by 500 of 721", x.future(0, 0), 416);
    due("46: 600 by 150 of 721", x.future(1, 0), 124);
    due("46: 600 by 70 of 721", x.future(2, 0), 58);
    due("46: 600 by 1 of 721", x.future(3, 0), 0);
    x.widen(0, 99999);
    due("46: QUOTA as told: 59999 by 1 of 721", x.future(3, 0), 83);
    x.set(0, 0);
    due("46: PART as told", x.future(0, 0), 0);
    x.set(0, 100);
    due("46: PART as told", x.future(3, 0), 138);
    int[] told = {x.future(0, 0), x.future(1, 0), x.future(2, 0), x.future(3, 0), x.future(1, 1)};
    pass(x, 359);
    due("46: the last day of the year", x.future(3, 0), told[3]);
    pass(x, 1);
    for (int i = 0; i < 4; i++) {
      due("46: so it is, " + i, x.share(i, 0, 0), told[i]);
    }
    due("46: so it is", x.share(1, 1, 0), told[4]);
    futureNeed();
    QuotaLicences none = Check.of("scheme 100 1 1 0 0 1;origin 9;importer;past 0 0 9 0 0");
    due("46: what is year 2 will be gone", none.future(0, 0), 0);
    due("23: now it is not", none.share(0, 0, 0), 9);
    none.excess(0, 0, 1, 1);
    due("46: one is enough", none.future(0, 0), 9);
  }

  /** One piece a year is some: years 1 and 0 and this one count, each once. */
  private static void futureNeed() {
    String[] years = {"9 0 0", "9 1 0", "9 0 1", "9 1 1"};
    int[] many = {0, 1, 1, 2};
    for (int i = 0; i < 4; i++) {
      for (int need = 1; need <= 3; need++) {
        QuotaLicences x = Check.of("scheme 100 1 1 0 0 " + need + ";origin 10;importer;past 0 0 " + years[i]);
        due("46: " + years[i] + ", NEED " + need, x.future(0, 0), many[i] >= need ? 10 : 0);
        x.excess(0, 0, 1, 1);
        due("46: " + years[i] + " and 1, NEED " + need, x.future(0, 0), many[i] + 1 >= need ? 10 : 0);
      }
    }
  }

  private static void likelyEdges() {
    QuotaLicences x = Check.of(S);
    due("47: nothing", x.likely(0), 0);
    x.apply(0, 0, 10);
    Check.dueDouble("47: 1, if rate() is -1", x.likely(0), 10.0);
    x.use(0, 3);
    Check.dueDouble("47: what is left", x.likely(0), 7.0);
    x.apply(0, 0, 3);
    x.use(1, 1);
    x.giveBack(1);
    Check.dueDouble("47: times rate()", x.likely(0), 7.0 * (1.0 / 3.0));
    x.apply(1, 0, 9);
    x.apply(1, 0, 7);
    x.use(3, 2);
    x.giveBack(3);
    x.apply(0, 0, 11);
    double sum = 7.0 * (1.0 / 3.0);
    sum = sum + 9.0 * (2.0 / 7.0);
    sum = sum + 11.0 * (1.0 / 3.0);
    Check.dueDouble("47: by numbers", x.likely(0), sum);
    due("47: of another origin", x.likely(1), 0);
    x.apply(3, 1, 1);
    x.hand(5, 2, 1);
    Check.dueDouble("47: of the one that it is of now", x.likely(1), 1.0);
    QuotaLicences y = Check.of(S);
    y.apply(0, 0, 5);
    y.giveBack(0);
    y.apply(0, 0, 5);
    due("47: a rate of 0", y.likely(0), 0);
    y.set(1, 1);
    pass(y, 60);
    due("47: lapsed", y.likely(0), 0);
  }

  // ---- 48 to 54 ----

  private static void rootEdges() {
    QuotaLicences x = Check.of(FULL);
    x.apply(1, 0, 5);
    x.apply(0, 0, 100);
    for (int i = 2; i < 60; i++) {
      due("8: from hand to hand", x.hand(i - 1, i % 2 == 0 ? 1 : 0, 100), i);
    }
    due("48: itself", x.root(0, 0), 0);
    due("48: by no hand", x.root(0, 1), 0);
    due("48: itself", x.root(1, 0), 1);
    due("48: by no hand", x.root(1, 1), 0);
    for (int i = 2; i < 60; i++) {
      due("48: root(" + i + ", 0)", x.root(i, 0), 1);
      due("48: root(" + i + ", 1)", x.root(i, 1), i - 1);
    }
    QuotaLicences y = Check.of(FULL);
    y.apply(0, 0, 100);
    for (int i = 1; i < 60; i++) {
      y.hand(i - 1, i % 2, 100);
    }
    due("48: by 59 hands", y.root(59, 1), 59);
    due("48: by 59 hands", y.root(59, 0), 0);
    y.undo();
    y.apply(3, 0, 5);
    due("48: another one in its place", y.root(59, 0), 59);
    due("48: another one in its place", y.root(59, 1), 0);
  }

  private static void medianEdges() {
    due("49: there are none", Check.of(FULL).median(3), -2);
    due("49: without importers", Check.of("scheme 0 1 1 0 0 1;origin 1").median(0), -2);
    String text = "scheme 50 1 1 0 0 1;origin 9" + ";importer".repeat(8);
    int[] sums = {8, 3, 9, 3, 1, 7, 2, 300};
    int[] want = {8, 3, 8, 3, 3, 3, 3, 3};
    for (int i = 0; i < 8; i++) {
      text = text + (i == 7 ? ";past 7 0 100 100 100" : ";past " + i + " 0 0 1 " + (sums[i] - 1));
      due("49: of " + (i + 1), Check.of(text).median(0), want[i]);
    }
    String three = "scheme 50 1 1 0 0 1;origin 9;importer;importer;importer";
    int[][] orders = {{1, 2, 3}, {1, 3, 2}, {2, 1, 3}, {2, 3, 1}, {3, 1, 2}, {3, 2, 1}};
    for (int[] one : orders) {
      String told = three + ";past 0 0 0 0 " + one[0] + ";past 1 0 0 " + one[1] + " 0;past 2 0 " + one[2] + " 0 0";
      due("49: of three, in any order", Check.of(told).median(0), 2);
    }
    QuotaLicences x = Check.of(S);
    due("49: of two the lesser", x.median(0), 200);
    due("49: of one", x.median(1), 60);
    x.excess(0, 0, 50, 1);
    due("49: of years that are over", x.median(0), 200);
    x.set(5, 1);
    due("49: as they are in this period", x.median(0), 200);
    pass(x, 90);
    due("49: a newcomer became one: 70, 200, 600", x.median(0), 200);
    pass(x, 270);
    due("49: 70, 150, 550", x.median(0), 150);
  }

  private static void rushEdges() {
    String text = "scheme 50 40 30 50 200 1;origin QUOTA;importer;importer;importer;importer;past 1 0 1 0 0";
    int[] quotas = {0, 2, 118, 120, 122, 160, 162, 240};
    int[][] wants = {{0, 0, 0, 0}, {1, 1, 0, 0}, {30, 30, 29, 0}, {30, 30, 30, 0}, {30, 30, 30, 1}, {30, 30, 30, 20},
      {30, 30, 30, 21}, {30, 30, 30, 30}};
    for (int i = 0; i < quotas.length; i++) {
      QuotaLicences x = Check.of(text.replace("QUOTA", "" + quotas[i]));
      for (int importer = 0; importer < 4; importer++) {
        due("50: quota " + quotas[i] + ", importer " + importer, x.rush(importer, 0, 30), wants[i][importer]);
      }
      due("50: nothing is done by it", x.count(2), 0);
    }
    QuotaLicences x = Check.of(text.replace("QUOTA", "200"));
    due("50: LOT", x.rush(0, 0, 40), 40);
    due("50: LOT and 1", x.rush(0, 0, 41), 0);
    due("50: LOT and 1 of a traditional one", x.rush(1, 0, 41), 41);
    due("50: all of its share", x.rush(1, 0, 99999), 100);
    x.apply(2, 0, 10);
    due("50: granted: nothing", x.rush(2, 0, 40), 0);
    due("50: 90 less 40", x.rush(3, 0, 40), 40);
    x.giveBack(0);
    pass(x, 90);
    due("50: idle: nothing", x.rush(2, 0, 40), 0);
    due("50: and the next one gets it", x.rush(3, 0, 40), 40);
    x.apply(1, 0, 100);
    due("50: nothing is left of its share", x.rush(1, 0, 1), 0);
  }

  /** Who comes behind the sixtieth licence gets nothing. */
  private static void rushSixty() {
    for (int there = 56; there <= 60; there++) {
      QuotaLicences x = Check.of(S);
      for (int i = 0; i < there; i++) {
        x.apply(1, 1, 1);
      }
      for (int importer = 0; importer < 4; importer++) {
        due("50: " + there + " are there, importer " + importer, x.rush(importer, 0, 5), there + importer < 60 ? 5 : 0);
      }
    }
    QuotaLicences y = Check.of(S);
    y.lend(0, 1, 0, 450);
    for (int i = 0; i < 59; i++) {
      y.apply(1, 1, 1);
    }
    due("50: who gets nothing takes no place", y.rush(0, 0, 5), 0);
    due("50: so the next one has it", y.rush(1, 0, 5), 5);
    due("50: and the one behind it not", y.rush(2, 0, 5), 0);
  }

  private static void stoodEdges() {
    QuotaLicences x = Check.of(S);
    x.apply(0, 0, 10);
    due("51: no day is ahead of day 0", x.stood(0, 0), -1);
    due("51: below 0", x.stood(0, -1), -1);
    pass(x, 1);
    due("51: day 0", x.stood(0, 0), 10);
    due("51: this day", x.stood(0, 1), -1);
    due("51: the day behind", x.stood(0, 2), -1);
    due("51: below 0", x.stood(0, -1), -1);
    pass(x, 1);
    x.apply(0, 0, 3);
    pass(x, 1);
    due("51: the day ahead of its issue", x.stood(0, 1), 10);
    due("51: the day of its issue", x.stood(0, 2), 13);
    due("51: of another origin", x.stood(1, 2), 0);
    due("51: the last that can be asked", x.stood(0, x.count(4) - 1), 13);
    due("51: the first that cannot", x.stood(0, x.count(4)), -1);
  }

  private static void stoodEnds() {
    QuotaLicences x = Check.of(S);
    x.apply(0, 0, 1);
    x.apply(0, 0, 10);
    x.apply(0, 0, 100);
    x.apply(1, 0, 50);
    pass(x, 2);
    x.use(0, 1);
    pass(x, 1);
    x.giveBack(1);
    x.hand(3, 2, 20);
    pass(x, 1);
    due("51: all are open", x.stood(0, 1), 161);
    due("51: used up on it", x.stood(0, 2), 160);
    due("51: given back on it", x.stood(0, 3), 150);
    x.hand(2, 1, 30);
    due("51: as told now", x.stood(0, 3), 150);
    x.hand(3, 0, 30);
    due("51: the first one is of 0 now", x.stood(0, 1), 161);
    pass(x, 25);
    due("51: the day ahead of the last one", x.stood(0, 28), 150);
    pass(x, 1);
    due("51: the last one: lapsed on it", x.stood(0, 29), 0);
    due("51: the day ahead", x.stood(0, 28), 150);
    due("51: and the first ones", x.stood(0, 0), 161);
    pass(x, 1);
    due("51: lapsed ahead", x.stood(0, 30), 0);
  }

  private static void owingEdges() {
    int[][] cases = {{0, 100, 0}, {1, 1, 1}, {1, 100, 1}, {50, 1, 1}, {50, 2, 1}, {50, 3, 2}, {50, 100, 50}, {99, 1, 1},
      {99, 100, 99}, {100, 1, 1}, {100, 100, 100}, {33, 3, 1}, {34, 3, 2}, {67, 100, 67}, {66, 99, 66}};
    for (int[] one : cases) {
      QuotaLicences x = Check.of(S);
      x.set(3, one[0]);
      x.apply(0, 0, one[1]);
      due("52: SURETY " + one[0] + " of " + one[1], x.owing(0), one[2]);
      due("41: as owing()", x.risk(-1), one[2] > 0 ? 1 : 0);
      for (int used = 1; used < one[1]; used++) {
        x.use(0, 1);
        due("52: SURETY " + one[0] + " of " + one[1] + ", used " + used, x.owing(0), Math.max(0, one[2] - used));
        due("41: as owing()", x.risk(-1), one[2] > used ? 1 : 0);
      }
      if (one[1] > 1) {
        x.use(0, 1);
      }
      x.giveBack(0);
      due("52: of open ones", x.owing(0), 0);
    }
    QuotaLicences y = Check.of(S);
    y.apply(1, 0, 3);
    y.apply(1, 1, 3);
    y.apply(0, 0, 3);
    due("52: each by itself", y.owing(1), 4);
    y.use(0, 3);
    due("52: what is over of one is not for the other", y.owing(1), 2);
  }

  private static void holdsEdges() {
    QuotaLicences x = Check.of(S);
    due("53: how many", x.holds(0, 0), 0);
    due("53: nothing left", x.holds(0, 1), 0);
    due("53: no last day", x.holds(0, 2), -2);
    due("53: no days", x.holds(0, 3), -2);
    x.set(2, 1);
    x.apply(0, 0, 5);
    due("53: one", x.holds(0, 0), 1);
    due("53: left", x.holds(0, 1), 5);
    due("53: day 0", x.holds(0, 2), 0);
    due("53: this day, too", x.holds(0, 3), 1);
    x.set(2, 30);
    x.apply(0, 0, 7);
    due("53: the earliest", x.holds(0, 2), 0);
    pass(x, 1);
    due("53: one lapsed", x.holds(0, 0), 1);
    due("53: one lapsed", x.holds(0, 1), 7);
    due("53: one lapsed", x.holds(0, 2), 29);
    due("53: two days", x.holds(0, 3), 2);
    x.set(2, 3);
    x.apply(0, 0, 9);
    due("53: two", x.holds(0, 0), 2);
    due("53: the earliest", x.holds(0, 2), 3);
    due("53: the longest", x.holds(0, 3), 2);
    x.hand(1, 3, 2);
    due("53: open as long as the first one", x.holds(3, 3), 2);
    x.use(1, 5);
    due("53: the other one", x.holds(0, 3), 1);
    x.giveBack(2);
    due("53: none", x.holds(0, 0), 0);
    due("53: none", x.holds(0, 2), -2);
    due("53: none", x.holds(0, 3), -2);
    pass(x, 28);
    due("53: on its last day", x.holds(3, 3), 30);
    pass(x, 1);
    due("53: lapsed", x.holds(3, 3), -2);
  }

  private static void totalEdges() {
    QuotaLicences x = Check.of(S);
    for (int what = 0; what < 5; what++) {
      due("54: nothing, what " + what, x.total(what), 0);
    }
    x.apply(0, 0, 10);
    x.apply(3, 1, 20);
    x.hand(1, 2, 5);
    x.use(0, 4);
    x.giveBack(0);
    x.excess(3, 0, 6, 1);
    pass(x, 360);
    int[] want = {30, 4, 6, 20, 6};
    for (int what = 0; what < 5; what++) {
      due("54: of the year that is over, what " + what, x.total(what), want[what]);
    }
    x.apply(0, 0, 1);
    x.use(3, 1);
    x.excess(3, 1, 1, 1);
    due("54: of all years: granted", x.total(0), 31);
    due("54: of all years: imported", x.total(1), 5);
    due("54: of all years: without", x.total(4), 7);
    due("54: without a scheme", new QuotaLicences().total(0), -1);
  }

  // ---- as many as there can be ----

  /** The last of eight importers and of four origins. */
  private static void fullPairs() {
    QuotaLicences x = Check.of(FULL + ";past 7 3 30 20 10;past 7 2 1 1 1;past 6 3 6 6 6");
    due("21: sort(7, 3)", x.sort(7, 3), 1);
    due("21: sort(6, 3)", x.sort(6, 3), 1);
    due("21: sort(5, 3)", x.sort(5, 3), 0);
    Check.dueDouble("22: mean(7, 3)", x.mean(7, 3), 20.0);
    due("37: shareAt(7, 3, 100)", x.shareAt(7, 3, 100), 6923);
    due("37: shareAt(6, 3, 100)", x.shareAt(6, 3, 100), 2076);
    due("49: median(3)", x.median(3), 18);
    x.excess(7, 3, 99999, 9999);
    due("20: past(7, 3, 3)", x.past(7, 3, 3), 99999);
    Check.dueDouble("28: owed(7)", x.owed(7), 999890001.0 * 100.0 / 1000.0);
    x.set(0, 100);
    pass(x, 90);
    due("23: share(7, 3, 0)", x.share(7, 3, 0), 6923);
    due("10: lend(7, 6, 3, 6923)", x.lend(7, 6, 3, 6923), 0);
    due("23: share(6, 3, 1)", x.share(6, 3, 1), 8999);
    due("45: even(0, 3)", x.even(0, 3), 1501);
    due("45: even(5, 3)", x.even(5, 3), 1500);
    due("5: apply(6, 3, 99999)", x.apply(6, 3, 99999), 0);
    due("24: granted", x.licence(0, 2), 8999);
    x.use(0, 8999);
    due("25: month(6, 3)", x.month(6, 3), 8999);
    due("33: order(0)", x.order(0), 6);
    due("33: order(7)", x.order(7), 7);
    due("32: best(7, 99999, 0)", x.best(7, 99999, 0), 0);
    due("46: future(7, 3)", x.future(7, 3), 8256);
    pass(x, 270);
    due("20: past(7, 3, 0)", x.past(7, 3, 0), 99999);
    due("23: as future()", x.share(7, 3, 0), 8256);
  }

  /** Sixty licences, one behind the other from one: 0 keeps 41, the others have one each. */
  private static void fullBook() {
    QuotaLicences x = Check.of(FULL);
    x.apply(0, 3, 100);
    for (int i = 1; i < 60; i++) {
      x.hand(0, 1 + i % 7, 1);
    }
    due("59: licences", x.count(2), 60);
    due("59: open ones", x.count(3), 60);
    due("24: licence(59, 2)", x.licence(59, 2), 1);
    due("24: licence(59, 0)", x.licence(59, 0), 4);
    due("24: licence(60, 0)", x.licence(60, 0), -1);
    due("31: next(59)", x.next(59), 59);
    due("31: next(60)", x.next(60), -2);
    due("30: lapses(90)", x.lapses(90), 100);
    due("30: lapses(89)", x.lapses(89), 0);
    Check.dueDouble("47: likely(3)", x.likely(3), 100.0);
    x.set(3, 100);
    due("41: risk(-1)", x.risk(-1), 60);
    due("41: risk(59)", x.risk(59), 59);
    due("41: risk(60)", x.risk(60), -2);
    due("52: owing(4)", x.owing(4), 9);
    due("53: holds(4, 0)", x.holds(4, 0), 9);
    due("53: holds(4, 1)", x.holds(4, 1), 9);
    due("53: holds(4, 2)", x.holds(4, 2), 89);
    due("53: holds(4, 3)", x.holds(4, 3), 1);
    due("42: lacks(4, 3, 10)", x.lacks(4, 3, 10), 1);
    due("36: window()", x.window(), 1);
    due("9: merge(59, 4)", x.merge(59, 4), -3);
    due("9: merge(59, 52)", x.merge(59, 52), 2);
    pass(x, 1);
    due("51: stood(3, 0)", x.stood(3, 0), 100);
    due("6: use(59, 2)", x.use(59, 2), 0);
    Check.dueDouble("38: speed(59)", x.speed(59), 1.0);
    due("39: fastest(3)", x.fastest(3), 4);
    Check.dueDouble("26: rate(4)", x.rate(4), 1.0);
    due("27: idle(4, 3)", x.idle(4, 3), 0);
    due("12: days(90)", x.days(90), 98);
    due("27: idle(4, 3)", x.idle(4, 3), 1);
    due("59: open ones", x.count(3), 0);
    due("19: origin(3, 2)", x.origin(3, 2), 8998);
  }

  /** Sixty licences of one importer, all granted, all as great as can be together. */
  private static void fullBookOfOne() {
    QuotaLicences x = Check.of("scheme 100 1 90 100 2000 1;origin 99999;importer;importer;past 0 0 1 1 1");
    for (int i = 0; i < 60; i++) {
      due("5: apply() " + i, x.apply(0, 0, i < 59 ? 1600 : 99999), i);
    }
    due("24: the sixtieth has the rest", x.licence(59, 2), 99999 - 59 * 1600);
    due("53: left together", x.holds(0, 1), 99999);
    due("52: owing", x.owing(0), 99999);
    due("42: lacks()", x.lacks(0, 0, 99999), 0);
    Check.dueDouble("34: focus", x.focus(0), 1.0);
    pass(x, 89);
    for (int i = 1; i < 60; i++) {
      x.merge(0, i);
    }
    due("9: all in one", x.licence(0, 7), 99999);
    due("6: use(0, 99999)", x.use(0, 99999), 0);
    Check.dueDouble("38: speed(0)", x.speed(0), 89.0);
    due("19: imported", x.origin(0, 5), 99999);
    Check.dueDouble("26: rate(0)", x.rate(0), 1.0);
    due("43: pace(0)", x.pace(0), Float.floatToIntBits(99999.0f / 90.0f));
    due("5: there are still 60", x.apply(1, 0, 1), -2);
  }
}

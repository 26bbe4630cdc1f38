import java.util.function.ToLongFunction;

/** The edges of the acts, of undoing and of keeping: promises 5 to 17, and part II of the terms. */
public final class ActEdgesTest {
  /** Origin 0: shares 450 and 150, pool 400; origin 1: share 300 of importer 1, pool 200; 3 is ever a newcomer. */
  private static final String S = "scheme 60 100 30 50 200 2;origin 1000;origin 500;importer;importer;importer;importer"
      + ";past 0 0 100 200 300;past 1 0 50 0 150;past 1 1 10 20 30;past 2 0 0 0 70";
  /** All are newcomers; a licence is valid for 90 days, and must be used by half. */
  private static final String N = "scheme 0 100 90 50 100 1;origin 300;origin 300;importer;importer;importer";

  private ActEdgesTest() {
  }

  public static void main(String[] args) {
    applying();
    using();
    handing();
    lending();
    passing();
    keeping();
    Check.close("ActEdgesTest");
  }

  private static void applying() {
    applyShare();
    applyPool();
    applyLot();
    applyOnce();
    applyOnceByPeriods();
    applyIdle();
    applyIdleOpen();
    applyIdleLast();
    applySixty();
    applyOrder();
    lastDays();
  }

  private static void using() {
    useEdges();
    useEnded();
    giveBackEdges();
    returnedByGiving();
    returnedByLapse();
  }

  private static void handing() {
    handEdges();
    handEnded();
    handSixty();
    handAsIssued();
    mergeEdges();
    mergeUnlike();
    mergeEnded();
  }

  private static void lending() {
    lendEdges();
    lendNewcomers();
    excessEdges();
    excessSums();
    widenEdges();
    setEdges();
    setHoldsFrom();
  }

  private static void passing() {
    daysUpTo3600();
    daysOneByOne();
    daysLapse();
    periodBegins();
    sharesDownwards();
    needOfYears();
    carriedWithinTheYear();
    yearsGrowOld();
  }

  private static void keeping() {
    refusedActs();
    undoTen();
    undoEach();
    undoAndAct();
    undoLeavesNothing();
    notActs();
    shelfEdges();
    shelvesAside();
    backLeavesNothing();
    backToOtherLicences();
    backAheadOfLicences();
  }

  private static void due(String call, long got, long want) {
    Check.due(call, got, want);
  }

  private static void pass(QuotaLicences x, int many) {
    for (int left = many; left > 0; left -= 90) {
      Check.isTrue("12: days() pass", x.days(Math.min(left, 90)) >= 0);
    }
  }

  /** An act that is refused changes nothing that can be asked. */
  private static void refused(String name, QuotaLicences x, ToLongFunction<QuotaLicences> act, long want) {
    String look = Look.ofAll(x);
    due(name, act.applyAsLong(x), want);
    Check.dueText(name + ": nothing happens", Look.ofAll(x), look);
  }

  // ---- 5: apply ----

  private static void applyShare() {
    QuotaLicences x = Check.of(S);
    due("5: 449 of a share of 450", x.apply(0, 0, 449), 0);
    due("5: granted", x.licence(0, 2), 449);
    due("5: 1 is left", x.share(0, 0, 1), 1);
    due("5: 2 of what is left", x.apply(0, 0, 2), 1);
    due("5: granted what is left", x.licence(1, 2), 1);
    refused("5: nothing is left", x, y -> y.apply(0, 0, 1), -6);
    due("5: the pool is not for it", x.origin(0, 3), 400);
    QuotaLicences all = Check.of(S);
    due("5: 450 of 450", all.apply(0, 0, 450), 0);
    due("5: granted", all.licence(0, 2), 450);
    due("5: nothing is left", all.share(0, 0, 1), 0);
    QuotaLicences more = Check.of(S);
    due("5: 451 of 450", more.apply(0, 0, 451), 0);
    due("5: granted what is left", more.licence(0, 2), 450);
    QuotaLicences most = Check.of("scheme 100 1 1 0 0 1;origin 99999;importer;past 0 0 1 0 0");
    due("5: 99999 of 99999", most.apply(0, 0, 99999), 0);
    due("5: granted", most.licence(0, 2), 99999);
    QuotaLicences none = Check.of("scheme 0 1 1 0 0 1;origin 99999;importer;past 0 0 1 0 0");
    refused("5: a share of 0", none, y -> y.apply(0, 0, 1), -6);
  }

  private static void applyPool() {
    QuotaLicences x = Check.of(N);
    x.set(1, 99999);
    due("5: 299 of a pool of 300", x.apply(0, 0, 299), 0);
    due("5: 1 is in it", x.origin(0, 3), 1);
    due("5: 2 of it", x.apply(1, 0, 2), 1);
    due("5: granted what is in it", x.licence(1, 2), 1);
    refused("5: nothing is in it", x, y -> y.apply(2, 0, 1), -6);
    due("5: the other pool is full", x.origin(1, 3), 300);
    QuotaLicences all = Check.of(N);
    all.set(1, 99999);
    due("5: 300 of 300", all.apply(2, 1, 300), 0);
    due("5: granted", all.licence(0, 2), 300);
    due("5: nothing is in it", all.origin(1, 3), 0);
    QuotaLicences more = Check.of(N);
    more.set(1, 99999);
    due("5: 99999 of 300", more.apply(0, 0, 99999), 0);
    due("5: granted what is in it", more.licence(0, 2), 300);
    refused("5: a quota of 0", Check.of("scheme 0 1 1 0 0 1;origin 0;importer"), y -> y.apply(0, 0, 1), -6);
    due("5: a quota of 1", Check.of("scheme 0 1 1 0 0 1;origin 1;importer").apply(0, 0, 1), 0);
  }

  private static void applyLot() {
    refused("5: a newcomer asks for LOT and 1", Check.of(N), y -> y.apply(0, 0, 101), -3);
    due("5: a newcomer asks for LOT", Check.of(N).apply(0, 0, 100), 0);
    QuotaLicences x = Check.of(N);
    x.set(1, 101);
    refused("5: LOT as it is told now", x, y -> y.apply(0, 0, 102), -3);
    due("5: LOT as it is told now", x.apply(0, 0, 101), 0);
    x.set(1, 1);
    refused("5: LOT 1", x, y -> y.apply(1, 0, 2), -3);
    due("5: LOT 1", x.apply(1, 0, 1), 1);
    due("5: a traditional one above LOT", Check.of(S).apply(0, 0, 101), 0);
    due("5: one that is traditional elsewhere", Check.of(S).apply(0, 1, 101), -3);
  }

  private static void applyOnce() {
    QuotaLicences x = Check.of(N);
    x.set(3, 0);
    due("5: once", x.apply(0, 0, 1), 0);
    refused("5: twice", x, y -> y.apply(0, 0, 1), -4);
    due("5: another origin", x.apply(0, 1, 1), 1);
    due("5: another importer", x.apply(1, 0, 1), 2);
    x.use(0, 1);
    due("5: twice, used up", x.apply(0, 0, 1), -4);
    x.giveBack(1);
    due("5: twice, given back", x.apply(0, 1, 1), -4);
    x.hand(2, 2, 1);
    due("5: twice, handed on", x.apply(1, 0, 1), -4);
    due("5: what was handed to one is not granted", x.apply(2, 0, 1), 4);
    due("5: then it is", x.apply(2, 0, 1), -4);
    x.undo();
    due("5: undone", x.apply(2, 0, 1), 4);
    QuotaLicences y = Check.of(S);
    due("5: a traditional one, once", y.apply(0, 0, 1), 0);
    due("5: a traditional one, twice", y.apply(0, 0, 1), 1);
  }

  private static void applyOnceByPeriods() {
    QuotaLicences x = Check.of(N);
    x.set(3, 0);
    x.apply(0, 0, 1);
    pass(x, 89);
    due("5: the last day of the period", x.apply(0, 0, 1), -4);
    pass(x, 1);
    due("5: the first day of the next", x.apply(0, 0, 1), 1);
    due("5: once in it", x.apply(0, 0, 1), -4);
    pass(x, 90);
    due("5: and in the next", x.apply(0, 0, 1), 2);
  }

  /** A newcomer got so much, used so much of it, and comes again in the next period. */
  private static int again(int surety, int amount, int used) {
    QuotaLicences x = Check.of(N);
    x.set(3, surety);
    x.apply(0, 0, amount);
    for (int i = 0; i < used; i++) {
      x.use(0, 1);
    }
    pass(x, 90);
    due("27: idle() as apply()", x.idle(0, 0), x.apply(0, 0, 1) == -5 ? 1 : 0);
    return x.count(2) == 2 ? 1 : x.apply(0, 0, 1);
  }

  private static void applyIdle() {
    due("5: 49 of 100 at 50", again(50, 100, 49), -5);
    due("5: 50 of 100 at 50", again(50, 100, 50), 1);
    due("5: 1 of 3 at 50", again(50, 3, 1), -5);
    due("5: 2 of 3 at 50", again(50, 3, 2), 1);
    due("5: 0 of 100 at 0", again(0, 100, 0), 1);
    due("5: 0 of 1 at 1", again(1, 1, 0), -5);
    due("5: 0 of 100 at 1", again(1, 100, 0), -5);
    due("5: 1 of 100 at 1", again(1, 100, 1), 1);
    due("5: 99 of 100 at 100", again(100, 100, 99), -5);
    due("5: 100 of 100 at 100", again(100, 100, 100), 1);
    due("5: 65 of 99 at 66", again(66, 99, 65), -5);
    due("5: 66 of 99 at 66", again(66, 99, 66), 1);
    QuotaLicences x = Check.of(N);
    x.apply(0, 0, 100);
    x.use(0, 49);
    pass(x, 90);
    refused("5: idle", x, y -> y.apply(0, 0, 1), -5);
    due("5: of another origin", x.would(0, 1, 1), 1);
    due("5: another importer", x.would(1, 0, 1), 1);
    x.set(3, 49);
    due("5: SURETY as it is told now", x.apply(0, 0, 1), 1);
    QuotaLicences y = Check.of(S);
    y.apply(0, 0, 10);
    y.giveBack(0);
    due("27: a traditional one is idle", y.idle(0, 0), 1);
    due("5: and is not kept out", y.apply(0, 0, 10), 1);
  }

  /** What is open has not ended. */
  private static void applyIdleOpen() {
    QuotaLicences x = Check.of(N);
    pass(x, 10);
    x.apply(0, 0, 5);
    pass(x, 80);
    due("5: an open one", x.would(0, 0, 1), 1);
    pass(x, 9);
    due("5: open on its last day", x.would(0, 0, 1), 1);
    pass(x, 1);
    due("5: it lapsed", x.would(0, 0, 1), -5);
    due("27: it lapsed", x.idle(0, 0), 1);
    pass(x, 90);
    due("5: for good", x.would(0, 0, 1), -5);
    pass(x, 360);
    due("5: in the next year, too", x.would(0, 0, 1), -5);
  }

  /** Importer 0 has licences 0 (10) and 2 (5, from the hands of 1). */
  private static QuotaLicences two() {
    QuotaLicences x = Check.of(N);
    x.apply(0, 0, 10);
    x.apply(1, 0, 10);
    due("8: hand(1, 0, 5)", x.hand(1, 0, 5), 2);
    pass(x, 1);
    return x;
  }

  private static void applyIdleLast() {
    QuotaLicences x = two();
    x.giveBack(0);
    pass(x, 1);
    x.use(2, 5);
    due("27: the later day, the greater number", x.idle(0, 0), 0);
    x = two();
    x.use(2, 5);
    pass(x, 1);
    x.giveBack(0);
    due("27: the later day, the lesser number", x.idle(0, 0), 1);
    x = two();
    x.use(2, 5);
    x.giveBack(0);
    due("27: one day: the greater number", x.idle(0, 0), 0);
    x = two();
    x.giveBack(2);
    x.use(0, 10);
    due("27: one day: the greater number", x.idle(0, 0), 1);
    x = two();
    pass(x, 88);
    x.use(2, 5);
    pass(x, 1);
    due("27: lapsed on the day on which the other was used up", x.idle(0, 0), 0);
    x = two();
    pass(x, 88);
    x.use(0, 10);
    pass(x, 1);
    due("27: lapsed on the day on which the other was used up", x.idle(0, 0), 1);
    x = two();
    x.giveBack(0);
    x.hand(2, 1, 5);
    due("27: one of 0 is not idle", x.idle(0, 0), 0);
    x = two();
    x.giveBack(2);
    pass(x, 1);
    x.hand(0, 1, 10);
    due("27: one of 0 that ended last is not idle", x.idle(0, 0), 0);
  }

  private static void applySixty() {
    QuotaLicences x = Check.of(S);
    for (int i = 0; i < 59; i++) {
      due("5: apply() " + i, x.apply(0, 0, 1), i);
    }
    due("5: the sixtieth", x.apply(0, 0, 1), 59);
    due("5: there are 60", x.apply(0, 0, 1), -2);
    due("5: there are 60", x.apply(1, 1, 1), -2);
    due("5: 60 stay", x.count(2), 60);
    due("5: acts stay", x.count(5), 10);
    due("5: share stays", x.share(0, 0, 1), 390);
    x.giveBack(0);
    due("5: ended ones count", x.apply(0, 0, 1), -2);
    x.undo();
    x.undo();
    due("5: 59 after undo()", x.apply(1, 1, 7), 59);
    due("5: its importer", x.licence(59, 0), 1);
  }

  /** The first of the refusals that is so is told. */
  private static void applyOrder() {
    QuotaLicences x = Check.of(S);
    x.apply(3, 0, 5);
    x.giveBack(0);
    due("5: above LOT ahead of granted", x.apply(3, 0, 101), -3);
    due("5: granted ahead of idle", x.apply(3, 0, 5), -4);
    for (int i = 1; i < 60; i++) {
      x.apply(0, 0, 1);
    }
    due("5: NONE ahead of 60: n", x.apply(3, 0, 0), -1);
    due("5: NONE ahead of 60: n", x.apply(3, 0, 100000), -1);
    due("5: NONE ahead of 60: importer", x.apply(4, 0, 1), -1);
    due("5: NONE ahead of 60: origin", x.apply(3, 2, 1), -1);
    due("5: 60 ahead of above LOT", x.apply(3, 0, 101), -2);
    due("5: 60 ahead of granted", x.apply(3, 0, 5), -2);
    QuotaLicences y = Check.of("scheme 0 100 90 50 100 1;origin 10;importer;importer;importer");
    y.apply(0, 0, 5);
    y.giveBack(0);
    y.apply(1, 0, 10);
    y.use(1, 10);
    due("5: granted ahead of nothing", y.apply(0, 0, 1), -4);
    due("5: above LOT ahead of nothing", y.apply(2, 0, 101), -3);
    due("5: nothing", y.apply(2, 0, 1), -6);
    y.widen(0, 0);
    pass(y, 90);
    due("5: above LOT ahead of idle", y.apply(0, 0, 101), -3);
    due("5: idle ahead of nothing", y.apply(0, 0, 1), -5);
    due("5: not idle: nothing", y.apply(1, 0, 1), -6);
    y.set(3, 0);
    due("5: not idle any more: nothing", y.apply(0, 0, 1), -6);
  }

  private static int lastDay(int valid, int day) {
    QuotaLicences x = Check.of("scheme 0 100 1 0 100 1;origin 300;importer");
    x.set(2, valid);
    pass(x, day);
    x.apply(0, 0, 1);
    due("24: issued on day " + day, x.licence(0, 3), day);
    return x.licence(0, 6);
  }

  private static void lastDays() {
    due("5: VALID 1", lastDay(1, 0), 0);
    due("5: VALID 2", lastDay(2, 0), 1);
    due("5: VALID 90", lastDay(90, 0), 89);
    due("5: VALID 90 on day 1", lastDay(90, 1), 90);
    due("5: VALID 90 on day 269", lastDay(90, 269), 358);
    due("5: VALID 90 on day 270", lastDay(90, 270), 359);
    due("5: VALID 90 on day 271", lastDay(90, 271), 359);
    due("5: VALID 2 on day 358", lastDay(2, 358), 359);
    due("5: VALID 2 on day 359", lastDay(2, 359), 359);
    due("5: VALID 1 on day 359", lastDay(1, 359), 359);
    due("5: VALID 90 on day 359", lastDay(90, 359), 359);
    due("5: VALID 90 on day 360", lastDay(90, 360), 449);
    due("5: VALID 90 on day 3599", lastDay(90, 3599), 3599);
    due("5: VALID 90 on day 3600", lastDay(90, 3600), 3689);
    QuotaLicences x = Check.of(S);
    x.apply(0, 0, 1);
    x.set(2, 10);
    x.apply(0, 0, 1);
    due("5: VALID as it was then", x.licence(0, 6), 29);
    due("5: VALID as it is then", x.licence(1, 6), 9);
  }

  // ---- 6, 7: use, giveBack ----

  private static QuotaLicences hundred() {
    QuotaLicences x = Check.of(S);
    x.apply(0, 0, 100);
    return x;
  }

  private static void useEdges() {
    refused("6: 101 of 100", hundred(), y -> y.use(0, 101), -3);
    refused("6: 99999 of 100", hundred(), y -> y.use(0, 99999), -3);
    QuotaLicences x = hundred();
    due("6: 99 of 100", x.use(0, 99), 1);
    due("6: it is open", x.licence(0, 5), 0);
    due("6: 1 is left", x.licence(0, 7), 1);
    refused("6: 2 of 1", x, y -> y.use(0, 2), -3);
    due("6: 1 of 1", x.use(0, 1), 0);
    due("6: it is used up", x.licence(0, 5), 1);
    QuotaLicences all = hundred();
    due("6: 100 of 100", all.use(0, 100), 0);
    due("6: it is used up", all.licence(0, 5), 1);
    due("6: nothing comes to the pool", all.origin(0, 3), 400);
    QuotaLicences one = hundred();
    due("6: 1 of 100", one.use(0, 1), 99);
    due("6: imported in the period", one.origin(0, 5), 1);
    due("6: imported in the year", one.past(0, 0, 3), 1);
    due("6: imported in the month", one.month(0, 0), 1);
    due("6: of all years", one.total(1), 1);
    QuotaLicences last = hundred();
    pass(last, 29);
    due("6: on its last day", last.use(0, 5), 95);
    pass(last, 1);
    refused("6: on the day behind it", last, y -> y.use(0, 5), -2);
  }

  private static void useEnded() {
    QuotaLicences x = hundred();
    x.apply(0, 0, 10);
    x.use(0, 100);
    x.giveBack(1);
    for (int licence = 0; licence < 2; licence++) {
      int one = licence;
      refused("6: it has ended", x, y -> y.use(one, 1), -2);
      refused("6: ended ahead of not so much", x, y -> y.use(one, 101), -2);
      refused("6: NONE ahead of ended", x, y -> y.use(one, 0), -1);
      refused("6: NONE ahead of ended", x, y -> y.use(one, 100000), -1);
      refused("7: it has ended", x, y -> y.giveBack(one), -2);
    }
  }

  private static void giveBackEdges() {
    due("7: all of it", hundred().giveBack(0), 100);
    QuotaLicences x = hundred();
    x.use(0, 99);
    due("7: the last one", x.giveBack(0), 1);
    due("7: to the pool", x.origin(0, 3), 401);
    due("7: not to the share", x.share(0, 0, 1), 350);
    due("7: of all years", x.total(2), 1);
    refused("7: again", x, y -> y.giveBack(0), -2);
    QuotaLicences last = hundred();
    pass(last, 29);
    due("7: on its last day", last.giveBack(0), 100);
    QuotaLicences late = hundred();
    pass(late, 30);
    refused("7: on the day behind it", late, y -> y.giveBack(0), -2);
  }

  /** Returned is what comes back of licences of another period. */
  private static void returnedByGiving() {
    QuotaLicences x = Check.of(N);
    pass(x, 89);
    x.apply(0, 0, 60);
    x.apply(1, 0, 50);
    x.giveBack(0);
    due("19: given back on the day of issue", x.origin(0, 7), 0);
    pass(x, 1);
    due("19: a new period", x.origin(0, 7), 0);
    due("19: carried", x.origin(0, 2), 250);
    x.use(1, 10);
    x.hand(1, 2, 15);
    x.giveBack(1);
    due("19: given back in the next period", x.origin(0, 7), 25);
    x.giveBack(2);
    due("19: handed on, as it was issued", x.origin(0, 7), 40);
    due("19: pool", x.origin(0, 3), 300 + 250 + 40);
    due("19: of its origin alone", x.origin(1, 7), 0);
    x.set(3, 0);
    x.apply(2, 0, 5);
    due("19: one of this period", x.giveBack(3), 5);
    due("19: one of this period", x.origin(0, 7), 40);
    pass(x, 89);
    due("19: to the end of the period", x.origin(0, 7), 40);
    pass(x, 1);
    due("19: anew", x.origin(0, 7), 0);
  }

  private static void returnedByLapse() {
    QuotaLicences x = Check.of(N);
    x.apply(0, 0, 60);
    pass(x, 1);
    x.apply(1, 0, 50);
    pass(x, 88);
    due("12: the last day of the period", x.days(1), 60);
    due("19: lapsed in its own period", x.origin(0, 7), 0);
    due("19: carried", x.origin(0, 2), 250);
    due("12: the first day of the next", x.days(1), 50);
    due("19: lapsed in another period", x.origin(0, 7), 50);
    due("19: pool", x.origin(0, 3), 300 + 250 + 50);
  }

  // ---- 8, 9: hand, merge ----

  private static void handEdges() {
    refused("8: 101 of 100", hundred(), y -> y.hand(0, 1, 101), -4);
    QuotaLicences x = hundred();
    x.use(0, 30);
    refused("8: 71 of 70", x, y -> y.hand(0, 1, 71), -4);
    due("8: 69 of 70", x.hand(0, 1, 69), 1);
    due("8: 1 is left", x.licence(0, 7), 1);
    due("8: it is open", x.licence(0, 5), 0);
    due("8: it is of so much less", x.licence(0, 2), 31);
    due("8: the other one is of so much", x.licence(1, 2), 69);
    due("8: 1 of 1", x.hand(0, 2, 1), 2);
    due("8: nothing is left: used up", x.licence(0, 5), 1);
    due("8: of what was used", x.licence(0, 2), 30);
    due("8: used", x.licence(0, 4), 30);
    QuotaLicences all = hundred();
    due("8: 100 of 100", all.hand(0, 3, 100), 1);
    due("8: of 0: used up", all.licence(0, 5), 1);
    due("8: of 0", all.licence(0, 2), 0);
    due("8: nothing left", all.licence(0, 7), 0);
    due("8: nothing used", all.licence(0, 4), 0);
    due("8: the other one is open", all.licence(1, 5), 0);
    due("8: nothing comes to the pool", all.origin(0, 3), 400);
    due("8: back again", all.hand(1, 0, 100), 2);
    due("8: behind the others", all.licence(2, 0), 0);
  }

  private static void handEnded() {
    QuotaLicences x = hundred();
    x.apply(0, 0, 10);
    x.apply(0, 0, 10);
    x.use(0, 100);
    x.giveBack(1);
    pass(x, 29);
    due("8: on its last day", x.hand(2, 1, 4), 3);
    pass(x, 1);
    for (int licence = 0; licence < 4; licence++) {
      int one = licence;
      refused("8: it has ended", x, y -> y.hand(one, 2, 1), -3);
      refused("8: ended ahead of not so much", x, y -> y.hand(one, 2, 99999), -3);
      refused("8: NONE ahead of ended: n", x, y -> y.hand(one, 2, 0), -1);
      refused("8: NONE ahead of ended: its own", x, y -> y.hand(one, y.licence(one, 0), 1), -1);
    }
  }

  private static void handSixty() {
    QuotaLicences x = Check.of(S);
    x.apply(0, 0, 100);
    x.apply(0, 0, 1);
    x.giveBack(1);
    for (int i = 2; i < 60; i++) {
      due("8: hand() " + i, x.hand(0, 1, 1), i);
    }
    due("8: there are 60", x.hand(0, 1, 1), -2);
    due("8: 60 ahead of ended", x.hand(1, 1, 1), -2);
    due("8: 60 ahead of not so much", x.hand(0, 1, 99999), -2);
    due("8: NONE ahead of 60: its own", x.hand(0, 0, 1), -1);
    due("8: NONE ahead of 60: n", x.hand(0, 1, 0), -1);
    due("8: NONE ahead of 60: no licence", x.hand(60, 1, 1), -1);
    due("8: 60 stay", x.count(2), 60);
    due("8: nothing happens", x.licence(0, 2), 42);
    due("5: 60 by hands", x.apply(0, 0, 1), -2);
    x.undo();
    due("8: 59 after undo()", x.hand(0, 2, 42), 59);
    due("8: it is open", x.licence(0, 5), 0);
    due("8: 1 is left", x.licence(0, 7), 1);
  }

  private static void handAsIssued() {
    QuotaLicences x = Check.of(S);
    pass(x, 85);
    x.apply(1, 1, 40);
    x.set(2, 90);
    pass(x, 20);
    due("8: hand()", x.hand(0, 3, 15), 1);
    int[] want = {3, 1, 15, 85, 0, 0, 114, 15};
    for (int what = 0; what < 8; what++) {
      due("24: licence(1, " + what + ")", x.licence(1, what), want[what]);
    }
    due("19: granted in this period", x.origin(1, 4), 0);
    due("54: granted", x.total(0), 40);
    due("12: it lapses with the first one", x.days(9), 0);
    due("12: it lapses with the first one", x.days(1), 40);
  }

  private static void mergeEdges() {
    QuotaLicences x = hundred();
    x.apply(0, 0, 50);
    x.use(0, 99);
    x.use(1, 49);
    due("9: 1 and 1", x.merge(0, 1), 2);
    int[] want = {0, 0, 150, 0, 148, 0, 29, 2};
    int[] other = {0, 0, 0, 0, 0, 1, 29, 0};
    for (int what = 0; what < 8; what++) {
      due("9: licence(0, " + what + ")", x.licence(0, what), want[what]);
      due("9: licence(1, " + what + ")", x.licence(1, what), other[what]);
    }
    refused("9: again", x, y -> y.merge(0, 1), -2);
    QuotaLicences back = hundred();
    back.apply(0, 0, 50);
    due("9: the first into the second", back.merge(1, 0), 150);
    due("9: the first one is used up", back.licence(0, 5), 1);
    due("9: licences stay", back.count(2), 2);
    QuotaLicences handed = hundred();
    handed.apply(1, 0, 20);
    handed.hand(0, 1, 30);
    due("9: one by hand", handed.merge(2, 1), 50);
    due("48: it is still handed", handed.root(2, 0), 0);
    due("9: nothing is granted by it", handed.origin(0, 4), 120);
  }

  private static void mergeUnlike() {
    QuotaLicences x = Check.of(S);
    x.apply(1, 0, 10);
    x.apply(1, 1, 10);
    x.apply(0, 0, 10);
    x.set(2, 29);
    x.apply(1, 0, 10);
    pass(x, 1);
    x.apply(1, 0, 10);
    x.set(2, 30);
    x.apply(1, 0, 10);
    due("9: the last days", x.licence(4, 6), x.licence(0, 6));
    refused("9: another origin", x, y -> y.merge(0, 1), -3);
    refused("9: another importer", x, y -> y.merge(0, 2), -3);
    refused("9: another last day", x, y -> y.merge(0, 3), -3);
    refused("9: another day of issue", x, y -> y.merge(0, 4), -3);
    refused("9: another day of issue, another last day", x, y -> y.merge(0, 5), -3);
    refused("9: another last day", x, y -> y.merge(4, 5), -3);
    refused("9: the other way round", x, y -> y.merge(4, 0), -3);
    for (int licence = 0; licence < 6; licence++) {
      int one = licence;
      refused("9: itself", x, y -> y.merge(one, one), -1);
    }
  }

  private static void mergeEnded() {
    QuotaLicences x = Check.of(S);
    for (int i = 0; i < 4; i++) {
      x.apply(0, 0, 10);
    }
    x.apply(1, 0, 10);
    x.use(0, 10);
    x.giveBack(1);
    refused("9: the first is used up", x, y -> y.merge(0, 2), -2);
    refused("9: the second is used up", x, y -> y.merge(2, 0), -2);
    refused("9: the first is given back", x, y -> y.merge(1, 2), -2);
    refused("9: the second is given back", x, y -> y.merge(2, 1), -2);
    refused("9: both have ended", x, y -> y.merge(0, 1), -2);
    refused("9: ended ahead of unlike ones", x, y -> y.merge(0, 4), -2);
    refused("9: ended ahead of unlike ones", x, y -> y.merge(4, 0), -2);
    refused("9: NONE ahead of ended", x, y -> y.merge(0, 0), -1);
    refused("9: NONE ahead of ended", x, y -> y.merge(0, 5), -1);
    pass(x, 29);
    due("9: on their last day", x.merge(2, 3), 20);
    pass(x, 1);
    refused("9: both have lapsed", x, y -> y.merge(2, 3), -2);
  }

  // ---- 10, 11, 13, 14: lend, excess, widen, set ----

  private static void lendEdges() {
    refused("10: 451 of 450", Check.of(S), y -> y.lend(0, 1, 0, 451), -3);
    QuotaLicences x = Check.of(S);
    due("10: 449 of 450", x.lend(0, 1, 0, 449), 1);
    refused("10: 2 of 1", x, y -> y.lend(0, 1, 0, 2), -3);
    due("10: 1 of 1", x.lend(0, 1, 0, 1), 0);
    refused("10: 1 of 0", x, y -> y.lend(0, 1, 0, 1), -3);
    due("10: share(.., 0) stays", x.share(0, 0, 0), 450);
    due("10: share(.., 0) stays", x.share(1, 0, 0), 150);
    due("10: left", x.share(1, 0, 1), 600);
    refused("10: 601 of 600", x, y -> y.lend(1, 0, 0, 601), -3);
    due("10: 600 of 600, more than its share", x.lend(1, 0, 0, 600), 0);
    due("10: more than its share", x.apply(0, 0, 99999), 0);
    due("10: more than its share", x.licence(0, 2), 600);
    QuotaLicences y = Check.of(S);
    due("10: 450 of 450", y.lend(0, 1, 0, 450), 0);
    y.apply(1, 0, 100);
    refused("10: what is granted is not left", y, z -> z.lend(1, 0, 0, 501), -3);
    due("10: all that is left", y.lend(1, 0, 0, 500), 0);
    pass(y, 90);
    due("10: anew in the next period", y.share(0, 0, 1), 450);
  }

  private static void lendNewcomers() {
    QuotaLicences x = Check.of(S);
    refused("10: to a newcomer", x, y -> y.lend(0, 2, 0, 1), -2);
    refused("10: of a newcomer", x, y -> y.lend(2, 0, 0, 1), -2);
    refused("10: both newcomers", x, y -> y.lend(2, 3, 0, 1), -2);
    refused("10: traditional elsewhere", x, y -> y.lend(1, 0, 1, 1), -2);
    refused("10: newcomer ahead of not so much", x, y -> y.lend(0, 2, 0, 99999), -2);
    refused("10: newcomer ahead of not so much", x, y -> y.lend(2, 0, 0, 99999), -2);
    refused("10: NONE ahead of newcomer: n", x, y -> y.lend(2, 3, 0, 0), -1);
    refused("10: NONE ahead of newcomer: unlike ones", x, y -> y.lend(2, 2, 0, 1), -1);
    refused("10: NONE ahead of newcomer: origin", x, y -> y.lend(2, 3, 2, 1), -1);
    refused("10: itself", x, y -> y.lend(0, 0, 0, 1), -1);
  }

  private static void excessEdges() {
    QuotaLicences x = Check.of(S);
    x.set(4, 2000);
    Check.dueDouble("11: the most", x.excess(0, 0, 99999, 9999), 1999780002.0);
    x.set(4, 1);
    Check.dueDouble("11: the least", x.excess(0, 0, 1, 1), 0.001);
    x.set(4, 0);
    due("11: no duty", x.excess(0, 0, 99999, 9999), 0);
    Check.dueDouble("28: together", x.owed(0), 1999780002.0 + 0.001);
    due("28: of another", x.owed(1), 0);
    for (int duty = 1; duty <= 2000; duty += 37) {
      x = Check.of(S);
      x.set(4, duty);
      Check.dueDouble("11: in doubles, duty " + duty, x.excess(3, 1, 73, 99), 7227.0 * (double) duty / 1000.0);
    }
  }

  /** One by one as they come: doubles that are put together otherwise are others. */
  private static void excessSums() {
    QuotaLicences x = Check.of(S);
    x.set(4, 100);
    double sum = 0.0;
    for (int i = 1; i <= 40; i++) {
      Check.dueDouble("11: of this one alone", x.excess(2, i % 2, i, 7), (double) (i * 7) * 100.0 / 1000.0);
      sum = sum + (double) (i * 7) * 100.0 / 1000.0;
      Check.dueDouble("28: one by one", x.owed(2), sum);
    }
    due("20: in this year", x.past(2, 0, 3), 420);
    due("19: without", x.origin(0, 6), 420);
    due("54: without", x.total(4), 820);
    due("19: by licences", x.origin(0, 5), 0);
  }

  private static void widenEdges() {
    QuotaLicences x = Check.of(S);
    refused("13: it is so", x, y -> y.widen(0, 1000), -2);
    refused("13: it is so", x, y -> y.widen(1, 500), -2);
    due("13: one more", x.widen(0, 1001), 1000);
    due("13: one less", x.widen(0, 1000), 1001);
    due("13: the least", x.widen(0, 0), 1000);
    refused("13: it is so", x, y -> y.widen(0, 0), -2);
    due("13: the most", x.widen(0, 99999), 0);
    refused("13: it is so", x, y -> y.widen(0, 99999), -2);
    due("13: the other stays", x.origin(1, 0), 500);
    due("13: of this period", x.origin(0, 1), 1000);
    pass(x, 89);
    due("13: the last day of this period", x.origin(0, 1), 1000);
    due("13: a share of this period", x.share(0, 0, 0), 450);
    pass(x, 1);
    due("13: the next period", x.origin(0, 1), 99999);
    due("13: the next period", x.share(0, 0, 0), 44999);
  }

  private static void setEdges() {
    int[] least = {0, 1, 1, 0, 0, 1};
    int[] most = {100, 99999, 90, 100, 2000, 3};
    int[] was = {60, 100, 30, 50, 200, 2};
    for (int what = 0; what < 6; what++) {
      int one = what;
      QuotaLicences x = Check.of(S);
      refused("14: it is so, what " + what, x, y -> y.set(one, was[one]), -2);
      due("14: the least, what " + what, x.set(what, least[what]), was[what]);
      refused("14: it is so, what " + what, x, y -> y.set(one, least[one]), -2);
      due("14: the most, what " + what, x.set(what, most[what]), least[what]);
      due("18: told, what " + what, x.told(what), most[what]);
      for (int other = 0; other < 6; other++) {
        due("18: others stay, what " + other, x.told(other), other == what ? most[what] : was[other]);
      }
      due("15: as it was", x.undo(), 1);
      due("15: as it was", x.told(what), least[what]);
    }
  }

  /** Part and need hold from the next period on, the others at once. */
  private static void setHoldsFrom() {
    QuotaLicences x = Check.of(S);
    x.set(0, 100);
    x.set(5, 3);
    x.set(1, 7);
    x.set(3, 100);
    x.set(4, 1000);
    x.set(2, 2);
    pass(x, 89);
    due("14: PART in this period", x.share(0, 0, 0), 450);
    due("14: NEED in this period", x.sort(1, 0), 1);
    due("14: LOT at once", x.would(3, 0, 8), -3);
    due("14: LOT at once", x.would(3, 0, 7), 7);
    Check.dueDouble("14: DUTY at once", x.excess(0, 0, 1, 1), 1.0);
    x.apply(3, 0, 7);
    due("14: VALID at once", x.licence(0, 6), 90);
    x.use(0, 6);
    due("14: SURETY at once", x.risk(-1), 1);
    pass(x, 1);
    due("14: NEED in the next", x.sort(1, 0), 0);
    due("14: PART in the next", x.share(0, 0, 0), 1000);
    due("14: NEED in the next", x.sort(0, 0), 1);
  }

  // ---- 12: days ----

  private static void daysUpTo3600() {
    QuotaLicences x = Check.of("scheme 0 1 1 0 0 1;origin 1;importer");
    pass(x, 3510);
    refused("12: 91 of 90", x, y -> y.days(91), -1);
    due("12: 90 of 90", x.days(90), 0);
    due("12: day 3600", x.count(4), 3600);
    refused("12: 1 of 0", x, y -> y.days(1), -2);
    refused("12: 90 of 0", x, y -> y.days(90), -2);
    refused("12: NONE ahead of 3600", x, y -> y.days(91), -1);
    refused("12: NONE ahead of 3600", x, y -> y.days(0), -1);
    refused("12: NONE ahead of 3600", x, y -> y.days(Integer.MAX_VALUE), -1);
    due("5: acts go on", x.apply(0, 0, 1), 0);
    QuotaLicences y = Check.of("scheme 0 1 1 0 0 1;origin 1;importer");
    pass(y, 3511);
    refused("12: 90 of 89", y, z -> z.days(90), -2);
    due("12: 89 of 89", y.days(89), 0);
    QuotaLicences last = Check.of("scheme 0 1 1 0 0 1;origin 1;importer");
    pass(last, 3599);
    refused("12: 2 of 1", last, z -> z.days(2), -2);
    due("12: 1 of 1", last.days(1), 0);
    due("12: 1 of 0", last.days(1), -2);
  }

  /** So many days at once are the same as one by one. */
  private static void daysOneByOne() {
    QuotaLicences x = Check.of(S);
    QuotaLicences y = Check.of(S);
    for (QuotaLicences one : new QuotaLicences[] {x, y}) {
      one.apply(0, 0, 70);
      one.set(2, 85);
      one.apply(1, 0, 20);
      one.apply(2, 0, 30);
      one.use(2, 5);
    }
    int lapsed = 0;
    for (int i = 0; i < 90; i++) {
      lapsed += y.days(1);
    }
    due("12: what lapses in them", x.days(90), lapsed);
    due("12: what lapses in them", lapsed, 70 + 20 + 25);
    Check.dueText("12: the same", Look.ofState(x), Look.ofState(y));
  }

  private static void daysLapse() {
    QuotaLicences x = Check.of(S);
    x.set(2, 1);
    x.apply(0, 0, 9);
    due("24: open on its last day", x.licence(0, 5), 0);
    due("12: VALID 1", x.days(1), 9);
    due("24: lapsed", x.licence(0, 5), 3);
    due("24: nothing is left", x.licence(0, 7), 0);
    due("24: how much it was", x.licence(0, 2), 9);
    due("12: to the pool", x.origin(0, 3), 409);
    due("12: not again", x.days(1), 0);
    x.set(2, 2);
    x.apply(0, 0, 5);
    x.apply(1, 1, 4);
    x.apply(1, 0, 3);
    x.use(1, 5);
    x.giveBack(3);
    due("12: the day ahead of the last one", x.days(1), 0);
    due("12: the last one: open ones alone", x.days(1), 4);
    due("19: of its origin", x.origin(1, 3), 204);
    due("24: used up", x.licence(1, 5), 1);
    due("24: given back", x.licence(3, 5), 2);
    due("54: lapsed", x.total(3), 13);
  }

  private static void periodBegins() {
    QuotaLicences x = Check.of(S);
    x.apply(0, 0, 100);
    x.apply(3, 0, 10);
    x.use(0, 100);
    x.excess(0, 0, 5, 1);
    pass(x, 29);
    x.use(1, 10);
    pass(x, 60);
    int[] old = {1000, 1000, 0, 390, 110, 110, 5, 0};
    for (int what = 0; what < 8; what++) {
      due("19: day 89, what " + what, x.origin(0, what), old[what]);
    }
    due("40: day 89", x.log(0, 0, 0), -1);
    pass(x, 1);
    int[] anew = {1000, 1000, 390 + 350 + 150, 400 + 890, 0, 0, 0, 0};
    for (int what = 0; what < 8; what++) {
      due("19: day 90, what " + what, x.origin(0, what), anew[what]);
    }
    due("23: day 90", x.share(0, 0, 1), 450);
    due("40: day 90", x.log(0, 0, 2), 110);
    due("40: day 90", x.log(1, 0, 2), -1);
  }

  private static void shares(String text, int first, int second, int pool) {
    QuotaLicences x = Check.of(text);
    due("23: of the first, " + text, x.share(0, 0, 0), first);
    due("23: of the second, " + text, x.share(1, 0, 0), second);
    due("19: pool, " + text, x.origin(0, 3), pool);
  }

  private static void sharesDownwards() {
    String two = ";importer;importer;past 0 0 1 0 0;past 1 0 1 0 0";
    shares("scheme 50 1 1 0 0 1;origin 199" + two, 49, 49, 101);
    shares("scheme 50 1 1 0 0 1;origin 200" + two, 50, 50, 100);
    shares("scheme 50 1 1 0 0 1;origin 201" + two, 50, 50, 101);
    shares("scheme 99 1 1 0 0 1;origin 1" + two, 0, 0, 1);
    shares("scheme 100 1 1 0 0 1;origin 1" + two, 0, 0, 1);
    shares("scheme 100 1 1 0 0 1;origin 2" + two, 1, 1, 0);
    shares("scheme 100 1 1 0 0 1;origin 3" + two, 1, 1, 1);
    shares("scheme 0 1 1 0 0 1;origin 99999" + two, 0, 0, 99999);
    shares("scheme 100 1 1 0 0 1;origin 0" + two, 0, 0, 0);
    shares("scheme 1 1 1 0 0 1;origin 199" + two, 0, 0, 199);
    shares("scheme 1 1 1 0 0 1;origin 200" + two, 1, 1, 198);
    String third = ";importer;importer;past 0 0 0 1 0;past 1 0 0 1 1";
    shares("scheme 100 1 1 0 0 1;origin 100" + third, 33, 66, 1);
    shares("scheme 100 1 1 0 0 1;origin 99" + third, 33, 66, 0);
    shares("scheme 100 1 1 0 0 1;origin 98" + third, 32, 65, 1);
    shares("scheme 100 1 1 0 0 1;origin 99999;importer;importer;past 0 0 99999 99999 99999;past 1 0 0 0 1",
        99998, 0, 1);
    shares("scheme 100 1 1 0 0 2;origin 100;importer;importer;past 0 0 1 1 0;past 1 0 0 0 99999", 100, 0, 0);
    shares("scheme 60 1 1 0 0 1;origin 100;importer;importer", 0, 0, 100);
    shares("scheme 60 1 1 0 0 1;origin 100;importer;importer;past 1 0 0 0 1", 0, 60, 40);
  }

  /** Traditional is who imported some in so many of the three years at least. */
  private static void needOfYears() {
    String[] years = {"0 0 0", "1 0 0", "0 1 0", "0 0 1", "1 1 0", "1 0 1", "0 1 1", "1 1 1", "99999 0 0"};
    int[] many = {0, 1, 1, 1, 2, 2, 2, 3, 1};
    for (int i = 0; i < years.length; i++) {
      for (int need = 1; need <= 3; need++) {
        QuotaLicences x = Check.of("scheme 100 1 1 0 0 " + need + ";origin 10;importer;past 0 0 " + years[i]);
        due("21: " + years[i] + ", NEED " + need, x.sort(0, 0), many[i] >= need ? 1 : 0);
        due("23: " + years[i] + ", NEED " + need, x.share(0, 0, 0), many[i] >= need ? 10 : 0);
        due("19: " + years[i] + ", NEED " + need, x.origin(0, 3), many[i] >= need ? 0 : 10);
      }
    }
  }

  /** What is left goes on into the next period, and is gone at the year's end. */
  private static void carriedWithinTheYear() {
    QuotaLicences x = Check.of(S);
    int carried = 0;
    for (int period = 0; period < 8; period++) {
      if (period % 4 == 0) {
        carried = 0;
      }
      due("19: carried into period " + period, x.origin(1, 2), carried);
      due("19: pool of period " + period, x.origin(1, 3), 200 + carried);
      due("23: the share is as ever", x.share(1, 1, 1), 300);
      x.excess(1, 1, 1, 1);
      x.apply(1, 1, 50);
      x.use(period, 30);
      due("35: carry() of period " + period, x.carry(1), period % 4 == 3 ? 0 : 450 + carried);
      pass(x, 89);
      due("19: the last day of period " + period, x.origin(1, 2), carried);
      pass(x, 1);
      carried = carried + 470;
    }
    due("19: two years on", x.origin(1, 2), 0);
  }

  private static void yearsGrowOld() {
    QuotaLicences x = Check.of(S);
    x.apply(0, 0, 9);
    x.use(0, 4);
    x.excess(0, 0, 2, 1);
    pass(x, 359);
    int[] old = {300, 200, 100, 6};
    int[] anew = {6, 300, 200, 0};
    for (int year = 0; year < 4; year++) {
      due("20: day 359, year " + year, x.past(0, 0, year), old[year]);
    }
    due("25: day 359", x.month(0, 0), 4);
    x.apply(0, 0, 7);
    x.use(1, 1);
    x.excess(3, 1, 1, 1);
    pass(x, 1);
    anew[0] = 7;
    for (int year = 0; year < 4; year++) {
      due("20: day 360, year " + year, x.past(0, 0, year), anew[year]);
    }
    due("20: without a licence alone", x.past(3, 1, 0), 1);
    due("25: day 360", x.month(0, 0), 0);
    due("25: day 360", x.month(0, 11), 0);
    due("24: lapsed at the year's end", x.licence(1, 5), 3);
    due("21: with years 1 and 0 of the new ones", x.sort(0, 0), 1);
    due("21: year 2 is gone", x.sort(1, 0), 0);
    due("21: years 1 and 2", x.sort(1, 1), 1);
    pass(x, 359);
    due("21: to the end of the year", x.sort(1, 1), 1);
    pass(x, 1);
    due("21: year 2 alone", x.sort(1, 1), 0);
    due("20: year 2", x.past(1, 1, 2), 30);
    pass(x, 360);
    due("20: gone", x.past(1, 1, 2), 0);
    due("20: gone", x.past(0, 0, 2), 7);
  }

  // ---- 15: undo ----

  /** No refused act can be undone: it is none. */
  private static void refusedActs() {
    QuotaLicences x = Check.of(S);
    x.apply(3, 0, 5);
    x.giveBack(0);
    due("15: acts", x.count(5), 2);
    refused("15: apply", x, y -> y.apply(3, 0, 5), -4);
    refused("15: use", x, y -> y.use(0, 5), -2);
    refused("15: giveBack", x, y -> y.giveBack(0), -2);
    refused("15: hand", x, y -> y.hand(0, 1, 5), -3);
    refused("15: merge", x, y -> y.merge(0, 0), -1);
    refused("15: lend", x, y -> y.lend(3, 0, 0, 5), -2);
    refused("15: excess", x, y -> y.excess(3, 0, 5, 0), -1);
    refused("15: days", x, y -> y.days(91), -1);
    refused("15: widen", x, y -> y.widen(0, 1000), -2);
    refused("15: set", x, y -> y.set(0, 60), -2);
    refused("16: keep", x, y -> y.keep(2), -1);
    refused("17: back", x, y -> y.back(0), -2);
    refused("17: back", x, y -> y.back(2), -1);
    refused("17: back, NONE ahead of nothing", x, y -> y.back(-1), -1);
    due("15: undo()", x.undo(), 1);
    due("15: undo()", x.undo(), 0);
    refused("15: none can be", x, y -> y.undo(), -1);
  }

  private static void undoTen() {
    for (int acts = 9; acts <= 21; acts++) {
      QuotaLicences x = Check.of(S);
      for (int i = 0; i < acts; i++) {
        x.apply(0, 0, 1);
      }
      int can = Math.min(acts, 10);
      due("59: of " + acts + " acts", x.count(5), can);
      for (int i = can - 1; i >= 0; i--) {
        due("15: of " + acts + " acts", x.undo(), i);
        due("15: of " + acts + " acts", x.count(2), acts - can + i);
      }
      due("15: none more of " + acts, x.undo(), -1);
      due("15: none more of " + acts, x.count(2), acts - can);
      due("15: none more of " + acts, x.share(0, 0, 1), 450 - (acts - can));
    }
  }

  private static void undoneIs(String name, ToLongFunction<QuotaLicences> act) {
    QuotaLicences x = Check.of(S);
    x.apply(0, 0, 100);
    x.apply(0, 0, 50);
    pass(x, 2);
    x.use(0, 30);
    String look = Look.ofState(x);
    Check.isTrue("15: " + name + " is done", act.applyAsLong(x) >= 0);
    due("15: " + name + " is one act", x.count(5), 5);
    Check.isTrue("15: " + name + " is done", !Look.ofState(x).equals(look));
    due("15: " + name + " is undone", x.undo(), 4);
    Check.dueText("15: " + name + " is undone", Look.ofState(x), look);
  }

  private static void undoEach() {
    undoneIs("apply", x -> x.apply(3, 1, 9));
    undoneIs("use", x -> x.use(0, 9));
    undoneIs("use up", x -> x.use(1, 50));
    undoneIs("giveBack", x -> x.giveBack(0));
    undoneIs("hand", x -> x.hand(0, 1, 70));
    undoneIs("merge", x -> x.merge(1, 0));
    undoneIs("lend", x -> x.lend(0, 1, 0, 300));
    undoneIs("excess", x -> x.excess(3, 1, 9, 9));
    undoneIs("a day", x -> x.days(1));
    undoneIs("days with a lapse", x -> x.days(30));
    undoneIs("days into a period", x -> x.days(90));
    undoneIs("widen", x -> x.widen(1, 0));
    for (int what = 0; what < 6; what++) {
      int one = what;
      undoneIs("set(" + what + ")", x -> x.set(one, 1));
    }
    QuotaLicences x = Check.of(S);
    x.excess(2, 1, 5, 5);
    pass(x, 359);
    String look = Look.ofState(x);
    x.days(1);
    x.undo();
    Check.dueText("15: days into a year", Look.ofState(x), look);
  }

  /** What is undone and done anew goes round in the same ten places. */
  private static void undoAndAct() {
    QuotaLicences x = Check.of(S);
    for (int i = 0; i < 13; i++) {
      x.excess(0, 0, 1, 1);
    }
    due("15: undo()", x.undo(), 9);
    due("15: undo()", x.undo(), 8);
    due("15: undo()", x.undo(), 7);
    x.excess(0, 0, 100, 1);
    due("59: acts", x.count(5), 8);
    due("20: imported", x.past(0, 0, 3), 110);
    for (int i = 0; i < 5; i++) {
      x.excess(0, 0, 1000, 1);
    }
    due("59: acts", x.count(5), 10);
    int[] was = {4110, 3110, 2110, 1110, 110, 10, 9, 8, 7, 6};
    for (int i = 0; i < 10; i++) {
      due("15: undo()", x.undo(), 9 - i);
      due("15: imported", x.past(0, 0, 3), was[i]);
    }
    due("15: none more", x.undo(), -1);
    due("15: imported", x.past(0, 0, 3), 6);
  }

  /** What was there and is undone is not to be seen, nor in what comes in its place. */
  private static void undoLeavesNothing() {
    QuotaLicences x = Check.of(N);
    QuotaLicences fresh = Check.of(N);
    for (QuotaLicences one : new QuotaLicences[] {x, fresh}) {
      one.apply(1, 0, 20);
    }
    x.apply(0, 0, 50);
    x.hand(1, 2, 20);
    x.use(1, 5);
    pass(x, 3);
    x.use(1, 5);
    x.use(2, 4);
    x.giveBack(1);
    for (int i = 0; i < 7; i++) {
      x.undo();
    }
    Check.dueText("15: as it was", Look.ofState(x), Look.ofState(fresh));
    for (QuotaLicences one : new QuotaLicences[] {x, fresh}) {
      one.apply(2, 1, 10);
      pass(one, 1);
      one.use(1, 1);
    }
    Check.dueText("15: in its place", Look.ofState(x), Look.ofState(fresh));
  }

  private static void notActs() {
    QuotaLicences x = Check.of(S);
    x.apply(0, 0, 5);
    x.keep(0);
    x.row(0, 3);
    x.note(0, 0, 5);
    x.feed(0, 0, 0, 0, 0);
    x.end(3);
    due("15: what is no act", x.count(5), 1);
    due("15: undo()", x.undo(), 0);
    due("15: the tape stays", x.count(6), 3);
    due("15: the shelf stays", x.count(7), 1);
    due("15: the notes stay", x.noted(0), 5);
    due("15: none more", x.undo(), -1);
  }

  // ---- 16, 17: keep, back ----

  private static void shelfEdges() {
    QuotaLicences x = Check.of(S);
    for (int shelf = 0; shelf < 2; shelf++) {
      due("17: nothing on " + shelf, x.back(shelf), -2);
    }
    due("16: keep(0)", x.keep(0), 2);
    due("59: shelf 0", x.count(7), 1);
    due("17: nothing on 1", x.back(1), -2);
    due("17: back(0)", x.back(0), 2);
    due("59: it is still kept", x.count(7), 1);
    due("17: back(0) again", x.back(0), 2);
    QuotaLicences y = Check.of(S);
    due("16: keep(1)", y.keep(1), 2);
    due("59: shelf 1", y.count(7), 2);
    due("17: nothing on 0", y.back(0), -2);
    due("16: keep(0)", y.keep(0), 2);
    due("59: both", y.count(7), 3);
    due("16: keep(2)", y.keep(2), -1);
    due("16: keep(-1)", y.keep(-1), -1);
    due("59: both", y.count(7), 3);
    due("16: of one origin", Check.of("scheme 0 1 1 0 0 1;origin 1").keep(1), 1);
    due("16: of four", Check.of("scheme 0 1 1 0 0 1" + ";origin 1".repeat(4)).keep(0), 4);
  }

  /** All but the tape, the acts, the shelves and the notes is kept; each shelf has its own. */
  private static void shelvesAside() {
    QuotaLicences x = Check.of(S);
    x.apply(0, 0, 11);
    String first = Look.ofState(x);
    x.keep(0);
    due("16: acts stay", x.count(5), 1);
    x.use(0, 3);
    pass(x, 100);
    x.excess(1, 1, 5, 5);
    String second = Look.ofState(x);
    x.keep(1);
    x.row(1, 2);
    x.note(1, 1, 9);
    x.feed(0, 0, 0, 0, 0);
    x.end(7);
    x.set(0, 1);
    due("59: acts", x.count(5), 6);
    due("17: back(0)", x.back(0), 2);
    Check.dueText("17: as it was kept", Look.ofState(x), first);
    due("17: nothing can be undone", x.count(5), 0);
    due("17: nothing can be undone", x.undo(), -1);
    due("17: the tape stays", x.count(6), 7);
    due("17: the notes stay", x.noted(1), 9);
    due("17: the shelves stay", x.count(7), 3);
    x.giveBack(0);
    x.widen(0, 1);
    due("17: back(1)", x.back(1), 2);
    Check.dueText("17: as it was kept", Look.ofState(x), second);
    due("17: back(0)", x.back(0), 2);
    Check.dueText("17: what is done on it does not change it", Look.ofState(x), first);
    x.days(1);
    x.keep(0);
    x.days(1);
    due("17: the last one kept counts", x.back(0), 2);
    due("17: the last one kept counts", x.count(4), 1);
  }

  private static void backLeavesNothing() {
    QuotaLicences x = new QuotaLicences();
    due("16: no scheme is kept", x.keep(1), 0);
    Check.tell(x, "scheme 60 100 90 50 200 1;origin 900;origin 800;importer;importer;past 1 0 5 5 5");
    x.apply(0, 0, 50);
    x.use(0, 20);
    pass(x, 95);
    due("16: keep(0)", x.keep(0), 2);
    due("17: back to no scheme", x.back(1), 0);
    due("17: no origins", x.count(0), 0);
    due("17: no licences", x.count(2), 0);
    due("17: day 0", x.count(4), 0);
    due("17: no text", x.letter(-1), 0);
    Check.tell(x, "scheme 10 100 90 50 200 1;origin 900;importer;importer;importer;past 2 0 1 1 1");
    QuotaLicences fresh = Check.of("scheme 10 100 90 50 200 1;origin 900;importer;importer;importer;past 2 0 1 1 1");
    Check.dueText("17: nothing of it is left", Look.ofState(x), Look.ofState(fresh));
    x.keep(1);
    x.back(0);
    due("17: two origins", x.count(0), 2);
    due("17: day 95", x.count(4), 95);
    due("17: back(1)", x.back(1), 1);
    x.apply(1, 0, 5);
    fresh.apply(1, 0, 5);
    Check.dueText("17: nothing of it is left", Look.ofState(x), Look.ofState(fresh));
  }

  /** Other licences of another scheme stood where those that are brought back stand. */
  private static void backToOtherLicences() {
    QuotaLicences x = Check.of(S);
    x.apply(2, 1, 50);
    pass(x, 3);
    x.apply(1, 0, 60);
    x.use(1, 20);
    x.hand(1, 3, 15);
    pass(x, 2);
    x.use(2, 5);
    x.giveBack(0);
    pass(x, 1);
    String look = Look.ofState(x);
    x.keep(0);
    Check.tell(x, "scheme 10 99999 90 0 0 3;origin 9000;origin 8000;importer;importer;importer;importer;importer");
    pass(x, 7);
    for (int i = 0; i < 3; i++) {
      x.apply(4, i % 2, 100 + i);
      x.apply(i, 0, 200 + i);
    }
    x.excess(2, 0, 5, 5);
    due("17: back(0)", x.back(0), 2);
    Check.dueText("17: as it was kept", Look.ofState(x), look);
    for (int day = 0; day < 6; day++) {
      due("51: day " + day, x.stood(1, day), day < 5 ? 50 : 0);
      due("51: day " + day, x.stood(0, day), day < 3 ? 0 : 60);
    }
    due("48: by one hand", x.root(2, 1), 1);
    due("12: days(26)", x.days(26), 0);
    due("12: they lapse on their day", x.days(1), 35);
  }

  /** What was brought back ahead of a licence knows nothing of it, nor does the next one in its place. */
  private static void backAheadOfLicences() {
    QuotaLicences x = Check.of(S);
    QuotaLicences fresh = Check.of(S);
    x.keep(1);
    x.apply(0, 0, 20);
    x.hand(0, 3, 10);
    pass(x, 2);
    x.use(0, 5);
    x.use(1, 10);
    due("17: back(1)", x.back(1), 2);
    Check.dueText("17: as it was", Look.ofState(x), Look.ofState(fresh));
    for (QuotaLicences one : new QuotaLicences[] {x, fresh}) {
      due("5: apply(1, 1, 9)", one.apply(1, 1, 9), 0);
      due("6: use(0, 2)", one.use(0, 2), 7);
      due("8: hand(0, 2, 3)", one.hand(0, 2, 3), 1);
      due("6: use(1, 1)", one.use(1, 1), 2);
    }
    Check.dueText("17: in their places", Look.ofState(x), Look.ofState(fresh));
  }
}

/** For each promise of the document answers that were worked out by hand: ordinary ones, edges, wrong inputs. */
public final class PromisesTest {
  /** Origin 0: base 600, shares 450 and 150, pool 400; origin 1: share 300 of importer 1, pool 200. */
  private static final String S = "scheme 60 100 30 50 200 2;origin 1000;origin 500;importer;importer;importer;importer"
      + ";past 0 0 100 200 300;past 1 0 50 0 150;past 1 1 10 20 30;past 2 0 0 0 70";
  /** 19 bytes, and no origin yet. */
  private static final String B = "scheme 60 1 1 0 1 1";
  private static final long MINUS_ONE = Double.doubleToLongBits(-1.0);

  private PromisesTest() {
  }

  public static void main(String[] args) {
    text();
    acts();
    keeping();
    asking();
    planning();
    using();
    last();
    Check.close("PromisesTest");
  }

  private static void text() {
    newObject();
    feed();
    end();
    tellFaults();
    tellEdges();
    tellState();
  }

  private static void acts() {
    apply();
    applyRefused();
    applySixty();
    use();
    giveBack();
    hand();
    merge();
    lend();
    excess();
    days();
    years();
    widen();
    set();
  }

  private static void keeping() {
    undo();
    keep();
    back();
  }

  private static void asking() {
    told();
    origin();
    past();
    sort();
    mean();
    share();
    licence();
    month();
    rate();
    idle();
    owed();
  }

  private static void planning() {
    would();
    lapses();
    next();
    best();
    order();
    focus();
    carry();
    window();
    windowFull();
    shareAt();
  }

  private static void using() {
    speed();
    fastest();
    log();
    risk();
    lacks();
    pace();
    peak();
    even();
    future();
    likely();
    root();
    median();
    rush();
    stood();
  }

  private static void last() {
    owing();
    holds();
    total();
    row();
    note();
    noted();
    letter();
    count();
  }

  private static void due(String call, long got, long want) {
    Check.due(call, got, want);
  }

  private static void pass(QuotaLicences x, int many) {
    for (int left = many; left > 0; left -= 90) {
      Check.isTrue("days()", x.days(Math.min(left, 90)) >= 0);
    }
  }

  // ---- 1 to 4 ----

  private static void newObject() {
    QuotaLicences x = new QuotaLicences();
    for (int what = 0; what <= 8; what++) {
      due("1: count(" + what + ")", x.count(what), 0);
    }
    due("1: told(0)", x.told(0), -1);
    due("1: noted(0)", x.noted(0), -9000000000L);
    due("1: note(0, 1, 1)", x.note(0, 1, 1), -2);
    due("1: letter(-1)", x.letter(-1), 0);
    due("1: undo()", x.undo(), -1);
    due("1: NONE", QuotaLicences.NONE, -1);
  }

  private static void feed() {
    QuotaLicences x = new QuotaLicences();
    for (int i = 1; i <= 20; i++) {
      due("2: feed()", x.feed(i, -i, 0, 0, 0), 20 * i);
    }
    due("2: feed() on a full tape", x.feed(0, 0, 0, 0, 0), -1);
    due("2: count(6)", x.count(6), 400);
    x.end(381);
    due("2: feed() above 400", x.feed(0, 0, 0, 0, 0), -1);
    due("2: count(6)", x.count(6), 381);
    x.end(380);
    due("2: feed() up to 400", x.feed(0, 0, 0, 0, 0), 400);
    x.end(0);
    x.feed(0x73636865, 0x6d652031, 0x20322033, 0x20342035, 0x20313b6f);
    x.feed(0x72696769, 0x6e203700, 0, 0, 0);
    x.end(27);
    due("2: the highest byte comes first", x.tell(), 1);
    cutTape();
    Check.dueText("2: letters", Check.letters(x), "scheme 1 2 3 4 5 1;origin 7");
  }

  /** What end() cut off stays unread, whatever it would go on with. */
  private static void cutTape() {
    QuotaLicences x = new QuotaLicences();
    x.feed(0x73636865, 0x6d652031, 0x20322033, 0x20342035, 0x20313b6f);
    x.feed(0x72696769, 0x6e203737, 0x3b696d70, 0x6f727465, 0x72727272);
    x.end(27);
    due("3: a number is cut", x.tell(), 1);
    due("3: a number is cut", x.origin(0, 0), 7);
    x.feed(0x73636865, 0x6d652031, 0x20322033, 0x20342035, 0x20313b6f);
    x.feed(0x72696769, 0x6e203737, 0x3b696d70, 0x6f727465, 0x72727272);
    x.end(37);
    due("3: a word is cut", x.tell(), 1);
    due("3: a word is cut", x.count(1), 1);
    x.feed(0x73636865, 0x6d652031, 0x20322033, 0x20342035, 0x20313b6f);
    x.feed(0x72696769, 0x6e203720, 0x20202020, 0x20202020, 0x20202020);
    x.end(19);
    due("3: the piece is cut", x.tell(), -2 - 8 * 19 - 1);
  }

  private static void end() {
    QuotaLicences x = new QuotaLicences();
    due("3: end(0)", x.end(0), 0);
    due("3: end(1) of an empty tape", x.end(1), -1);
    x.feed(0, 0, 0, 0, 0);
    due("3: end(-1)", x.end(-1), -1);
    due("3: end(21)", x.end(21), -1);
    due("3: end(min)", x.end(Integer.MIN_VALUE), -1);
    due("3: count(6)", x.count(6), 20);
    due("3: end(20)", x.end(20), 20);
    due("3: end(7)", x.end(7), 7);
    due("3: end(8)", x.end(8), -1);
    due("3: count(6)", x.count(6), 7);
    due("3: feed() behind it", x.feed(0, 0, 0, 0, 0), 27);
  }

  private static void fault(String text, int place, int kind) {
    QuotaLicences x = new QuotaLicences();
    due("4: tell() of '" + text + "'", Check.tell(x, text), -2 - 8 * place - kind);
    due("4: no scheme by '" + text + "'", x.count(0), 0);
    due("4: empty tape behind '" + text + "'", x.count(6), 0);
  }

  private static void fits(String text, int origins) {
    due("4: tell() of '" + text + "'", Check.tell(new QuotaLicences(), text), origins);
  }

  private static void tellFaults() {
    fault("", 0, 1);
    fault("   ", 3, 1);
    fault("schem 60", 0, 1);
    fault("  schemes 60", 2, 1);
    fault("Scheme 60", 0, 1);
    fault("60", 0, 1);
    fault("scheme x", 7, 1);
    fault("scheme;", 6, 1);
    fault("scheme 60  ", 11, 1);
    fault("scheme 60 1 1 0 1", 17, 1);
    fault("scheme 60 1 1 0 1 1 1", 20, 1);
    fault(B, 19, 4);
    fault(B + " ", 20, 4);
    fault(B + ";importer", 28, 4);
    fault(B + "  ;  ", 24, 1);
    fault(B + "x", 19, 1);
    fault(B + (char) 200, 19, 1);
    fault(B + (char) 255, 19, 1);
    fault(B + (char) 9, 19, 1);
    fault(B + ";origin", 26, 1);
    fault(B + ";origin 1;", 29, 1);
    fault(B + ";origin 1;;", 29, 1);
    fault(B + ";origin 1,origin 2", 28, 1);
    fault(B + ";origin-1", 26, 1);
    fault(B + ";origins 1", 20, 1);
    fault(B + ";orig", 20, 1);
    fault(B + ";7", 20, 1);
    fault(B + ";origin 1;importer 3", 38, 1);
    fault(B + ";origin 1 importer", 29, 1);
    fault(B + " origin 1", 20, 1);
    fault(B + ";xrigin 1", 20, 1);
    fault(B + ";origin 1;mporter", 29, 1);
    fault(B + ";origin 100000", 27, 2);
    fault(B + ";origin 12345678901234567890x", 27, 2);
    fault(B + ";origin 4294967297", 27, 2);
    fault(B + ";origin 1;past 0 0 1 1 1;importer", 34, 2);
    fault(B + ";importer;past 0 0 1 1 1;origin 1", 36, 2);
    fault(B + ";origin 1;importer;past 1 0 1 1 1", 43, 2);
    fault(B + ";origin 1;importer;past 0 1 1 1 1", 45, 2);
    fault(B + ";origin 1;importer;past 0 0 1 1", 50, 1);
    fault(B + ";origin 1;importer;past 0 0 1 1;", 50, 1);
    fault(B + ";origin 1;importer;past 0 0 1 1 100000", 51, 2);
    fault(B + ";origin 1;importer;past 0 0 100000 1 1", 47, 2);
    fault(B + ";origin 1;importer;past 0 0 1 1 1 1", 53, 1);
    fault(B + ";origin 1;origin 1;origin 1;origin 1;origin 1", 56, 3);
    fault(B + ";origin 1;origin 1;origin 1;origin 1;originx", 56, 1);
    String eight = ";importer;importer;importer;importer;importer;importer;importer;importer";
    fault(B + eight + ";  importer", 94, 3);
    fits(B + eight + ";origin 1", 1);
    fits(B + ";origin 1;origin 1;origin 1;origin 1", 4);
  }

  private static void term(int what, String ahead, String behind, int least, int most) {
    int place = ahead.length();
    fits(ahead + least + behind, 1);
    fits(ahead + most + behind, 1);
    fault(ahead + (most + 1) + behind, place, 2);
    if (least > 0) {
      fault(ahead + (least - 1) + behind, place, 2);
    }
    QuotaLicences x = Check.of(ahead + most + behind);
    due("4: term " + what, x.told(what), most);
  }

  private static void tellEdges() {
    term(0, "scheme ", " 1 1 1 1 1;origin 1", 0, 100);
    term(1, "scheme 1 ", " 1 1 1 1;origin 1", 1, 99999);
    term(2, "scheme 1 1 ", " 1 1 1;origin 1", 1, 90);
    term(3, "scheme 1 1 1 ", " 1 1;origin 1", 0, 100);
    term(4, "scheme 1 1 1 1 ", " 1;origin 1", 0, 2000);
    term(5, "scheme 1 1 1 1 1 ", ";origin 1", 1, 3);
    fits(B + ";origin 00000000000000099999", 1);
    fits("  scheme60 1 1 0 1 1;origin5;importer;past0 0 1 2 3", 1);
    QuotaLicences x = Check.of(" scheme  060 1 1 0 1 1 ; origin 1 ; importer ; past 0 0 1 2 3 ;past 0 0 4 0 99999  ");
    Check.dueText("4: the last past counts", Check.letters(x),
        "scheme 60 1 1 0 1 1;origin 1;importer;past 0 0 4 0 99999");
    due("4: the latest year stands last", x.past(0, 0, 0), 99999);
    due("4: the oldest year stands first", x.past(0, 0, 2), 4);
    fits(B + ";origin 1;importer;past 0 0 0 0 0", 1);
  }

  private static void tellState() {
    QuotaLicences x = Check.of(S);
    x.row(0, 5);
    x.keep(1);
    x.apply(0, 0, 10);
    x.excess(0, 0, 1, 1);
    pass(x, 95);
    due("4: tell() of a wrong text", Check.tell(x, "scheme 101"), -60);
    due("4: scheme stays", x.count(0), 2);
    due("4: day stays", x.count(4), 95);
    due("4: acts stay", x.count(5), 4);
    due("4: licences stay", x.count(2), 1);
    due("4: tell()", Check.tell(x, S), 2);
    due("4: day", x.count(4), 0);
    due("4: acts", x.count(5), 0);
    due("4: undo()", x.undo(), -1);
    due("4: licences", x.count(2), 0);
    due("4: shelves stay", x.count(7), 2);
    due("4: notes stay", x.count(8), 5);
    due("4: nothing owed", x.owed(0), 0);
    due("4: no log", x.log(0, 0, 0), -1);
    due("4: totals", x.total(0), 0);
    due("4: this year", x.past(0, 0, 3), 0);
    due("4: granted", x.origin(0, 4), 0);
    due("4: pool", x.origin(0, 3), 400);
    Check.tell(x, B + ";origin 7");
    due("4: fewer importers", x.count(1), 0);
    due("4: nothing is of the old scheme", x.sort(0, 0), -1);
    Check.tell(x, B + ";origin 7;importer");
    due("4: no past of the old scheme", x.past(0, 0, 0), 0);
  }

  // ---- 5 to 14 ----

  private static void apply() {
    QuotaLicences x = Check.of(S);
    due("5: apply(0, 0, 449)", x.apply(0, 0, 449), 0);
    due("5: share left", x.share(0, 0, 1), 1);
    due("5: apply(0, 0, 99999), more than is left", x.apply(0, 0, 99999), 1);
    due("5: granted", x.licence(1, 2), 1);
    due("5: share left", x.share(0, 0, 1), 0);
    due("5: share", x.share(0, 0, 0), 450);
    due("5: pool untouched", x.origin(0, 3), 400);
    due("5: apply(2, 0, 100)", x.apply(2, 0, 100), 2);
    due("5: pool", x.origin(0, 3), 300);
    due("5: last day", x.licence(2, 6), 29);
    x.set(2, 10);
    due("5: last day stays", x.licence(2, 6), 29);
    due("5: apply(3, 0, 7)", x.apply(3, 0, 7), 3);
    due("5: last day as valid is now", x.licence(3, 6), 9);
    pass(x, 355);
    due("5: apply(1, 0, 9)", x.apply(1, 0, 9), 4);
    due("5: not behind the year", x.licence(4, 6), 359);
    due("5: issued", x.licence(4, 3), 355);
    pass(x, 5);
    due("5: apply(0, 0, 9)", x.apply(0, 0, 9), 5);
    due("5: in the new year", x.licence(5, 6), 369);
    QuotaLicences y = Check.of("scheme 60 100 30 50 200 2;origin 50;importer;importer");
    due("5: apply(0, 0, 60)", y.apply(0, 0, 60), 0);
    due("5: granted what is in the pool", y.licence(0, 2), 50);
    due("5: nothing to be had", y.apply(1, 0, 60), -6);
    due("5: acts", y.count(5), 1);
  }

  private static void applyRefused() {
    QuotaLicences x = Check.of(S);
    due("5: importer -1", x.apply(-1, 0, 1), -1);
    due("5: importer 4", x.apply(4, 0, 1), -1);
    due("5: origin -1", x.apply(0, -1, 1), -1);
    due("5: origin 2", x.apply(0, 2, 1), -1);
    due("5: n 0", x.apply(0, 0, 0), -1);
    due("5: n 100000", x.apply(0, 0, 100000), -1);
    due("5: n 100000 of a newcomer", x.apply(2, 0, 100000), -1);
    due("5: more than lot", x.apply(2, 0, 101), -3);
    due("5: lot", x.apply(2, 0, 100), 0);
    due("5: more than lot comes first", x.apply(2, 0, 101), -3);
    due("5: twice", x.apply(2, 0, 1), -4);
    due("5: of another origin", x.apply(2, 1, 1), 1);
    x.use(0, 49);
    x.giveBack(0);
    due("5: twice, given back", x.apply(2, 0, 1), -4);
    pass(x, 90);
    due("5: idle", x.apply(2, 0, 1), -5);
    due("5: more than lot ahead of idle", x.apply(2, 0, 101), -3);
    x.set(3, 49);
    due("5: surety as it is now", x.apply(2, 0, 1), 2);
    x.hand(2, 3, 1);
    due("5: granted, though handed on", x.apply(2, 0, 1), -4);
    due("5: handed is not granted", x.apply(3, 0, 1), 4);
    due("5: acts", x.count(5), 9);
  }

  private static void applySixty() {
    QuotaLicences x = Check.of(S);
    for (int i = 0; i < 60; i++) {
      due("5: apply(0, 0, 1)", x.apply(0, 0, 1), i);
    }
    due("5: there are 60", x.apply(0, 0, 1), -2);
    due("5: 60 ahead of lot", x.apply(2, 0, 101), -2);
    due("5: none ahead of 60", x.apply(2, 0, 0), -1);
    due("8: hand(0, 1, 1) of 60", x.hand(0, 1, 1), -2);
    due("8: none ahead of 60", x.hand(0, 0, 1), -1);
    due("29: would() of 60", x.would(0, 0, 1), -2);
    due("32: best() of 60", x.best(0, 1, 0), -2);
    due("50: rush() of 60", x.rush(0, 0, 1), 0);
    x.undo();
    due("50: rush() of 59", x.rush(0, 0, 1), 1);
    due("50: rush() of 59, where the first one has none", x.rush(1, 1, 1), 0);
    due("50: rush() of 59, the second", x.rush(1, 0, 1), 0);
    due("50: rush() of 59, a newcomer", x.rush(2, 0, 1), 0);
    x.undo();
    due("50: rush() of 58, the second", x.rush(1, 0, 1), 1);
    due("50: rush() of 58, a newcomer", x.rush(2, 0, 1), 0);
  }

  private static void use() {
    QuotaLicences x = Check.of(S);
    x.apply(0, 0, 100);
    due("6: no licence 1", x.use(1, 1), -1);
    due("6: no licence -1", x.use(-1, 1), -1);
    due("6: n 0", x.use(0, 0), -1);
    due("6: n 100000", x.use(0, 100000), -1);
    due("6: too much", x.use(0, 101), -3);
    due("6: use(0, 40)", x.use(0, 40), 60);
    due("6: open", x.licence(0, 5), 0);
    due("6: too much", x.use(0, 61), -3);
    due("6: imported in the period", x.origin(0, 5), 40);
    due("6: imported in the year", x.past(0, 0, 3), 40);
    due("6: use(0, 60)", x.use(0, 60), 0);
    due("6: used up", x.licence(0, 5), 1);
    due("6: it has ended", x.use(0, 1), -2);
    due("6: ended ahead of too much", x.use(0, 99999), -2);
    due("6: acts", x.count(5), 3);
    due("6: total", x.total(1), 100);
  }

  private static void giveBack() {
    QuotaLicences x = Check.of(S);
    x.apply(0, 0, 100);
    due("7: no licence 1", x.giveBack(1), -1);
    due("7: no licence -1", x.giveBack(-1), -1);
    x.use(0, 30);
    due("7: giveBack(0)", x.giveBack(0), 70);
    due("7: given back", x.licence(0, 5), 2);
    due("7: pool", x.origin(0, 3), 470);
    due("7: share left stays", x.share(0, 0, 1), 350);
    due("7: left", x.licence(0, 7), 0);
    due("7: how much stays", x.licence(0, 2), 100);
    due("7: returned: of this period", x.origin(0, 7), 0);
    due("7: again", x.giveBack(0), -2);
    due("7: total", x.total(2), 70);
    x.apply(2, 0, 80);
    pass(x, 10);
    x.set(2, 90);
    x.apply(2, 1, 60);
    pass(x, 85);
    due("7: giveBack of another period", x.giveBack(2), 60);
    due("7: returned", x.origin(1, 7), 60);
    due("7: pool, carried and given back", x.origin(1, 3), 200 + 440 + 60);
    pass(x, 85);
    due("7: returned anew", x.origin(1, 7), 0);
  }

  private static void hand() {
    QuotaLicences x = Check.of(S);
    x.apply(0, 0, 100);
    pass(x, 5);
    x.use(0, 30);
    due("8: its own importer", x.hand(0, 0, 1), -1);
    due("8: no importer 4", x.hand(0, 4, 1), -1);
    due("8: no importer -1", x.hand(0, -1, 1), -1);
    due("8: no licence 1", x.hand(1, 1, 1), -1);
    due("8: n 0", x.hand(0, 1, 0), -1);
    due("8: n 100000", x.hand(0, 1, 100000), -1);
    due("8: not so much", x.hand(0, 1, 71), -4);
    due("8: hand(0, 2, 20)", x.hand(0, 2, 20), 1);
    due("8: importer", x.licence(1, 0), 2);
    due("8: origin", x.licence(1, 1), 0);
    due("8: how much", x.licence(1, 2), 20);
    due("8: issued as the first", x.licence(1, 3), 0);
    due("8: used", x.licence(1, 4), 0);
    due("8: last day", x.licence(1, 6), 29);
    due("8: the first is of less", x.licence(0, 2), 80);
    due("8: the first is open", x.licence(0, 5), 0);
    due("8: hand(0, 1, 50)", x.hand(0, 1, 50), 2);
    due("8: nothing is left: used up", x.licence(0, 5), 1);
    due("8: how much it is of", x.licence(0, 2), 30);
    due("8: ended", x.hand(0, 1, 1), -3);
    due("8: ended ahead of not so much", x.hand(0, 1, 99999), -3);
    due("8: hand(1, 3, 20)", x.hand(1, 3, 20), 3);
    due("8: of 0: used up", x.licence(1, 5), 1);
    due("8: of 0", x.licence(1, 2), 0);
    due("8: granted stays", x.origin(0, 4), 100);
    due("8: acts", x.count(5), 6);
  }

  private static void merge() {
    QuotaLicences x = Check.of(S);
    x.apply(0, 0, 100);
    x.apply(0, 0, 50);
    x.apply(1, 0, 40);
    x.set(2, 31);
    x.apply(0, 0, 30);
    due("9: no licence 4", x.merge(0, 4), -1);
    due("9: no licence -1", x.merge(-1, 0), -1);
    due("9: itself", x.merge(0, 0), -1);
    due("9: another importer", x.merge(0, 2), -3);
    due("9: another last day", x.merge(0, 3), -3);
    pass(x, 2);
    x.use(0, 10);
    pass(x, 2);
    x.use(1, 20);
    due("9: merge(0, 1)", x.merge(0, 1), 120);
    due("9: how much", x.licence(0, 2), 150);
    due("9: used", x.licence(0, 4), 30);
    due("9: the other is of 0", x.licence(1, 2), 0);
    due("9: nothing of it is used", x.licence(1, 4), 0);
    due("9: the other is used up", x.licence(1, 5), 1);
    Check.dueDouble("9: speed", x.speed(0), (10 * 2 + 20 * 4) / 30.0);
    due("9: speed of the other", x.speed(1), MINUS_ONE);
    due("9: ended", x.merge(0, 1), -2);
    due("9: ended", x.merge(1, 0), -2);
    due("9: ended ahead of unlike ones", x.merge(1, 2), -2);
    x.hand(0, 1, 10);
    due("9: another issue", x.licence(4, 3), 0);
    due("9: merge(2, 4), one by hand", x.merge(2, 4), 50);
    x.set(2, 27);
    x.apply(0, 0, 5);
    due("9: another day of issue, one last day", x.licence(5, 6) == 30 && x.licence(3, 6) == 30 ? 1 : 0, 1);
    due("9: another day of issue", x.merge(3, 5), -3);
    QuotaLicences y = Check.of(S);
    y.apply(1, 0, 10);
    y.apply(1, 1, 10);
    due("9: another origin", y.merge(0, 1), -3);
  }

  private static void lend() {
    QuotaLicences x = Check.of(S);
    due("10: to itself", x.lend(0, 0, 0, 1), -1);
    due("10: no importer", x.lend(4, 0, 0, 1), -1);
    due("10: no importer", x.lend(0, 4, 0, 1), -1);
    due("10: no importer", x.lend(0, -1, 0, 1), -1);
    due("10: no origin", x.lend(0, 1, 2, 1), -1);
    due("10: n 0", x.lend(0, 1, 0, 0), -1);
    due("10: n 100000", x.lend(0, 1, 0, 100000), -1);
    due("10: to a newcomer", x.lend(0, 2, 0, 1), -2);
    due("10: of a newcomer", x.lend(2, 0, 0, 1), -2);
    due("10: newcomer ahead of too much", x.lend(0, 2, 0, 99999), -2);
    due("10: not so much", x.lend(0, 1, 0, 451), -3);
    due("10: lend(0, 1, 0, 400)", x.lend(0, 1, 0, 400), 50);
    due("10: share stays", x.share(0, 0, 0), 450);
    due("10: share of the other stays", x.share(1, 0, 0), 150);
    due("10: left of the other", x.share(1, 0, 1), 550);
    due("10: not so much left", x.lend(0, 1, 0, 51), -3);
    due("10: all", x.lend(0, 1, 0, 50), 0);
    due("10: apply", x.apply(0, 0, 1), -6);
    due("10: would", x.would(1, 0, 99999), 600);
    due("10: acts", x.count(5), 2);
    pass(x, 90);
    due("10: anew", x.share(0, 0, 1), 450);
  }

  private static void excess() {
    QuotaLicences x = Check.of(S);
    due("11: no importer", x.excess(4, 0, 1, 1), -1);
    due("11: no origin", x.excess(0, 2, 1, 1), -1);
    due("11: n 0", x.excess(0, 0, 0, 1), -1);
    due("11: n 100000", x.excess(0, 0, 100000, 1), -1);
    due("11: v 0", x.excess(0, 0, 1, 0), -1);
    due("11: v 10000", x.excess(0, 0, 1, 10000), -1);
    due("11: acts", x.count(5), 0);
    Check.dueDouble("11: excess(0, 0, 10, 3)", x.excess(0, 0, 10, 3), 30.0 * 200.0 / 1000.0);
    x.set(4, 333);
    Check.dueDouble("11: excess(0, 1, 99999, 9999)", x.excess(0, 1, 99999, 9999), 999890001.0 * 333.0 / 1000.0);
    Check.dueDouble("11: excess(0, 0, 7, 1)", x.excess(0, 0, 7, 1), 7.0 * 333.0 / 1000.0);
    due("11: without", x.origin(0, 6), 17);
    due("11: without", x.origin(1, 6), 99999);
    due("11: by licences", x.origin(0, 5), 0);
    due("11: this year", x.past(0, 0, 3), 17);
    due("11: month", x.month(0, 0), 0);
    x.set(4, 0);
    due("11: no duty", x.excess(1, 0, 5, 5), 0);
    due("11: total", x.total(4), 10 + 99999 + 7 + 5);
    due("11: acts", x.count(5), 6);
  }

  private static void days() {
    QuotaLicences x = Check.of(S);
    due("12: 0", x.days(0), -1);
    due("12: -1", x.days(-1), -1);
    due("12: 91", x.days(91), -1);
    due("12: none without a scheme", new QuotaLicences().days(1), -1);
    QuotaLicences z = Check.of(S);
    z.apply(0, 0, 7);
    z.set(2, 10);
    z.apply(0, 0, 5);
    due("12: two lapse on two days", z.days(40), 12);
    x.apply(0, 0, 100);
    x.apply(2, 0, 60);
    x.use(1, 25);
    due("12: days(29)", x.days(29), 0);
    due("12: open on its last day", x.licence(0, 5), 0);
    due("12: days(1)", x.days(1), 135);
    due("12: lapsed", x.licence(0, 5), 3);
    due("12: pool", x.origin(0, 3), 340 + 135);
    due("12: total", x.total(3), 135);
    due("12: returned: of this period", x.origin(0, 7), 0);
    due("12: day", x.count(4), 30);
    due("12: use", x.use(0, 1), -2);
    x.set(2, 90);
    x.apply(0, 0, 90);
    pass(x, 60);
    due("12: carried", x.origin(0, 2), 475 + 350 - 90 + 150);
    due("12: pool", x.origin(0, 3), 400 + 885);
    due("12: granted anew", x.origin(0, 4), 0);
    due("12: lapses in the next period", x.days(30), 90);
    due("12: returned", x.origin(0, 7), 90);
    x.set(2, 3);
    x.apply(1, 0, 8);
    due("12: of this period", x.days(3), 8);
    due("12: returned stays", x.origin(0, 7), 90);
    due("12: pool", x.origin(0, 3), 400 + 885 + 90 + 8);
    QuotaLicences y = Check.of(S);
    pass(y, 3600 - 45);
    due("12: above 3600", y.days(46), -2);
    due("12: none ahead of above 3600", y.days(91), -1);
    due("12: day", y.count(4), 3555);
    due("12: up to 3600", y.days(45), 0);
    due("12: above 3600", y.days(1), -2);
    due("12: day", y.count(4), 3600);
  }

  private static void years() {
    QuotaLicences x = Check.of(S);
    x.apply(0, 0, 100);
    x.use(0, 80);
    x.excess(0, 0, 5, 1);
    x.excess(3, 1, 9, 1);
    pass(x, 359);
    due("12: pool of the last period", x.origin(0, 3), 4 * 400 + 3 * 600 - 100 + 20);
    due("12: this year", x.past(0, 0, 3), 85);
    pass(x, 1);
    due("12: year 0", x.past(0, 0, 0), 85);
    due("12: year 1", x.past(0, 0, 1), 300);
    due("12: year 2", x.past(0, 0, 2), 200);
    due("12: this year", x.past(0, 0, 3), 0);
    due("12: year 0 without licence", x.past(3, 1, 0), 9);
    due("12: month", x.month(0, 0), 0);
    due("12: nothing is carried", x.origin(0, 2), 0);
    due("12: one is a newcomer now", x.sort(1, 0), 0);
    due("12: all for the other", x.share(0, 0, 0), 600);
    due("12: pool", x.origin(0, 3), 400);
    x.excess(3, 1, 1, 1);
    pass(x, 360);
    due("12: two years", x.sort(3, 1), 1);
    due("12: one year alone is left", x.sort(1, 1), 0);
    due("12: share", x.share(3, 1, 0), 300);
  }

  private static void widen() {
    QuotaLicences x = Check.of(S);
    due("13: no origin", x.widen(2, 5), -1);
    due("13: no origin", x.widen(-1, 5), -1);
    due("13: -1", x.widen(0, -1), -1);
    due("13: 100000", x.widen(0, 100000), -1);
    due("13: it is so", x.widen(0, 1000), -2);
    due("13: acts", x.count(5), 0);
    due("13: widen(0, 2000)", x.widen(0, 2000), 1000);
    due("13: told", x.origin(0, 0), 2000);
    due("13: of this period", x.origin(0, 1), 1000);
    due("13: share", x.share(0, 0, 0), 450);
    pass(x, 90);
    due("13: of the next period", x.origin(0, 1), 2000);
    due("13: share", x.share(0, 0, 0), 900);
    due("13: widen(0, 0)", x.widen(0, 0), 2000);
    due("13: widen(0, 99999)", x.widen(0, 99999), 0);
    due("13: acts", x.count(5), 4);
  }

  private static void set() {
    QuotaLicences x = Check.of(S);
    int[] least = {0, 1, 1, 0, 0, 1};
    int[] most = {100, 99999, 90, 100, 2000, 3};
    int[] was = {60, 100, 30, 50, 200, 2};
    for (int what = 0; what < 6; what++) {
      due("14: below", x.set(what, least[what] - 1), -1);
      due("14: above", x.set(what, most[what] + 1), -1);
      due("14: it is so", x.set(what, was[what]), -2);
      due("14: least", x.set(what, least[what]), was[what]);
      due("14: most", x.set(what, most[what]), least[what]);
      due("14: told", x.told(what), most[what]);
    }
    due("14: no such", x.set(6, 1), -1);
    due("14: no such", x.set(-1, 1), -1);
    due("14: without a scheme", new QuotaLicences().set(0, 1), -1);
    due("14: part holds from the next period on", x.share(0, 0, 0), 450);
    due("14: need holds from the next period on", x.sort(1, 0), 1);
    due("14: lot holds at once", x.would(2, 0, 99999), 400);
    pass(x, 90);
    due("14: part, need", x.share(0, 0, 0), 1000);
    due("14: need", x.sort(1, 0), 0);
  }

  // ---- 15 to 17 ----

  private static void undo() {
    QuotaLicences x = Check.of(S);
    due("15: none", x.undo(), -1);
    for (int i = 0; i < 12; i++) {
      x.apply(0, 0, 10 + i);
      due("15: acts", x.count(5), Math.min(i + 1, 10));
    }
    x.apply(0, 0, 0);
    for (int i = 9; i >= 0; i--) {
      due("15: undo()", x.undo(), i);
      due("15: licences", x.count(2), 2 + i);
    }
    due("15: none more", x.undo(), -1);
    due("15: share left", x.share(0, 0, 1), 450 - 21);
    undoEach();
  }

  private static void undoEach() {
    QuotaLicences x = Check.of(S);
    x.apply(0, 0, 100);
    x.apply(0, 0, 50);
    x.keep(0);
    x.row(1, 2);
    x.use(0, 10);
    x.giveBack(1);
    x.hand(0, 1, 5);
    x.lend(1, 0, 0, 9);
    x.excess(2, 0, 5, 5);
    pass(x, 50);
    x.widen(0, 7);
    x.set(1, 7);
    due("15: of set()", x.undo(), 9);
    due("15: lot", x.told(1), 100);
    x.undo();
    due("15: of widen()", x.origin(0, 0), 1000);
    x.undo();
    due("15: of days()", x.count(4), 0);
    due("15: of days()", x.licence(0, 5), 0);
    x.undo();
    due("15: of excess()", x.owed(2), 0);
    due("15: of excess()", x.total(4), 0);
    x.undo();
    due("15: of lend()", x.share(0, 0, 1), 300);
    x.undo();
    due("15: of hand()", x.count(2), 2);
    due("15: of hand()", x.licence(0, 2), 100);
    x.undo();
    due("15: of giveBack()", x.licence(1, 5), 0);
    due("15: of giveBack()", x.origin(0, 3), 400);
    x.undo();
    due("15: of use()", x.licence(0, 4), 0);
    due("15: of use()", x.month(0, 0), 0);
    x.merge(0, 1);
    due("15: undo()", x.undo(), 2);
    due("15: of merge()", x.licence(1, 5), 0);
    due("15: shelves stay", x.count(7), 1);
    due("15: notes stay", x.count(8), 2);
    due("15: undo()", x.undo(), 1);
    due("15: undo()", x.undo(), 0);
    due("15: of apply()", x.share(0, 0, 1), 450);
    x.apply(0, 0, 20);
    pass(x, 2);
    x.use(0, 20);
    x.undo();
    x.undo();
    x.undo();
    x.apply(0, 0, 30);
    due("15: a new licence in its place", x.licence(0, 4), 0);
    due("15: a new licence in its place", x.licence(0, 5), 0);
    due("15: a new licence in its place", x.licence(0, 7), 30);
    x.use(0, 1);
    due("15: a new licence in its place", x.speed(0), 0);
    x.undo();
    due("15: peak", x.peak(0, 1, 1), 0);
  }

  private static void keep() {
    QuotaLicences x = Check.of(S);
    due("16: no shelf", x.keep(2), -1);
    due("16: no shelf", x.keep(-1), -1);
    due("16: shelves", x.count(7), 0);
    due("16: keep(1)", x.keep(1), 2);
    due("16: shelves", x.count(7), 2);
    x.apply(0, 0, 5);
    due("16: keep(0)", x.keep(0), 2);
    due("16: shelves", x.count(7), 3);
    due("16: acts stay", x.count(5), 1);
    QuotaLicences y = new QuotaLicences();
    due("16: without a scheme", y.keep(0), 0);
    due("16: it is kept all the same", y.count(7), 1);
    Check.tell(y, S);
    due("17: back to no scheme", y.back(0), 0);
    due("17: no scheme", y.told(0), -1);
    due("17: no text", y.letter(-1), 0);
  }

  private static void back() {
    QuotaLicences x = Check.of(S);
    due("17: no shelf", x.back(2), -1);
    due("17: no shelf", x.back(-1), -1);
    due("17: nothing there", x.back(1), -2);
    x.apply(0, 0, 30);
    x.use(0, 7);
    pass(x, 95);
    x.excess(1, 1, 3, 3);
    x.keep(1);
    x.row(0, 4);
    x.feed(0, 0, 0, 0, 0);
    pass(x, 300);
    x.keep(0);
    due("17: back(1)", x.back(1), 2);
    due("17: day", x.count(4), 95);
    due("17: acts", x.count(5), 0);
    due("17: undo()", x.undo(), -1);
    due("17: used", x.licence(0, 4), 7);
    due("17: log", x.log(0, 0, 2), 30);
    due("17: log", x.log(1, 0, 2), -1);
    due("17: this year", x.past(1, 1, 3), 3);
    Check.dueDouble("17: owed", x.owed(1), 1.8);
    due("17: shelves", x.count(7), 3);
    due("17: notes stay", x.count(8), 4);
    due("17: tape stays", x.count(6), 20);
    x.use(0, 5);
    pass(x, 1);
    due("17: the shelf is not touched", x.back(1), 2);
    due("17: day", x.count(4), 95);
    due("17: again", x.back(0), 2);
    due("17: day", x.count(4), 395);
    due("17: another scheme", Check.tell(x, B + ";origin 3"), 1);
    due("17: back(1)", x.back(1), 2);
    due("17: importers", x.count(1), 4);
    backWhole();
    backToNothing();
  }

  /** Each part of what is kept is changed before it is brought back. */
  private static void backWhole() {
    QuotaLicences x = Check.of(S);
    x.apply(2, 1, 50);
    pass(x, 3);
    x.apply(1, 0, 60);
    x.use(1, 20);
    x.hand(1, 3, 15);
    pass(x, 2);
    x.use(2, 5);
    x.giveBack(0);
    x.keep(0);
    Check.tell(x, "scheme 10 99999 90 0 0 3;origin 9000;origin 8000;origin 7000;importer;importer;importer;importer");
    for (int i = 0; i < 3; i++) {
      x.apply(0, i, 1);
      x.use(i, 1);
    }
    x.apply(2, 0, 9);
    pass(x, 100);
    due("17: back(0)", x.back(0), 2);
    int[][] want = {{2, 1, 50, 0, 0, 2, 29, 0}, {1, 0, 45, 3, 20, 0, 32, 25}, {3, 0, 15, 3, 5, 0, 32, 10}};
    for (int i = 0; i < 3; i++) {
      for (int what = 0; what < 8; what++) {
        due("17: licence(" + i + ", " + what + ")", x.licence(i, what), want[i][what]);
      }
    }
    due("17: no more licences", x.count(2), 3);
    due("17: root", x.root(2, 0), 1);
    Check.dueDouble("17: speed", x.speed(2), 2.0);
    due("17: idle", x.idle(2, 1), 1);
    due("17: sort", x.sort(0, 0), 1);
    due("17: sort", x.sort(2, 0), 0);
    due("17: share", x.share(0, 0, 0), 450);
    due("17: left", x.share(1, 0, 1), 90);
    due("17: granted", x.would(2, 1, 1), -4);
    due("17: not granted", x.would(0, 1, 1), 1);
    due("17: not granted", x.would(2, 0, 1), 1);
    due("17: peak", x.peak(0, 1, 1), 25);
    due("17: month", x.month(1, 0), 20);
    due("17: no log", x.log(0, 0, 0), -1);
    due("17: stood", x.stood(1, 4), 50);
    x.undo();
    pass(x, 1);
    due("17: ended on day 5", x.stood(1, 5), 0);
  }

  private static void backToNothing() {
    QuotaLicences x = Check.of(S);
    x.keep(0);
    x.apply(0, 0, 20);
    pass(x, 2);
    x.use(0, 20);
    x.back(0);
    x.apply(0, 0, 30);
    due("17: a new licence is open", x.licence(0, 5), 0);
    due("17: nothing of it is used", x.licence(0, 4), 0);
    x.use(0, 1);
    due("17: its days are its own", x.speed(0), 0);
  }

  // ---- 18 to 28 ----

  private static void told() {
    QuotaLicences x = Check.of(S);
    int[] want = {60, 100, 30, 50, 200, 2};
    for (int what = 0; what < 6; what++) {
      due("18: told(" + what + ")", x.told(what), want[what]);
    }
    due("18: told(6)", x.told(6), -1);
    due("18: told(-1)", x.told(-1), -1);
  }

  private static void origin() {
    QuotaLicences x = Check.of(S);
    due("19: no origin", x.origin(2, 0), -1);
    due("19: no origin", x.origin(-1, 0), -1);
    due("19: no such", x.origin(0, 8), -1);
    due("19: no such", x.origin(0, -1), -1);
    x.set(2, 90);
    x.apply(1, 1, 200);
    pass(x, 80);
    x.apply(1, 1, 100);
    pass(x, 10);
    x.widen(1, 600);
    x.apply(0, 1, 50);
    x.apply(1, 1, 70);
    x.use(2, 20);
    x.use(1, 5);
    x.excess(3, 1, 11, 1);
    x.giveBack(1);
    int[] want = {600, 500, 400, 200 + 400 - 50 + 95, 120, 25, 11, 95};
    for (int what = 0; what < 8; what++) {
      due("19: origin(1, " + what + ")", x.origin(1, what), want[what]);
    }
  }

  private static void past() {
    QuotaLicences x = Check.of(S);
    due("20: year 0", x.past(0, 0, 0), 300);
    due("20: year 1", x.past(0, 0, 1), 200);
    due("20: year 2", x.past(0, 0, 2), 100);
    due("20: none", x.past(0, 1, 0), 0);
    x.apply(0, 0, 9);
    x.use(0, 4);
    x.excess(0, 0, 2, 1);
    due("20: this year", x.past(0, 0, 3), 6);
    due("20: no year", x.past(0, 0, 4), -1);
    due("20: no year", x.past(0, 0, -1), -1);
    due("20: no importer", x.past(4, 0, 0), -1);
    due("20: no origin", x.past(0, 2, 0), -1);
  }

  private static void sort() {
    QuotaLicences x = Check.of(S);
    due("21: three years", x.sort(0, 0), 1);
    due("21: two years", x.sort(1, 0), 1);
    due("21: one year", x.sort(2, 0), 0);
    due("21: no year", x.sort(3, 0), 0);
    due("21: another origin", x.sort(0, 1), 0);
    due("21: no importer", x.sort(4, 0), -1);
    due("21: no importer", x.sort(-1, 0), -1);
    due("21: no origin", x.sort(0, 2), -1);
    String three = S.replace("200 2;", "200 3;");
    due("21: need 3, two years", Check.of(three).sort(1, 0), 0);
    due("21: need 3, three years", Check.of(three).sort(0, 0), 1);
    String one = S.replace("200 2;", "200 1;");
    due("21: need 1, one year", Check.of(one).sort(2, 0), 1);
    due("21: need 1, no year", Check.of(one).sort(3, 0), 0);
    String little = "scheme 60 100 30 50 200 2;origin 9;importer;importer;importer"
        + ";past 0 0 1 1 0;past 1 0 0 1 1;past 2 0 1 0 1";
    for (int i = 0; i < 3; i++) {
      due("21: one a year", Check.of(little).sort(i, 0), 1);
    }
  }

  private static void mean() {
    QuotaLicences x = Check.of(S);
    Check.dueDouble("22: mean(0, 0)", x.mean(0, 0), 200.0);
    Check.dueDouble("22: mean(1, 0)", x.mean(1, 0), 200.0 / 3.0);
    Check.dueDouble("22: mean(2, 0)", x.mean(2, 0), 70.0 / 3.0);
    due("22: mean(3, 0)", x.mean(3, 0), 0);
    due("22: no importer", x.mean(4, 0), -1);
    due("22: no origin", x.mean(0, -1), -1);
    QuotaLicences y = Check.of(B + ";origin 0;importer;past 0 0 0 0 1");
    Check.dueDouble("22: a third", y.mean(0, 0), 1.0 / 3.0);
  }

  private static void share() {
    QuotaLicences x = Check.of(S);
    due("23: share(0, 0, 0)", x.share(0, 0, 0), 450);
    due("23: share(1, 0, 0)", x.share(1, 0, 0), 150);
    due("23: of a newcomer", x.share(2, 0, 0), 0);
    due("23: of a newcomer, left", x.share(2, 0, 1), 0);
    x.apply(0, 0, 33);
    due("23: left", x.share(0, 0, 1), 417);
    due("23: no such", x.share(0, 0, 2), -1);
    due("23: no such", x.share(0, 0, -1), -1);
    due("23: no importer", x.share(-1, 0, 0), -1);
    due("23: no origin", x.share(0, 2, 0), -1);
    QuotaLicences y = Check.of(S.replace("scheme 60", "scheme 33").replace("origin 1000", "origin 999"));
    due("23: 329 by 600 of 800, downwards", y.share(0, 0, 0), 246);
    due("23: 329 by 200 of 800, downwards", y.share(1, 0, 0), 82);
    due("23: the rest is in the pool", y.origin(0, 3), 999 - 328);
    QuotaLicences z = Check.of("scheme 100 1 1 0 0 1;origin 99999;importer;importer"
        + ";past 0 0 99999 99999 99999;past 1 0 99999 99999 99998");
    due("23: great numbers", z.share(0, 0, 0), 49999);
    due("23: great numbers", z.share(1, 0, 0), 49999);
    due("23: great numbers", z.origin(0, 3), 1);
  }

  private static void licence() {
    QuotaLicences x = Check.of(S);
    pass(x, 3);
    x.apply(1, 1, 40);
    x.use(0, 15);
    int[] want = {1, 1, 40, 3, 15, 0, 32, 25};
    for (int what = 0; what < 8; what++) {
      due("24: licence(0, " + what + ")", x.licence(0, what), want[what]);
    }
    due("24: no such", x.licence(0, 8), -1);
    due("24: no such", x.licence(0, -1), -1);
    due("24: no licence", x.licence(1, 0), -1);
    due("24: no licence", x.licence(-1, 0), -1);
    x.giveBack(0);
    due("24: given back", x.licence(0, 5), 2);
    due("24: nothing left", x.licence(0, 7), 0);
    due("24: used stays", x.licence(0, 4), 15);
  }

  private static void month() {
    QuotaLicences x = Check.of(S);
    x.set(2, 90);
    x.apply(1, 0, 100);
    x.apply(1, 1, 100);
    x.use(0, 3);
    pass(x, 29);
    x.use(1, 4);
    pass(x, 1);
    x.use(0, 5);
    x.excess(1, 0, 50, 1);
    due("25: month 0", x.month(1, 0), 7);
    due("25: month 1", x.month(1, 1), 5);
    due("25: month 11", x.month(1, 11), 0);
    due("25: of another", x.month(0, 0), 0);
    due("25: no month", x.month(1, 12), -1);
    due("25: no month", x.month(1, -1), -1);
    due("25: no importer", x.month(4, 0), -1);
    due("25: no importer", x.month(-1, 0), -1);
    pass(x, 329);
    x.apply(1, 0, 10);
    x.use(2, 6);
    due("25: month 11", x.month(1, 11), 6);
    pass(x, 1);
    due("25: a new year", x.month(1, 11), 0);
    due("25: a new year", x.month(1, 0), 0);
  }

  private static void rate() {
    QuotaLicences x = Check.of(S);
    due("26: none", x.rate(0), MINUS_ONE);
    due("26: no importer", x.rate(4), -1);
    due("26: no importer", x.rate(-1), -1);
    x.apply(0, 0, 30);
    x.apply(0, 0, 40);
    x.apply(0, 0, 50);
    x.use(0, 7);
    due("26: open ones", x.rate(0), MINUS_ONE);
    x.giveBack(0);
    Check.dueDouble("26: one", x.rate(0), 7.0 / 30.0);
    x.use(1, 40);
    Check.dueDouble("26: two", x.rate(0), 47.0 / 70.0);
    pass(x, 30);
    Check.dueDouble("26: three", x.rate(0), 47.0 / 120.0);
    x.apply(0, 0, 5);
    x.hand(3, 3, 5);
    Check.dueDouble("26: one of 0", x.rate(0), 47.0 / 120.0);
    x.hand(4, 2, 5);
    due("26: of 0 together", x.rate(3), MINUS_ONE);
    x.giveBack(5);
    due("26: nothing used", x.rate(2), 0);
    QuotaLicences y = Check.of(S);
    y.apply(2, 0, 1);
    y.use(0, 1);
    Check.dueDouble("26: one of 1", y.rate(2), 1.0);
    y.apply(0, 0, 300);
    y.use(1, 1);
    y.giveBack(1);
    Check.dueDouble("26: a small one", y.rate(0), 1.0 / 300.0);
  }

  private static void idle() {
    QuotaLicences x = Check.of(S);
    due("27: none", x.idle(0, 0), 0);
    due("27: no importer", x.idle(4, 0), -1);
    due("27: no origin", x.idle(0, 2), -1);
    x.apply(0, 0, 100);
    x.apply(0, 0, 100);
    x.use(0, 50);
    due("27: open", x.idle(0, 0), 0);
    x.giveBack(0);
    due("27: just enough", x.idle(0, 0), 0);
    x.set(3, 51);
    due("27: surety as it is now", x.idle(0, 0), 1);
    x.set(3, 50);
    x.use(1, 49);
    pass(x, 1);
    x.giveBack(1);
    due("27: the later one", x.idle(0, 0), 1);
    due("27: another origin", x.idle(0, 1), 0);
    x.apply(0, 0, 10);
    x.apply(0, 0, 10);
    x.giveBack(3);
    x.use(2, 10);
    due("27: of one day the greatest number", x.idle(0, 0), 1);
    x.set(3, 0);
    due("27: surety 0", x.idle(0, 0), 0);
    x.set(3, 100);
    x.apply(0, 0, 10);
    x.hand(4, 1, 10);
    due("27: of 0", x.idle(0, 0), 0);
    x.set(3, 50);
    x.apply(1, 1, 300);
    x.use(x.count(2) - 1, 149);
    x.giveBack(x.count(2) - 1);
    due("27: one too few of 300", x.idle(1, 1), 1);
    idleByDays();
  }

  private static void idleByDays() {
    QuotaLicences x = Check.of(S);
    x.apply(2, 0, 10);
    x.set(2, 5);
    x.hand(0, 3, 5);
    x.apply(3, 0, 8);
    pass(x, 5);
    due("27: lapsed", x.idle(3, 0), 1);
    x.use(1, 5);
    due("27: the lesser number on a later day", x.idle(3, 0), 0);
    x.undo();
    pass(x, 90);
    x.set(3, 100);
    due("27: lapsed on a later day", x.idle(2, 0), 1);
  }

  private static void owed() {
    QuotaLicences x = Check.of(S.replace("50 200 2", "50 100 2"));
    due("28: nothing", x.owed(0), 0);
    x.excess(0, 0, 1, 1);
    x.excess(0, 1, 1, 2);
    x.excess(0, 0, 1, 3);
    Check.dueDouble("28: one by one", x.owed(0), 0.1 + 0.2 + 0.3);
    due("28: of another", x.owed(1), 0);
    x.set(4, 2000);
    Check.dueDouble("28: as duty was", x.owed(0), 0.1 + 0.2 + 0.3);
    x.excess(0, 0, 1, 1);
    Check.dueDouble("28: as duty is", x.owed(0), 0.1 + 0.2 + 0.3 + 2.0);
    due("28: no importer", x.owed(4), -1);
    due("28: no importer", x.owed(-1), -1);
    pass(x, 360);
    Check.dueDouble("28: it stays", x.owed(0), 0.1 + 0.2 + 0.3 + 2.0);
  }

  // ---- 29 to 37 ----

  private static void would() {
    QuotaLicences x = Check.of(S);
    due("29: all", x.would(0, 0, 450), 450);
    due("29: less", x.would(0, 0, 451), 450);
    due("29: newcomer", x.would(2, 0, 100), 100);
    due("29: lot", x.would(2, 0, 101), -3);
    due("29: n 0", x.would(0, 0, 0), -1);
    due("29: n 100000", x.would(0, 0, 100000), -1);
    due("29: no importer", x.would(4, 0, 1), -1);
    due("29: no origin", x.would(0, 2, 1), -1);
    x.apply(2, 0, 9);
    due("29: twice", x.would(2, 0, 9), -4);
    x.giveBack(0);
    x.apply(0, 0, 450);
    due("29: nothing", x.would(0, 0, 1), -6);
    due("29: no licence by it", x.count(2), 2);
    pass(x, 90);
    due("29: idle", x.would(2, 0, 9), -5);
  }

  private static void lapses() {
    QuotaLicences x = Check.of(S);
    x.apply(0, 0, 100);
    x.use(0, 25);
    x.set(2, 31);
    x.apply(1, 0, 10);
    due("30: lapses(29)", x.lapses(29), 0);
    due("30: lapses(30)", x.lapses(30), 75);
    due("30: lapses(31)", x.lapses(31), 85);
    due("30: lapses(90)", x.lapses(90), 85);
    due("30: 0", x.lapses(0), -1);
    due("30: 91", x.lapses(91), -1);
    due("30: without a scheme", new QuotaLicences().lapses(1), -1);
    due("30: nothing happens", x.count(4), 0);
    x.giveBack(0);
    due("30: given back", x.lapses(90), 10);
    pass(x, 3560);
    pass(x, 39);
    x.apply(0, 1, 5);
    due("30: beyond 3600", x.lapses(90), 5);
    pass(x, 1);
    due("30: none left", x.lapses(90), 0);
  }

  private static void next() {
    QuotaLicences x = Check.of(S);
    x.apply(0, 0, 10);
    x.set(2, 5);
    x.apply(0, 0, 10);
    x.set(2, 30);
    x.apply(0, 0, 10);
    x.set(2, 1);
    x.apply(0, 0, 10);
    due("31: how many", x.next(-1), 4);
    due("31: next(0)", x.next(0), 3);
    due("31: next(1)", x.next(1), 1);
    due("31: next(2)", x.next(2), 0);
    due("31: next(3)", x.next(3), 2);
    due("31: next(4)", x.next(4), -2);
    due("31: next(-2)", x.next(-2), -1);
    x.giveBack(1);
    due("31: how many", x.next(-1), 3);
    due("31: next(1)", x.next(1), 0);
    due("31: next(3)", x.next(3), -2);
    due("31: far", x.next(Integer.MAX_VALUE), -2);
  }

  private static void best() {
    QuotaLicences x = Check.of(S);
    due("32: of several the least", x.best(2, 100, 0), 0);
    due("32: how much", x.best(2, 100, 1), 100);
    due("32: the other", x.best(1, 200, 0), 1);
    due("32: how much", x.best(1, 200, 1), 200);
    due("32: above lot", x.best(2, 101, 0), -2);
    due("32: above lot", x.best(2, 101, 1), -2);
    due("32: one", x.best(2, 1, 1), 1);
    due("32: n 0", x.best(2, 0, 0), -1);
    due("32: n 100000", x.best(2, 100000, 0), -1);
    due("32: no such", x.best(2, 1, 2), -1);
    due("32: no such", x.best(2, 1, -1), -1);
    due("32: no importer", x.best(4, 1, 0), -1);
  }

  private static void order() {
    QuotaLicences x = Check.of(S);
    due("33: by numbers", x.order(0), 0);
    due("33: by numbers", x.order(3), 3);
    due("33: no such", x.order(4), -1);
    due("33: no such", x.order(-1), -1);
    x.apply(1, 0, 100);
    x.apply(3, 0, 100);
    x.apply(1, 1, 100);
    x.use(0, 20);
    x.use(2, 21);
    x.use(1, 40);
    x.excess(2, 0, 99, 1);
    due("33: order(0)", x.order(0), 1);
    due("33: order(1)", x.order(1), 3);
    due("33: order(2)", x.order(2), 0);
    due("33: order(3)", x.order(3), 2);
    pass(x, 360);
    due("33: a new year", x.order(0), 0);
  }

  private static void focus() {
    QuotaLicences x = Check.of(S);
    due("34: nothing", x.focus(0), 0);
    due("34: no origin", x.focus(2), -1);
    due("34: no origin", x.focus(-1), -1);
    x.apply(0, 0, 1);
    Check.dueDouble("34: one", x.focus(0), 1.0);
    x.undo();
    x.apply(0, 0, 10);
    Check.dueDouble("34: one", x.focus(0), 1.0);
    x.apply(1, 0, 20);
    x.apply(2, 0, 30);
    x.apply(0, 0, 7);
    double a = 17.0 / 67.0;
    double b = 20.0 / 67.0;
    double c = 30.0 / 67.0;
    Check.dueDouble("34: three", x.focus(0), a * a + b * b + c * c);
    x.hand(0, 3, 10);
    x.giveBack(1);
    Check.dueDouble("34: hands aside", x.focus(0), a * a + b * b + c * c);
    pass(x, 90);
    due("34: a new period", x.focus(0), 0);
  }

  private static void carry() {
    QuotaLicences x = Check.of(S);
    due("35: all", x.carry(0), 1000);
    x.apply(0, 0, 100);
    x.apply(2, 0, 30);
    due("35: less", x.carry(0), 870);
    due("35: the other", x.carry(1), 500);
    due("35: no origin", x.carry(2), -1);
    due("35: no origin", x.carry(-1), -1);
    pass(x, 89);
    due("35: lapsed", x.carry(0), 1000);
    pass(x, 1);
    due("35: carried", x.origin(0, 2), 1000);
    due("35: more", x.carry(0), 2000);
    pass(x, 179);
    due("35: in the third period", x.carry(0), 3000);
    pass(x, 1);
    due("35: in the last period nothing will be", x.carry(0), 0);
    pass(x, 90);
    due("35: it was not", x.origin(0, 2), 0);
    due("35: a new year", x.carry(0), 1000);
  }

  private static void window() {
    QuotaLicences x = Check.of(S);
    due("36: without a scheme", new QuotaLicences().window(), -1);
    due("36: nothing", x.window(), 1);
    x.apply(0, 0, 450);
    x.apply(1, 0, 150);
    x.set(1, 400);
    x.apply(2, 0, 400);
    due("36: all", x.window(), 1);
    x.giveBack(1);
    x.apply(3, 0, 150);
    due("36: given back, granted again", x.window(), 1);
    x.set(2, 90);
    x.apply(1, 1, 300);
    pass(x, 80);
    x.apply(3, 1, 100);
    pass(x, 15);
    x.giveBack(5);
    due("36: returned", x.origin(1, 7), 100);
    due("36: returned", x.window(), 1);
  }

  /** All that may be granted is granted: what comes back, from whatever period, is granted again. */
  private static void windowFull() {
    QuotaLicences x = Check.of("scheme 0 99999 90 0 0 1;origin 100;importer;importer;importer");
    x.apply(0, 0, 40);
    x.use(0, 10);
    x.giveBack(0);
    x.apply(1, 0, 90);
    due("36: all, one given back", x.window(), 1);
    x.undo();
    pass(x, 90);
    x.apply(1, 0, 190);
    due("36: quota and carried", x.licence(1, 2), 190);
    due("36: quota and carried", x.window(), 1);
    pass(x, 89);
    x.giveBack(1);
    x.apply(2, 0, 190);
    due("36: granted again", x.licence(2, 2), 190);
    pass(x, 1);
    x.apply(0, 0, 100);
    x.giveBack(2);
    x.apply(1, 0, 190);
    due("36: quota and returned", x.licence(4, 2), 190);
    due("36: quota and returned", x.window(), 1);
  }

  private static void shareAt() {
    QuotaLicences x = Check.of(S);
    due("37: as it is", x.shareAt(0, 0, 60), 450);
    due("37: 0", x.shareAt(0, 0, 0), 0);
    due("37: 100", x.shareAt(0, 0, 100), 750);
    due("37: 33", x.shareAt(0, 0, 33), 247);
    due("37: 33", x.shareAt(1, 0, 33), 82);
    due("37: a newcomer", x.shareAt(2, 0, 100), 0);
    due("37: 101", x.shareAt(0, 0, 101), -1);
    due("37: -1", x.shareAt(0, 0, -1), -1);
    due("37: no importer", x.shareAt(4, 0, 1), -1);
    due("37: no origin", x.shareAt(0, 2, 1), -1);
    x.widen(0, 5);
    x.set(5, 3);
    due("37: of this period", x.shareAt(0, 0, 60), 450);
  }

  // ---- 38 to 51 ----

  private static void speed() {
    QuotaLicences x = Check.of(S);
    pass(x, 4);
    x.apply(0, 0, 100);
    due("38: nothing", x.speed(0), MINUS_ONE);
    due("38: no licence", x.speed(1), -1);
    due("38: no licence", x.speed(-1), -1);
    x.use(0, 1);
    due("38: one at once", x.speed(0), 0);
    x.use(0, 9);
    due("38: at once", x.speed(0), 0);
    pass(x, 3);
    x.use(0, 20);
    Check.dueDouble("38: two", x.speed(0), 2.0);
    pass(x, 4);
    x.use(0, 25);
    Check.dueDouble("38: three", x.speed(0), (20 * 3 + 25 * 7) / 55.0);
    x.giveBack(0);
    Check.dueDouble("38: it stays", x.speed(0), (20 * 3 + 25 * 7) / 55.0);
  }

  private static void fastest() {
    QuotaLicences x = Check.of(S);
    due("39: nothing", x.fastest(0), -2);
    due("39: no origin", x.fastest(2), -1);
    due("39: no origin", x.fastest(-1), -1);
    x.apply(0, 0, 100);
    x.apply(1, 0, 100);
    x.apply(2, 0, 100);
    x.apply(1, 1, 100);
    x.use(3, 1);
    due("39: another origin", x.fastest(0), -2);
    pass(x, 1);
    x.use(0, 1);
    x.use(1, 3);
    due("39: of several the least", x.fastest(0), 0);
    pass(x, 1);
    x.use(0, 2);
    x.use(1, 5);
    due("39: 13 by 8 ahead of 5 by 3", x.fastest(0), 1);
    x.use(2, 9);
    due("39: 18 by 9", x.fastest(0), 1);
    x.hand(1, 3, 10);
    x.use(4, 1);
    due("39: a handed one by its issue", x.fastest(0), 1);
    pass(x, 88);
    x.set(3, 0);
    x.apply(3, 0, 5);
    x.use(5, 5);
    due("39: all licences together", x.fastest(0), 3);
    fastestMerged();
  }

  private static void fastestMerged() {
    QuotaLicences x = Check.of(S);
    x.apply(0, 0, 50);
    x.apply(0, 0, 50);
    x.apply(1, 0, 50);
    pass(x, 3);
    x.use(1, 10);
    x.use(2, 1);
    pass(x, 1);
    x.use(2, 1);
    x.merge(0, 1);
    due("39: what was used is told once", x.fastest(0), 0);
  }

  private static void log() {
    QuotaLicences x = Check.of(S);
    due("40: nothing", x.log(0, 0, 0), -1);
    x.apply(0, 0, 100);
    x.use(0, 30);
    x.excess(0, 0, 9, 1);
    pass(x, 90);
    x.apply(0, 0, 50);
    x.widen(0, 2000);
    int[] want = {1000, 0, 100, 30, 9};
    for (int what = 0; what < 5; what++) {
      due("40: log(0, 0, " + what + ")", x.log(0, 0, what), want[what]);
    }
    due("40: the other origin", x.log(0, 1, 0), 500);
    due("40: no such", x.log(0, 0, 5), -1);
    due("40: no such", x.log(0, 0, -1), -1);
    due("40: no origin", x.log(0, 2, 0), -1);
    due("40: no period", x.log(1, 0, 0), -1);
    due("40: no period", x.log(-1, 0, 0), -1);
    pass(x, 90);
    due("40: the period ahead", x.log(1, 0, 2), 100);
    due("40: granted", x.log(0, 0, 2), 50);
    due("40: carried", x.log(0, 0, 1), 970);
    due("40: quota of it", x.log(0, 0, 0), 1000);
    pass(x, 540);
    due("40: eight", x.log(7, 0, 2), 100);
    due("40: no ninth", x.log(8, 0, 0), -1);
    due("40: quota", x.log(5, 0, 0), 2000);
    pass(x, 90);
    due("40: eight are kept", x.log(7, 0, 2), 50);
    due("40: no ninth", x.log(8, 0, 0), -1);
  }

  private static void risk() {
    QuotaLicences x = Check.of(S);
    due("41: none", x.risk(-1), 0);
    due("41: none", x.risk(0), -2);
    x.apply(0, 0, 100);
    x.apply(0, 0, 11);
    x.apply(0, 0, 100);
    due("41: how many", x.risk(-1), 3);
    x.use(0, 50);
    due("41: just enough", x.risk(-1), 2);
    due("41: risk(0)", x.risk(0), 1);
    due("41: risk(1)", x.risk(1), 2);
    due("41: risk(2)", x.risk(2), -2);
    due("41: risk(-2)", x.risk(-2), -1);
    x.use(1, 5);
    due("41: not yet", x.risk(0), 1);
    x.use(1, 1);
    due("41: enough", x.risk(0), 2);
    x.giveBack(2);
    due("41: ended", x.risk(-1), 0);
    x.set(3, 51);
    due("41: surety as it is now", x.risk(-1), 1);
  }

  private static void lacks() {
    QuotaLicences x = Check.of(S);
    due("42: all", x.lacks(0, 0, 10), 10);
    x.apply(1, 0, 100);
    x.apply(1, 0, 20);
    x.apply(1, 1, 50);
    x.use(0, 30);
    due("42: some", x.lacks(1, 0, 100), 10);
    due("42: nothing", x.lacks(1, 0, 90), 0);
    due("42: more than enough", x.lacks(1, 0, 1), 0);
    x.giveBack(1);
    due("42: given back", x.lacks(1, 0, 100), 30);
    due("42: the other origin", x.lacks(1, 1, 99999), 99949);
    due("42: n 0", x.lacks(1, 0, 0), -1);
    due("42: n 100000", x.lacks(1, 0, 100000), -1);
    due("42: no importer", x.lacks(4, 0, 1), -1);
    due("42: no origin", x.lacks(0, 2, 1), -1);
  }

  private static void pace() {
    QuotaLicences x = Check.of(S);
    due("43: nothing", x.pace(0), 0);
    due("43: no importer", x.pace(4), -1);
    due("43: no importer", x.pace(-1), -1);
    x.apply(1, 0, 100);
    x.apply(1, 1, 100);
    x.use(0, 70);
    due("43: one day", x.pace(1), Float.floatToIntBits(70.0f));
    x.excess(1, 0, 9, 1);
    x.use(1, 1);
    pass(x, 2);
    due("43: three days", x.pace(1), Float.floatToIntBits(71.0f / 3.0f));
    pass(x, 357);
    due("43: 360 days", x.pace(1), Float.floatToIntBits(71.0f / 360.0f));
    pass(x, 1);
    due("43: a new year", x.pace(1), 0);
    QuotaLicences y = Check.of("scheme 0 99999 90 0 0 1;origin 1;importer");
    y.apply(0, 0, 1);
    y.use(0, 1);
    pass(y, 359);
    due("43: one in a year", y.pace(0), Float.floatToIntBits(1.0f / 360.0f));
  }

  private static void peak() {
    QuotaLicences x = Check.of(S);
    due("44: nothing", x.peak(0, 3, 0), 0);
    due("44: nothing", x.peak(0, 3, 1), 0);
    int[] used = {5, 9, 2, 7, 7};
    for (int i = 0; i < 5; i++) {
      x.apply(0, 0, 50);
      x.use(i, used[i]);
      x.excess(0, 0, 90, 1);
      pass(x, 30);
    }
    due("44: one month", x.peak(0, 1, 0), 1);
    due("44: one month", x.peak(0, 1, 1), 9);
    due("44: two months, the first", x.peak(0, 2, 0), 0);
    due("44: two months", x.peak(0, 2, 1), 14);
    due("44: three months", x.peak(0, 3, 0), 1);
    due("44: three months", x.peak(0, 3, 1), 18);
    due("44: a year", x.peak(0, 12, 0), 0);
    due("44: a year", x.peak(0, 12, 1), 30);
    due("44: the other origin", x.peak(1, 1, 1), 0);
    due("44: n 0", x.peak(0, 0, 0), -1);
    due("44: n 13", x.peak(0, 13, 0), -1);
    due("44: no such", x.peak(0, 1, 2), -1);
    due("44: no such", x.peak(0, 1, -1), -1);
    due("44: no origin", x.peak(2, 1, 0), -1);
    pass(x, 209);
    x.apply(0, 0, 50);
    x.use(5, 50);
    due("44: the last month", x.peak(0, 1, 0), 11);
    due("44: the last two", x.peak(0, 2, 0), 10);
    x.set(2, 30);
    x.use(4, 1);
    pass(x, 1);
    due("44: a new year", x.peak(0, 12, 1), 0);
    x.apply(0, 0, 50);
    x.use(6, 3);
    x.use(6, 4);
    due("44: twice in a month", x.peak(0, 1, 1), 7);
    due("20: twice in a year", x.past(0, 0, 3), 7);
  }

  private static void even() {
    QuotaLicences x = Check.of("scheme 60 100 30 50 200 1;origin 100;importer;importer;importer;importer;importer"
        + ";past 1 0 1 0 0");
    x.apply(0, 0, 57);
    due("45: pool", x.origin(0, 3), 0);
    due("45: nothing", x.even(0, 0), 0);
    QuotaLicences y = Check.of("scheme 60 20 30 50 200 1;origin 105;importer;importer;importer;importer;importer"
        + ";past 1 0 1 0 0");
    due("45: pool", y.origin(0, 3), 42);
    due("45: the first", y.even(0, 0), 11);
    due("45: the second", y.even(2, 0), 11);
    due("45: the third", y.even(3, 0), 10);
    due("45: the fourth", y.even(4, 0), 10);
    due("45: a traditional one", y.even(1, 0), -1);
    y.set(1, 10);
    due("45: lot", y.even(0, 0), 10);
    y.set(1, 3);
    due("45: lot", y.even(4, 0), 3);
    due("45: no importer", y.even(5, 0), -1);
    due("45: no importer", y.even(-1, 0), -1);
    due("45: no origin", y.even(0, 1), -1);
    y.set(1, 20);
    y.apply(4, 0, 20);
    due("45: granted ones, too", y.even(4, 0), 5);
    due("45: the second of 22", y.even(2, 0), 6);
    QuotaLicences z = Check.of("scheme 60 20 30 50 200 1;origin 7;importer");
    due("45: one alone", z.even(0, 0), 7);
  }

  private static void future() {
    QuotaLicences x = Check.of(S);
    due("46: alone", x.future(0, 0), 600);
    due("46: one year alone", x.future(1, 0), 0);
    due("46: two years", x.future(1, 1), 300);
    x.excess(1, 0, 50, 1);
    due("46: 600 by 500 of 700", x.future(0, 0), 428);
    due("46: 600 by 200 of 700", x.future(1, 0), 171);
    x.excess(2, 0, 30, 1);
    due("46: 600 by 100 of 800", x.future(2, 0), 75);
    x.widen(0, 500);
    due("46: quota as told", x.future(2, 0), 37);
    x.set(0, 100);
    due("46: part as told", x.future(2, 0), 62);
    x.set(5, 3);
    due("46: need as told", x.future(2, 0), 0);
    due("46: need as told", x.future(0, 0), 0);
    due("46: no importer", x.future(4, 0), -1);
    due("46: no origin", x.future(0, 2), -1);
    x.set(5, 2);
    pass(x, 360);
    due("46: so it is", x.share(2, 0, 0), 62);
    String little = "scheme 100 1 1 0 0 2;origin 12;importer;importer;importer;importer"
        + ";past 0 0 0 1 1;past 1 0 0 0 1;past 2 0 0 1 0;past 3 0 9 9 0";
    QuotaLicences y = Check.of(little);
    for (int i = 1; i < 4; i++) {
      y.excess(i, 0, 1, 1);
    }
    due("46: 12 by 2 of 16", y.future(0, 0), 1);
    due("46: 12 by 2 of 16", y.future(1, 0), 1);
    due("46: 12 by 2 of 16", y.future(2, 0), 1);
    due("46: 12 by 10 of 16", y.future(3, 0), 7);
    QuotaLicences z = Check.of(little);
    z.excess(2, 0, 1, 1);
    due("46: only the oldest year counts of one", z.future(3, 0), 0);
    due("46: 12 by 2 of 4", z.future(2, 0), 6);
  }

  private static void likely() {
    QuotaLicences x = Check.of(S);
    due("47: nothing", x.likely(0), 0);
    due("47: no origin", x.likely(2), -1);
    due("47: no origin", x.likely(-1), -1);
    x.apply(0, 0, 100);
    x.use(0, 33);
    x.giveBack(0);
    x.apply(0, 0, 70);
    x.use(1, 1);
    x.apply(1, 0, 40);
    x.apply(1, 1, 30);
    Check.dueDouble("47: two", x.likely(0), 69.0 * (33.0 / 100.0) + 40.0);
    x.use(3, 7);
    x.giveBack(3);
    x.apply(0, 0, 13);
    Check.dueDouble("47: by numbers", x.likely(0),
        69.0 * (33.0 / 100.0) + 40.0 * (7.0 / 30.0) + 13.0 * (33.0 / 100.0));
    due("47: the other origin", x.likely(1), 0);
    QuotaLicences y = Check.of(S);
    y.apply(0, 0, 9);
    Check.dueDouble("47: the first licence", y.likely(0), 9.0);
    y.apply(0, 0, 5);
    y.giveBack(1);
    due("47: rate 0", y.likely(0), 0);
  }

  private static void root() {
    QuotaLicences x = Check.of(S);
    x.apply(0, 0, 100);
    x.apply(0, 0, 100);
    x.hand(1, 2, 50);
    x.hand(2, 3, 20);
    x.hand(3, 0, 20);
    x.hand(0, 1, 1);
    due("48: itself", x.root(1, 0), 1);
    due("48: itself", x.root(1, 1), 0);
    due("48: one hand", x.root(2, 0), 1);
    due("48: one hand", x.root(2, 1), 1);
    due("48: three hands", x.root(4, 0), 1);
    due("48: three hands", x.root(4, 1), 3);
    due("48: of the first", x.root(5, 0), 0);
    due("48: of the first", x.root(5, 1), 1);
    due("48: no such", x.root(0, 2), -1);
    due("48: no such", x.root(0, -1), -1);
    due("48: no licence", x.root(6, 0), -1);
    due("48: no licence", x.root(-1, 0), -1);
  }

  private static void median() {
    QuotaLicences x = Check.of(S);
    due("49: of two the lesser", x.median(0), 200);
    due("49: of one", x.median(1), 60);
    due("49: no origin", x.median(2), -1);
    due("49: no origin", x.median(-1), -1);
    due("49: there are none", Check.of(B + ";origin 1;importer").median(0), -2);
    QuotaLicences y = Check.of("scheme 1 1 1 1 1 1;origin 1;importer;importer;importer;importer;importer"
        + ";past 0 0 9 0 0;past 1 0 3 1 1;past 2 0 7 0 0;past 4 0 5 0 0");
    due("49: 5 5 7 9", y.median(0), 5);
    QuotaLicences z = Check.of("scheme 1 1 1 1 1 1;origin 1;importer;importer;importer"
        + ";past 0 0 9 0 0;past 1 0 3 1 1;past 2 0 7 0 0");
    due("49: 5 7 9", z.median(0), 7);
    QuotaLicences w = Check.of("scheme 1 1 1 1 1 1;origin 1;importer;importer;importer"
        + ";past 0 0 5 0 0;past 1 0 3 1 4;past 2 0 2 0 0");
    due("49: the first is the middle one", w.median(0), 5);
    QuotaLicences v = Check.of("scheme 1 1 1 1 1 1;origin 1;importer;importer;importer"
        + ";past 0 0 3 0 0;past 1 0 3 1 1;past 2 0 9 0 0");
    due("49: 3 5 9", v.median(0), 5);
  }

  private static void rush() {
    QuotaLicences x = Check.of("scheme 50 40 30 50 200 1;origin 100;importer;importer;importer;importer"
        + ";past 1 0 1 0 0");
    due("50: the first newcomer", x.rush(0, 0, 30), 30);
    due("50: a traditional one", x.rush(1, 0, 30), 30);
    due("50: the second", x.rush(2, 0, 30), 20);
    due("50: the third gets nothing", x.rush(3, 0, 30), 0);
    due("50: above lot", x.rush(0, 0, 41), 0);
    due("50: above lot", x.rush(1, 0, 99), 50);
    due("50: n 0", x.rush(0, 0, 0), -1);
    due("50: n 100000", x.rush(0, 0, 100000), -1);
    due("50: no importer", x.rush(4, 0, 1), -1);
    due("50: no origin", x.rush(0, 1, 1), -1);
    x.apply(0, 0, 1);
    due("50: granted already", x.rush(0, 0, 30), 0);
    due("50: so the second gets more", x.rush(2, 0, 30), 30);
    due("50: and the third the rest", x.rush(3, 0, 30), 19);
    due("50: nothing is granted by it", x.count(2), 1);
    due("50: nothing is granted by it", x.origin(0, 3), 49);
    pass(x, 90);
    due("50: an idle one", x.rush(0, 0, 30), 0);
  }

  private static void stood() {
    QuotaLicences x = Check.of(S);
    x.apply(0, 0, 100);
    pass(x, 2);
    x.apply(1, 0, 20);
    x.apply(1, 1, 7);
    due("51: this day", x.stood(0, 2), -1);
    due("51: day 1", x.stood(0, 1), 100);
    pass(x, 3);
    due("51: day 1", x.stood(0, 1), 100);
    due("51: day 2", x.stood(0, 2), 120);
    due("51: day 2 of the other", x.stood(1, 2), 7);
    due("51: day 0", x.stood(0, 0), 100);
    x.giveBack(1);
    x.use(0, 30);
    pass(x, 1);
    due("51: the day ahead of its end", x.stood(0, 4), 120);
    due("51: ended on it", x.stood(0, 5), 100);
    x.hand(0, 2, 40);
    due("51: handed on", x.stood(0, 3), 120);
    x.giveBack(3);
    due("51: as told now", x.stood(0, 5), 100);
    pass(x, 25);
    due("51: ahead of the last day", x.stood(0, 28), 60);
    due("51: the last day: it lapsed on it", x.stood(0, 29), 0);
    due("51: no day", x.stood(0, -1), -1);
    due("51: no origin", x.stood(2, 0), -1);
  }

  // ---- 52 to 59 ----

  private static void owing() {
    QuotaLicences x = Check.of(S);
    due("52: nothing", x.owing(0), 0);
    due("52: no importer", x.owing(4), -1);
    due("52: no importer", x.owing(-1), -1);
    x.apply(1, 0, 11);
    x.apply(1, 0, 20);
    x.apply(1, 1, 100);
    due("52: 6, 10, 50", x.owing(1), 66);
    x.use(0, 2);
    x.use(1, 19);
    due("52: 4, 0, 50", x.owing(1), 54);
    x.giveBack(2);
    due("52: 4, 0", x.owing(1), 4);
    x.set(3, 100);
    due("52: 9, 1", x.owing(1), 10);
    x.set(3, 0);
    due("52: surety 0", x.owing(1), 0);
    x.set(3, 1);
    due("52: used enough", x.owing(1), 0);
    x.set(1, 400);
    x.set(3, 50);
    x.apply(2, 0, 300);
    x.use(3, 149);
    due("52: one of 300", x.owing(2), 1);
    x.use(3, 1);
    due("52: none of 300", x.owing(2), 0);
    x.set(3, 1);
    x.apply(3, 0, 1);
    due("52: a hundredth of 1", x.owing(3), 1);
    due("41: a hundredth of 1", x.risk(0), 4);
  }

  private static void holds() {
    QuotaLicences x = Check.of(S);
    due("53: how many", x.holds(1, 0), 0);
    due("53: left", x.holds(1, 1), 0);
    due("53: no last day", x.holds(1, 2), -2);
    due("53: no days", x.holds(1, 3), -2);
    due("53: no such", x.holds(1, 4), -1);
    due("53: no such", x.holds(1, -1), -1);
    due("53: no importer", x.holds(4, 0), -1);
    x.apply(1, 0, 50);
    due("53: this day", x.holds(1, 3), 1);
    pass(x, 4);
    x.set(2, 3);
    x.apply(1, 1, 30);
    x.use(0, 5);
    x.apply(0, 0, 9);
    due("53: how many", x.holds(1, 0), 2);
    due("53: left", x.holds(1, 1), 75);
    due("53: earliest", x.holds(1, 2), 6);
    due("53: longest", x.holds(1, 3), 5);
    x.giveBack(0);
    due("53: how many", x.holds(1, 0), 1);
    due("53: left", x.holds(1, 1), 30);
    due("53: longest", x.holds(1, 3), 1);
    x.giveBack(1);
    due("53: none", x.holds(1, 2), -2);
    QuotaLicences y = Check.of(S);
    y.set(2, 1);
    y.apply(0, 0, 9);
    due("53: last day 0", y.holds(0, 2), 0);
    y.set(2, 9);
    y.apply(0, 0, 9);
    due("53: the earliest is day 0", y.holds(0, 2), 0);
  }

  private static void total() {
    QuotaLicences x = Check.of(S);
    for (int year = 0; year < 2; year++) {
      x.apply(0, 0, 100);
      x.apply(0, 0, 50);
      x.use(2 * year, 30);
      x.giveBack(2 * year);
      x.excess(3, 1, 9, 1);
      pass(x, 360);
    }
    int[] want = {300, 60, 140, 100, 18};
    for (int what = 0; what < 5; what++) {
      due("54: total(" + what + ")", x.total(what), want[what]);
    }
    due("54: no such", x.total(5), -1);
    due("54: no such", x.total(-1), -1);
    due("54: without a scheme", new QuotaLicences().total(0), -1);
  }

  private static void row() {
    QuotaLicences x = new QuotaLicences();
    due("55: no sort", x.row(4, 1), -1);
    due("55: no sort", x.row(-1, 1), -1);
    due("55: 41", x.row(0, 41), -1);
    due("55: -1", x.row(0, -1), -1);
    due("55: none yet", x.note(0, 0, 1), -2);
    due("55: row(1, 40)", x.row(1, 40), 40);
    due("55: places", x.count(8), 40);
    x.note(39, 1, 7);
    due("55: refused", x.row(9, 3), -1);
    due("55: all stays", x.noted(39), 7);
    due("55: row(1, 40)", x.row(1, 40), 40);
    due("55: all 0", x.noted(39), 0);
    due("55: row(3, 0)", x.row(3, 0), 0);
    due("55: places", x.count(8), 0);
    due("55: no place", x.note(0, 3, 1), -3);
  }

  private static void note() {
    QuotaLicences x = new QuotaLicences();
    due("56: no sort ahead of no notes", x.note(0, 4, 1), -1);
    due("56: no notes", x.note(-1, 0, 1), -2);
    x.row(0, 3);
    due("56: no sort ahead of no place", x.note(3, -1, 1), -1);
    due("56: no place ahead of another sort", x.note(3, 1, 1), -3);
    due("56: no place", x.note(-1, 0, 1), -3);
    due("56: another sort ahead of none such", x.note(0, 3, 1L << 40), -4);
    due("56: ints", x.note(2, 0, Integer.MAX_VALUE), 2);
    due("56: ints", x.note(1, 0, Integer.MIN_VALUE), 1);
    due("56: no int", x.note(2, 0, 2147483648L), -5);
    due("56: no int", x.note(2, 0, -2147483649L), -5);
    due("56: it stays", x.noted(2), Integer.MAX_VALUE);
    x.row(3, 1);
    due("56: shorts", x.note(0, 3, 32767), 0);
    due("56: shorts", x.note(0, 3, -32768), 0);
    due("56: no short", x.note(0, 3, 32768), -5);
    due("56: no short", x.note(0, 3, -32769), -5);
    due("56: no short", x.note(0, 3, 1L << 32), -5);
    due("56: it stays", x.noted(0), -32768);
    x.row(1, 1);
    due("56: longs", x.note(0, 1, Long.MIN_VALUE), 0);
    due("56: longs", x.noted(0), Long.MIN_VALUE);
    x.row(2, 1);
    due("56: doubles", x.note(0, 2, Long.MIN_VALUE), 0);
    due("56: doubles", x.note(0, 1, 0), -4);
  }

  private static void noted() {
    QuotaLicences x = new QuotaLicences();
    x.row(2, 2);
    due("57: 0", x.noted(1), 0);
    due("57: no place", x.noted(2), -9000000000L);
    due("57: no place", x.noted(-1), -9000000000L);
    double[] some = {1.5, -0.0, Double.POSITIVE_INFINITY, Double.NEGATIVE_INFINITY, Double.MIN_VALUE, -Double.MAX_VALUE};
    for (double d : some) {
      x.note(0, 2, Double.doubleToLongBits(d));
      Check.dueDouble("57: " + d, x.noted(0), d);
    }
    long[] none = {0x7ff0000000000001L, 0x7ff8000000000000L, 0xfff0000000000001L, -1L, Long.MAX_VALUE};
    for (long bits : none) {
      x.note(0, 2, bits);
      due("57: no number", x.noted(0), 9221120237041090560L);
    }
    x.row(1, 1);
    x.note(0, 1, -1L);
    due("57: a long is no double", x.noted(0), -1);
    x.note(0, 1, Long.MAX_VALUE);
    due("57: a long is no double", x.noted(0), Long.MAX_VALUE);
  }

  private static void letter() {
    QuotaLicences x = Check.of(S);
    Check.dueText("58: letters", Check.letters(x), S);
    due("58: how many", x.letter(-1), S.length());
    due("58: behind the last", x.letter(S.length()), -2);
    due("58: far", x.letter(Integer.MAX_VALUE), -2);
    due("58: letter(-2)", x.letter(-2), -1);
    due("58: without a scheme", new QuotaLicences().letter(0), -2);
    due("58: without a scheme", new QuotaLicences().letter(-2), -1);
    x.set(0, 0);
    x.set(1, 12345);
    x.widen(1, 0);
    x.excess(3, 1, 10, 1);
    x.excess(3, 0, 99999, 1);
    x.excess(3, 0, 1, 1);
    pass(x, 360);
    Check.dueText("58: as it is told now", Check.letters(x), "scheme 0 12345 30 50 200 2;origin 1000;origin 0"
        + ";importer;importer;importer;importer;past 0 0 200 300 0;past 1 0 0 150 0;past 1 1 20 30 0"
        + ";past 2 0 0 70 0;past 3 0 0 0 100000;past 3 1 0 0 10");
  }

  private static void count() {
    QuotaLicences x = Check.of(S);
    x.apply(0, 0, 10);
    x.apply(0, 0, 10);
    x.apply(0, 0, 10);
    x.giveBack(1);
    pass(x, 3);
    x.keep(1);
    x.row(0, 7);
    x.feed(1, 2, 3, 4, 5);
    x.end(13);
    int[] want = {2, 4, 3, 2, 3, 5, 13, 2, 7};
    for (int what = 0; what < 9; what++) {
      due("59: count(" + what + ")", x.count(what), want[what]);
    }
    due("59: no such", x.count(9), -1);
    due("59: no such", x.count(-1), -1);
  }
}

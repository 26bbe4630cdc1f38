import java.util.ArrayList;
import java.util.List;

/**
 * Each number that a call of the face takes, at both sides of its bounds: the last that is taken, the first that
 * is refused. What is refused here is refused with NONE, and nothing happens by it; the refusals below NONE, and
 * calls that refuse otherwise (feed, end, next, risk, note, noted, letter), are in the other tests of edges.
 */
public final class RangesTest {
  private static final int NOTHING = 0;
  private static final int SCHEME = 1;
  private static final int IMPORTERS = 2;

  private interface Call {
    long on(QuotaLicences x, int[] with);
  }

  /** A call with the bounds of its numbers, and what it cannot be answered without. */
  private record Face(String name, int needs, Call call, int[]... bounds) {
    int[] least() {
      int[] with = new int[bounds.length];
      for (int i = 0; i < with.length; i++) {
        with[i] = bounds[i][0];
      }
      return with;
    }

    int[] most() {
      int[] with = new int[bounds.length];
      for (int i = 0; i < with.length; i++) {
        with[i] = bounds[i][1];
      }
      return with;
    }

    String told(int[] with) {
      return name + java.util.Arrays.toString(with);
    }
  }

  private final int origins;
  private final int importers;
  private final List<Face> faces = new ArrayList<>();

  private RangesTest(int origins, int importers) {
    this.origins = origins;
    this.importers = importers;
    addActs();
    addAsked();
    addPlanned();
    addUsed();
    addLast();
  }

  public static void main(String[] args) {
    int[][] sizes = {{1, 3}, {2, 3}, {3, 7}, {4, 8}};
    for (int[] size : sizes) {
      RangesTest test = new RangesTest(size[0], size[1]);
      test.taken();
      test.refused(size[0] == 2);
      test.withoutScheme();
      test.withoutImporters();
    }
    unlikeOnes();
    Check.close("RangesTest");
  }

  /** All are newcomers, there is enough for all; day 185, two periods are over, three licences. */
  private QuotaLicences make() {
    QuotaLicences x = Check.of("scheme 0 99999 90 0 100 1" + ";origin 1000".repeat(origins)
        + ";importer".repeat(importers));
    x.days(90);
    x.days(90);
    x.days(5);
    for (int i = 0; i < 3; i++) {
      Check.due("5: apply(" + i + ", 0, 10)", x.apply(i, 0, 10), i);
    }
    x.row(1, 2);
    x.note(1, 1, 77);
    return x;
  }

  // ---- the calls ----

  private static int[] to(int least, int most) {
    return new int[] {least, most};
  }

  private void add(String name, int needs, Call call, int[]... bounds) {
    faces.add(new Face(name, needs, call, bounds));
  }

  /** Licence i is importer i's: where two must be unlike, the other one is 1. */
  private void addActs() {
    int[] importer = to(0, importers - 1);
    int[] origin = to(0, origins - 1);
    int[] licence = to(0, 2);
    int[] n = to(1, 99999);
    add("5: apply", IMPORTERS, (x, a) -> x.apply(a[0], a[1], a[2]), importer, origin, n);
    add("6: use", IMPORTERS, (x, a) -> x.use(a[0], a[1]), licence, n);
    add("7: giveBack", IMPORTERS, (x, a) -> x.giveBack(a[0]), licence);
    add("8: hand to 1", IMPORTERS, (x, a) -> x.hand(a[0], 1, a[1]), licence, n);
    add("8: hand of 1", IMPORTERS, (x, a) -> x.hand(1, a[0], a[1]), importer, n);
    add("9: merge with 1", IMPORTERS, (x, a) -> x.merge(a[0], 1), licence);
    add("9: merge into 1", IMPORTERS, (x, a) -> x.merge(1, a[0]), licence);
    add("10: lend to 1", IMPORTERS, (x, a) -> x.lend(a[0], 1, a[1], a[2]), importer, origin, n);
    add("10: lend of 1", IMPORTERS, (x, a) -> x.lend(1, a[0], a[1], a[2]), importer, origin, n);
    add("11: excess", IMPORTERS, (x, a) -> x.excess(a[0], a[1], a[2], a[3]), importer, origin, n, to(1, 9999));
    add("12: days", SCHEME, (x, a) -> x.days(a[0]), to(1, 90));
    add("13: widen", SCHEME, (x, a) -> x.widen(a[0], a[1]), origin, to(0, 99999));
    add("14: set what", SCHEME, (x, a) -> x.set(a[0], 1), to(0, 5));
    add("14: set PART", SCHEME, (x, a) -> x.set(0, a[0]), to(0, 100));
    add("14: set LOT", SCHEME, (x, a) -> x.set(1, a[0]), to(1, 99999));
    add("14: set VALID", SCHEME, (x, a) -> x.set(2, a[0]), to(1, 90));
    add("14: set SURETY", SCHEME, (x, a) -> x.set(3, a[0]), to(0, 100));
    add("14: set DUTY", SCHEME, (x, a) -> x.set(4, a[0]), to(0, 2000));
    add("14: set NEED", SCHEME, (x, a) -> x.set(5, a[0]), to(1, 3));
    add("16: keep", NOTHING, (x, a) -> x.keep(a[0]), to(0, 1));
    add("17: back", NOTHING, (x, a) -> x.back(a[0]), to(0, 1));
  }

  private void addAsked() {
    int[] importer = to(0, importers - 1);
    int[] origin = to(0, origins - 1);
    add("18: told", SCHEME, (x, a) -> x.told(a[0]), to(0, 5));
    add("19: origin", SCHEME, (x, a) -> x.origin(a[0], a[1]), origin, to(0, 7));
    add("20: past", IMPORTERS, (x, a) -> x.past(a[0], a[1], a[2]), importer, origin, to(0, 3));
    add("21: sort", IMPORTERS, (x, a) -> x.sort(a[0], a[1]), importer, origin);
    add("22: mean", IMPORTERS, (x, a) -> x.mean(a[0], a[1]), importer, origin);
    add("23: share", IMPORTERS, (x, a) -> x.share(a[0], a[1], a[2]), importer, origin, to(0, 1));
    add("24: licence", IMPORTERS, (x, a) -> x.licence(a[0], a[1]), to(0, 2), to(0, 7));
    add("25: month", IMPORTERS, (x, a) -> x.month(a[0], a[1]), importer, to(0, 11));
    add("26: rate", IMPORTERS, (x, a) -> x.rate(a[0]), importer);
    add("27: idle", IMPORTERS, (x, a) -> x.idle(a[0], a[1]), importer, origin);
    add("28: owed", IMPORTERS, (x, a) -> x.owed(a[0]), importer);
  }

  private void addPlanned() {
    int[] importer = to(0, importers - 1);
    int[] origin = to(0, origins - 1);
    int[] n = to(1, 99999);
    add("29: would", IMPORTERS, (x, a) -> x.would(a[0], a[1], a[2]), importer, origin, n);
    add("30: lapses", SCHEME, (x, a) -> x.lapses(a[0]), to(1, 90));
    add("32: best", IMPORTERS, (x, a) -> x.best(a[0], a[1], a[2]), importer, n, to(0, 1));
    add("33: order", IMPORTERS, (x, a) -> x.order(a[0]), importer);
    add("34: focus", SCHEME, (x, a) -> x.focus(a[0]), origin);
    add("35: carry", SCHEME, (x, a) -> x.carry(a[0]), origin);
    add("36: window", SCHEME, (x, a) -> x.window());
    add("37: shareAt", IMPORTERS, (x, a) -> x.shareAt(a[0], a[1], a[2]), importer, origin, to(0, 100));
  }

  private void addUsed() {
    int[] importer = to(0, importers - 1);
    int[] origin = to(0, origins - 1);
    int[] n = to(1, 99999);
    add("38: speed", IMPORTERS, (x, a) -> x.speed(a[0]), to(0, 2));
    add("39: fastest", SCHEME, (x, a) -> x.fastest(a[0]), origin);
    add("40: log", SCHEME, (x, a) -> x.log(a[0], a[1], a[2]), to(0, 1), origin, to(0, 4));
    add("42: lacks", IMPORTERS, (x, a) -> x.lacks(a[0], a[1], a[2]), importer, origin, n);
    add("43: pace", IMPORTERS, (x, a) -> x.pace(a[0]), importer);
    add("44: peak", SCHEME, (x, a) -> x.peak(a[0], a[1], a[2]), origin, to(1, 12), to(0, 1));
    add("45: even", IMPORTERS, (x, a) -> x.even(a[0], a[1]), importer, origin);
    add("46: future", IMPORTERS, (x, a) -> x.future(a[0], a[1]), importer, origin);
    add("47: likely", SCHEME, (x, a) -> x.likely(a[0]), origin);
    add("48: root", IMPORTERS, (x, a) -> x.root(a[0], a[1]), to(0, 2), to(0, 1));
    add("49: median", SCHEME, (x, a) -> x.median(a[0]), origin);
    add("50: rush", IMPORTERS, (x, a) -> x.rush(a[0], a[1], a[2]), importer, origin, n);
    add("51: stood", SCHEME, (x, a) -> x.stood(a[0], a[1]), origin, to(0, 184));
  }

  private void addLast() {
    int[] importer = to(0, importers - 1);
    add("52: owing", IMPORTERS, (x, a) -> x.owing(a[0]), importer);
    add("53: holds", IMPORTERS, (x, a) -> x.holds(a[0], a[1]), importer, to(0, 3));
    add("54: total", SCHEME, (x, a) -> x.total(a[0]), to(0, 4));
    add("55: row", NOTHING, (x, a) -> x.row(a[0], a[1]), to(0, 3), to(0, 40));
    add("59: count", NOTHING, (x, a) -> x.count(a[0]), to(0, 8));
  }

  // ---- both sides of the bounds ----

  private void taken() {
    for (Face face : faces) {
      isTaken(face, face.least());
      isTaken(face, face.most());
      for (int i = 0; i < face.bounds.length; i++) {
        int[] with = face.least();
        with[i] = face.bounds[i][1];
        isTaken(face, with);
      }
    }
  }

  private void isTaken(Face face, int[] with) {
    Check.isTrue(face.told(with) + " is taken", face.call.on(make(), with) != -1);
  }

  private void refused(boolean withLooks) {
    String look = Look.ofAll(make());
    for (Face face : faces) {
      for (int i = 0; i < face.bounds.length; i++) {
        int least = face.bounds[i][0];
        int most = face.bounds[i][1];
        int[] outside = {least - 1, -1, most + 1, Integer.MIN_VALUE, Integer.MAX_VALUE};
        for (int value : outside) {
          isRefused(face, face.least(), i, value, withLooks ? look : null);
          isRefused(face, face.most(), i, value, null);
        }
      }
    }
  }

  private void isRefused(Face face, int[] with, int i, int value, String look) {
    with[i] = value;
    QuotaLicences x = make();
    Check.due(face.told(with) + " is refused", face.call.on(x, with), -1);
    if (look != null) {
      Check.dueText(face.told(with) + ": nothing happens", Look.ofAll(x), look);
    }
  }

  private void withoutScheme() {
    for (Face face : faces) {
      boolean refused = face.call.on(new QuotaLicences(), face.least()) == -1;
      Check.isTrue(face.told(face.least()) + " without a scheme", refused == (face.needs != NOTHING));
    }
  }

  private void withoutImporters() {
    for (Face face : faces) {
      QuotaLicences x = Check.of("scheme 0 1 1 0 100 1;origin 0");
      x.days(1);
      x.days(89);
      boolean refused = face.call.on(x, face.least()) == -1;
      Check.isTrue(face.told(face.least()) + " without importers", refused == (face.needs == IMPORTERS));
    }
  }

  /** Where another one is asked for, the same one is refused, and the next one on either side is taken. */
  private static void unlikeOnes() {
    for (int i = 0; i < 4; i++) {
      RangesTest test = new RangesTest(1, 4);
      String look = Look.ofAll(test.make());
      QuotaLicences x = test.make();
      Check.isTrue("8: hand(1, " + i + ", 1)", x.hand(1, i, 1) == -1 == (i == 1));
      Check.isTrue("8: nothing happens", Look.ofAll(x).equals(look) == (i == 1));
      QuotaLicences y = test.make();
      Check.isTrue("10: lend(1, " + i + ", 0, 1)", y.lend(1, i, 0, 1) == -1 == (i == 1));
      Check.dueText("10: nothing happens", Look.ofAll(y), look);
      QuotaLicences z = test.make();
      Check.isTrue("9: merge(1, " + i + ")", z.merge(1, i) == -1 == (i == 1 || i == 3));
      Check.dueText("9: nothing happens", Look.ofAll(z), look);
    }
  }
}

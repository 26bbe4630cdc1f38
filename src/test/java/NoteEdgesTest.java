/** The edges of notes and of counts: promises 55 to 57 and 59. */
public final class NoteEdgesTest {
  private static final long NO_PLACE = -9000000000L;
  private static final long NO_NUMBER = 9221120237041090560L;
  private static final int INTS = 0;
  private static final int LONGS = 1;
  private static final int DOUBLES = 2;
  private static final int SHORTS = 3;

  private NoteEdgesTest() {
  }

  public static void main(String[] args) {
    rows();
    rowsRefused();
    rowsAnew();
    emptyRow();
    places();
    order();
    ints();
    shorts();
    longs();
    doubles();
    noNumbers();
    sorts();
    aside();
    counts();
    Check.close("NoteEdgesTest");
  }

  private static void due(String call, long got, long want) {
    Check.due(call, got, want);
  }

  private static void rows() {
    for (int sort = 0; sort <= 3; sort++) {
      for (int n = 0; n <= 40; n++) {
        QuotaLicences x = new QuotaLicences();
        due("55: row(" + sort + ", " + n + ")", x.row(sort, n), n);
        due("59: places", x.count(8), n);
        for (int k = 0; k < n; k++) {
          due("55: all 0", x.noted(k), 0);
        }
        due("57: behind the last", x.noted(n), NO_PLACE);
      }
    }
  }

  private static void rowsRefused() {
    int[][] wrong = {{-1, 3}, {4, 3}, {0, -1}, {0, 41}, {4, 41}, {-1, -1}, {Integer.MIN_VALUE, 3}, {Integer.MAX_VALUE, 3},
      {0, Integer.MIN_VALUE}, {0, Integer.MAX_VALUE}};
    for (int[] one : wrong) {
      QuotaLicences none = new QuotaLicences();
      due("55: refused", none.row(one[0], one[1]), -1);
      due("55: no notes by it", none.note(0, INTS, 1), -2);
      QuotaLicences x = new QuotaLicences();
      x.row(SHORTS, 5);
      x.note(4, SHORTS, 9);
      due("55: refused", x.row(one[0], one[1]), -1);
      due("55: all stays: places", x.count(8), 5);
      due("55: all stays: what is noted", x.noted(4), 9);
      due("55: all stays: the sort", x.note(4, INTS, 1), -4);
      due("55: all stays: the sort", x.note(4, SHORTS, 1), 4);
    }
  }

  /** A new row is all 0, whatever was there and however long it was. */
  private static void rowsAnew() {
    QuotaLicences x = new QuotaLicences();
    x.row(LONGS, 40);
    for (int k = 0; k < 40; k++) {
      due("56: note()", x.note(k, LONGS, -1 - k), k);
    }
    for (int k = 0; k < 40; k++) {
      due("57: noted()", x.noted(k), -1 - k);
    }
    due("55: a shorter one", x.row(INTS, 2), 2);
    due("57: all 0", x.noted(1), 0);
    due("57: no third", x.noted(2), NO_PLACE);
    due("56: no third", x.note(2, INTS, 1), -3);
    due("55: a longer one", x.row(DOUBLES, 40), 40);
    for (int k = 0; k < 40; k++) {
      due("57: all 0", x.noted(k), 0);
    }
    due("55: the same again", x.row(DOUBLES, 40), 40);
    x.note(39, DOUBLES, 5);
    due("55: the same again", x.row(DOUBLES, 40), 40);
    due("57: all 0", x.noted(39), 0);
  }

  private static void emptyRow() {
    QuotaLicences x = new QuotaLicences();
    due("56: no notes", x.note(0, INTS, 1), -2);
    due("55: a row of none", x.row(INTS, 0), 0);
    due("56: notes, but no place", x.note(0, INTS, 1), -3);
    due("56: notes, but no place", x.note(-1, INTS, 1), -3);
    due("57: no place", x.noted(0), NO_PLACE);
    due("59: no place", x.count(8), 0);
  }

  private static void places() {
    QuotaLicences x = new QuotaLicences();
    due("57: without notes", x.noted(0), NO_PLACE);
    due("57: without notes", x.noted(-1), NO_PLACE);
    int[] lengths = {1, 2, 39, 40};
    for (int n : lengths) {
      x.row(INTS, n);
      due("56: the first", x.note(0, INTS, 11), 0);
      due("56: the last", x.note(n - 1, INTS, 12), n - 1);
      due("56: behind the last", x.note(n, INTS, 13), -3);
      due("56: below the first", x.note(-1, INTS, 13), -3);
      due("56: far", x.note(Integer.MAX_VALUE, INTS, 13), -3);
      due("56: far", x.note(Integer.MIN_VALUE, INTS, 13), -3);
      due("57: the first", x.noted(0), n == 1 ? 12 : 11);
      due("57: the last", x.noted(n - 1), 12);
      due("57: behind the last", x.noted(n), NO_PLACE);
      due("57: below the first", x.noted(-1), NO_PLACE);
      due("57: far", x.noted(Integer.MAX_VALUE), NO_PLACE);
      due("57: far", x.noted(Integer.MIN_VALUE), NO_PLACE);
    }
  }

  /** NONE ahead of -2, and so on. */
  private static void order() {
    QuotaLicences x = new QuotaLicences();
    due("56: no such sort ahead of no notes", x.note(0, 4, 1), -1);
    due("56: no such sort ahead of no notes", x.note(0, -1, 1), -1);
    due("56: no notes ahead of no such place", x.note(-1, SHORTS, 1L << 40), -2);
    x.row(SHORTS, 1);
    due("56: no such sort ahead of no such place", x.note(1, 4, 1L << 40), -1);
    due("56: no such sort ahead of no such place", x.note(1, -1, 1L << 40), -1);
    due("56: no such place ahead of another sort", x.note(1, INTS, 1L << 40), -3);
    due("56: no such place ahead of none such", x.note(1, SHORTS, 1L << 40), -3);
    due("56: another sort ahead of none such", x.note(0, INTS, 1L << 40), -4);
    due("56: none such", x.note(0, SHORTS, 1L << 40), -5);
    due("57: nothing is noted", x.noted(0), 0);
  }

  private static void taken(QuotaLicences x, int sort, long v) {
    due("56: note(0, " + sort + ", " + v + ")", x.note(0, sort, v), 0);
    due("57: " + v, x.noted(0), v);
  }

  private static void noneSuch(QuotaLicences x, int sort, long v) {
    long was = x.noted(0);
    due("56: note(0, " + sort + ", " + v + ")", x.note(0, sort, v), -5);
    due("57: it stays", x.noted(0), was);
  }

  private static void ints() {
    QuotaLicences x = new QuotaLicences();
    x.row(INTS, 1);
    taken(x, INTS, 2147483647L);
    noneSuch(x, INTS, 2147483648L);
    taken(x, INTS, -2147483648L);
    noneSuch(x, INTS, -2147483649L);
    noneSuch(x, INTS, 4294967296L);
    noneSuch(x, INTS, 4294967295L);
    noneSuch(x, INTS, Long.MAX_VALUE);
    noneSuch(x, INTS, Long.MIN_VALUE);
    taken(x, INTS, 0);
    taken(x, INTS, -1);
  }

  private static void shorts() {
    QuotaLicences x = new QuotaLicences();
    x.row(SHORTS, 1);
    taken(x, SHORTS, 32767);
    noneSuch(x, SHORTS, 32768);
    taken(x, SHORTS, -32768);
    noneSuch(x, SHORTS, -32769);
    noneSuch(x, SHORTS, 65535);
    noneSuch(x, SHORTS, 65536);
    noneSuch(x, SHORTS, 4294967296L);
    noneSuch(x, SHORTS, Long.MAX_VALUE);
    noneSuch(x, SHORTS, Long.MIN_VALUE);
    taken(x, SHORTS, 0);
    taken(x, SHORTS, -1);
  }

  private static void longs() {
    QuotaLicences x = new QuotaLicences();
    x.row(LONGS, 1);
    long[] some = {Long.MAX_VALUE, Long.MIN_VALUE, 0, -1, 2147483648L, NO_NUMBER, NO_NUMBER + 1, NO_PLACE};
    for (long v : some) {
      taken(x, LONGS, v);
    }
  }

  private static void doubles() {
    QuotaLicences x = new QuotaLicences();
    x.row(DOUBLES, 1);
    double[] some = {0.0, -0.0, 1.0, -1.5, Double.MIN_VALUE, -Double.MIN_VALUE, Double.MIN_NORMAL, Double.MAX_VALUE,
      -Double.MAX_VALUE, Double.POSITIVE_INFINITY, Double.NEGATIVE_INFINITY, 1.0 / 3.0};
    for (double v : some) {
      taken(x, DOUBLES, Double.doubleToRawLongBits(v));
    }
    taken(x, DOUBLES, 0x7fefffffffffffffL);
    taken(x, DOUBLES, 0x7ff0000000000000L);
    taken(x, DOUBLES, 0xffefffffffffffffL);
    taken(x, DOUBLES, 0xfff0000000000000L);
  }

  /** The bits behind those of either infinity are no number, up to the last. */
  private static void noNumbers() {
    QuotaLicences x = new QuotaLicences();
    x.row(DOUBLES, 1);
    long[] none = {0x7ff0000000000001L, 0x7ff7ffffffffffffL, 0x7ff8000000000000L, 0x7ff8000000000001L, Long.MAX_VALUE,
      0xfff0000000000001L, 0xfff8000000000000L, -1L};
    for (long bits : none) {
      due("56: one that is no number", x.note(0, DOUBLES, bits), 0);
      due("57: one that is no number", x.noted(0), NO_NUMBER);
    }
  }

  private static void sorts() {
    for (int row = 0; row <= 3; row++) {
      QuotaLicences x = new QuotaLicences();
      x.row(row, 2);
      for (int sort = -1; sort <= 4; sort++) {
        boolean none = sort < 0 || sort > 3;
        due("56: sort " + sort + " in a row of " + row, x.note(1, sort, 7), none ? -1 : sort == row ? 1 : -4);
        due("57: what is noted", x.noted(1), sort < row ? 0 : 7);
      }
      due("56: far", x.note(1, Integer.MAX_VALUE, 7), -1);
      due("56: far", x.note(1, Integer.MIN_VALUE, 7), -1);
    }
  }

  /** Notes are no part of a scheme: neither acts nor shelves touch them. */
  private static void aside() {
    QuotaLicences x = new QuotaLicences();
    x.row(LONGS, 3);
    x.note(1, LONGS, 5);
    x.keep(0);
    Check.tell(x, "scheme 0 1 1 0 0 1;origin 1;importer");
    x.excess(0, 0, 1, 1);
    x.note(1, LONGS, 6);
    x.row(LONGS, 3);
    x.note(2, LONGS, 7);
    due("55: no acts", x.count(5), 1);
    x.undo();
    due("57: undone", x.noted(2), 7);
    x.back(0);
    due("57: brought back", x.noted(2), 7);
    due("57: brought back", x.noted(1), 0);
    due("59: brought back", x.count(8), 3);
  }

  private static void counts() {
    QuotaLicences x = new QuotaLicences();
    due("59: below", x.count(-1), -1);
    due("59: above", x.count(9), -1);
    due("59: far", x.count(Integer.MAX_VALUE), -1);
    due("59: far", x.count(Integer.MIN_VALUE), -1);
    Check.tell(x, "scheme 0 9 90 0 0 1" + ";origin 10".repeat(4) + ";importer".repeat(8));
    due("59: origins", x.count(0), 4);
    due("59: importers", x.count(1), 8);
    due("59: no licences", x.count(2), 0);
    x.apply(0, 0, 2);
    x.apply(1, 0, 2);
    x.apply(2, 0, 2);
    x.apply(3, 0, 2);
    due("59: licences", x.count(2), 4);
    due("59: open ones", x.count(3), 4);
    x.use(0, 2);
    due("59: used up", x.count(3), 3);
    x.giveBack(1);
    due("59: given back", x.count(3), 2);
    x.hand(2, 7, 2);
    due("59: handed on", x.count(3), 2);
    due("59: handed on", x.count(2), 5);
    due("59: acts", x.count(5), 7);
    x.days(89);
    due("59: day 89", x.count(4), 89);
    due("59: day 89", x.count(3), 2);
    x.days(1);
    due("59: lapsed", x.count(3), 0);
    due("59: licences", x.count(2), 5);
    due("59: day 90", x.count(4), 90);
    x.days(1);
    due("59: ten acts", x.count(5), 10);
    x.days(1);
    due("59: ten acts at the most", x.count(5), 10);
    x.undo();
    due("59: nine", x.count(5), 9);
  }
}

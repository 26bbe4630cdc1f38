/** The edges of the tape and of the text of a scheme: promises 1 to 4 and 58, and the terms of a text's faults. */
public final class TextEdgesTest {
  /** 54 bytes; the words begin at 0, 21, 31, 40. */
  private static final String T = "scheme 60 5 90 0 0 1;origin 12;importer;past 0 0 1 2 3";
  /** 20 bytes, no origin yet. */
  private static final String B = "scheme 60 5 90 0 0 1";
  private static final int MISPLACED = 1;
  private static final int BAD_NUMBER = 2;
  private static final int TOO_MANY = 3;
  private static final int NO_ORIGIN = 4;

  private TextEdgesTest() {
  }

  public static void main(String[] args) {
    newObject();
    feedFull();
    feedBytes();
    endEdges();
    endKeepsNothingMore();
    textEnds();
    wrongBytes();
    wrongSemicolons();
    words();
    blanks();
    separators();
    terms();
    numbersOfPieces();
    longNumbers();
    toldAhead();
    tooMany();
    noOrigin();
    firstPlace();
    fullText();
    lastPastCounts();
    tellEmptiesTheTape();
    tellRefused();
    tellAnew();
    tellForgets();
    letterEdges();
    letterPasts();
    letterNumbers();
    letterAsTold();
    letterTellsTheSame();
    Check.close("TextEdgesTest");
  }

  private static void due(String call, long got, long want) {
    Check.due(call, got, want);
  }

  private static void fault(String text, int place, int kind) {
    QuotaLicences x = new QuotaLicences();
    due("4: tell() of '" + text + "'", Check.tell(x, text), -2 - (8 * place + kind));
    due("4: no scheme by '" + text + "'", x.count(0), 0);
    due("4: no terms by '" + text + "'", x.told(0), -1);
    due("4: the tape is empty behind '" + text + "'", x.count(6), 0);
  }

  private static QuotaLicences fits(String text, int origins) {
    QuotaLicences x = new QuotaLicences();
    due("4: tell() of '" + text + "'", Check.tell(x, text), origins);
    due("4: origins of '" + text + "'", x.count(0), origins);
    due("4: the tape is empty behind '" + text + "'", x.count(6), 0);
    return x;
  }

  // ---- 1 to 3: the tape ----

  private static void newObject() {
    QuotaLicences x = new QuotaLicences();
    for (int what = 0; what <= 8; what++) {
      due("1: count(" + what + ") of a new object", x.count(what), 0);
    }
    due("1: no scheme to be told", x.told(0), -1);
    due("1: no text", x.letter(-1), 0);
    due("1: no notes", x.note(0, 0, 0), -2);
    due("1: no place", x.noted(0), -9000000000L);
    due("1: nothing to undo", x.undo(), -1);
    due("1: nothing kept", x.back(0), -2);
    due("1: nothing kept", x.back(1), -2);
    due("1: no licence", x.next(-1), 0);
    due("1: no licence", x.next(0), -2);
    due("1: no licence at risk", x.risk(-1), 0);
    due("1: no licence at risk", x.risk(0), -2);
    due("1: an empty tape", x.tell(), -3);
    due("1: a shelf keeps that there is nothing", x.keep(0), 0);
    due("1: and gives it back", x.back(0), 0);
    due("1: so it is kept", x.count(7), 1);
  }

  /** Twenty bytes at a time, for as long as there are at most 400. */
  private static void feedFull() {
    QuotaLicences x = new QuotaLicences();
    for (int i = 1; i <= 20; i++) {
      due("2: feed() " + i, x.feed(0, 0, 0, 0, 0), 20 * i);
    }
    due("2: 420 are too many", x.feed(0, 0, 0, 0, 0), -1);
    due("2: none comes", x.count(6), 400);
    for (int n = 399; n >= 381; n--) {
      due("3: end(" + n + ")", x.end(n), n);
      due("2: feed() behind " + n, x.feed(0, 0, 0, 0, 0), -1);
      due("2: none comes", x.count(6), n);
    }
    due("3: end(380)", x.end(380), 380);
    due("2: feed() behind 380", x.feed(0, 0, 0, 0, 0), 400);
    due("2: feed() behind 400", x.feed(0, 0, 0, 0, 0), -1);
    due("2: a refused feed() writes nothing", refusedFeed(400), 1);
    due("2: a refused feed() writes nothing", refusedFeed(381), 1);
  }

  /** A text with blanks up to so many bytes, and then bytes that would be wrong there. */
  private static int refusedFeed(int length) {
    QuotaLicences x = new QuotaLicences();
    Check.feed(x, T + " ".repeat(length - T.length()));
    x.feed(0x21212121, 0x21212121, 0x21212121, 0x21212121, 0x21212121);
    due("2: none comes", x.count(6), length);
    return x.tell();
  }

  /** Of each number the highest byte first, and its signs are no matter. */
  private static void feedBytes() {
    QuotaLicences x = new QuotaLicences();
    x.feed(0x73636865, 0x6d653120, 0x32203320, 0x34203520, 0x313b6f72);
    x.feed(0x6967696e, 0x37202020, 0x20202020, 0x20202020, 0x20202020);
    due("2: bytes", x.tell(), 1);
    Check.dueText("2: bytes", Check.letters(x), "scheme 1 2 3 4 5 1;origin 7");
    int[] wrong = {0xf3636865, 0x73e36865, 0x7363e865, 0x736368e5, -1, Integer.MIN_VALUE, 0};
    for (int first : wrong) {
      x.feed(first, 0x6d653120, 0x32203320, 0x34203520, 0x313b6f72);
      due("2: bytes above 127, and 0", x.tell(), -3);
    }
    x.feed(0x73636865, 0x6d6500ff, 0, 0, 0);
    due("2: 0 is no blank", x.tell(), -2 - (8 * 6 + MISPLACED));
    x.feed(0x73636865, 0x6d65ff00, 0, 0, 0);
    due("2: 255 is no blank", x.tell(), -2 - (8 * 6 + MISPLACED));
  }

  private static void endEdges() {
    QuotaLicences x = new QuotaLicences();
    due("3: end(0) of 0", x.end(0), 0);
    due("3: end(1) of 0", x.end(1), -1);
    due("3: end(-1) of 0", x.end(-1), -1);
    x.feed(0, 0, 0, 0, 0);
    due("3: end(21) of 20", x.end(21), -1);
    due("3: end(-1) of 20", x.end(-1), -1);
    due("3: end(least)", x.end(Integer.MIN_VALUE), -1);
    due("3: end(most)", x.end(Integer.MAX_VALUE), -1);
    due("3: nothing happens", x.count(6), 20);
    due("3: end(20) of 20", x.end(20), 20);
    due("3: end(19) of 20", x.end(19), 19);
    due("3: end(20) of 19", x.end(20), -1);
    due("3: nothing happens", x.count(6), 19);
    due("3: feed() behind 19", x.feed(0, 0, 0, 0, 0), 39);
    due("3: end(1)", x.end(1), 1);
    due("3: end(0)", x.end(0), 0);
    due("3: end(1) of 0", x.end(1), -1);
    for (int i = 0; i < 20; i++) {
      x.feed(0, 0, 0, 0, 0);
    }
    due("3: end(401) of 400", x.end(401), -1);
    due("3: end(400) of 400", x.end(400), 400);
  }

  /** What is cut off is gone: what is fed next comes in its place. */
  private static void endKeepsNothingMore() {
    QuotaLicences x = new QuotaLicences();
    Check.feed(x, T.substring(0, 40) + "!".repeat(20));
    due("3: end(40)", x.end(40), 40);
    x.feed(0x70617374, 0x20302030, 0x20312032, 0x20332020, 0x20202020);
    due("3: what is fed comes behind the fortieth", x.tell(), 1);
    due("3: it counts", x.past(0, 0, 0), 3);
    for (int n = 0; n <= T.length(); n++) {
      Check.feed(x, T + "9;origin 99999");
      x.end(n);
      QuotaLicences y = new QuotaLicences();
      due("3: nothing is read behind end(" + n + ")", x.tell(), Check.tell(y, T.substring(0, n)));
    }
  }

  // ---- 4: faults of a text ----

  /** The text ends too early: at its end, or at the word that it ends in. */
  private static void textEnds() {
    fault(T.substring(0, 0), 0, MISPLACED);
    for (int n = 1; n <= 5; n++) {
      fault(T.substring(0, n), 0, MISPLACED);
    }
    for (int n = 6; n <= 19; n++) {
      fault(T.substring(0, n), n, MISPLACED);
    }
    fault(T.substring(0, 20), 20, NO_ORIGIN);
    for (int n = 21; n <= 26; n++) {
      fault(T.substring(0, n), 21, MISPLACED);
    }
    fault(T.substring(0, 27), 27, MISPLACED);
    fault(T.substring(0, 28), 28, MISPLACED);
    due("4: origin 1", fits(T.substring(0, 29), 1).origin(0, 0), 1);
    due("4: origin 12", fits(T.substring(0, 30), 1).origin(0, 0), 12);
    for (int n = 31; n <= 38; n++) {
      fault(T.substring(0, n), 31, MISPLACED);
    }
    due("4: importer", fits(T.substring(0, 39), 1).count(1), 1);
    for (int n = 40; n <= 43; n++) {
      fault(T.substring(0, n), 40, MISPLACED);
    }
    for (int n = 44; n <= 53; n++) {
      fault(T.substring(0, n), n, MISPLACED);
    }
    due("4: past", fits(T, 1).past(0, 0, 2), 1);
  }

  /** The place of what is wrong when a byte of T is: the word's that it cuts, or its own. */
  private static int placeOf(int at) {
    int[] words = {0, 6, 21, 27, 31, 39, 40, 44};
    for (int i = 0; i < words.length; i += 2) {
      if (at >= words[i] && at < words[i + 1]) {
        return words[i];
      }
    }
    return at;
  }

  /** Bytes that can stand nowhere, those beside blanks, digits, ; and small letters among them. */
  private static void wrongBytes() {
    int[] none = {0, 9, 10, 13, 31, 33, 45, 46, 47, 58, 60, 64, 65, 79, 83, 90, 91, 95, 96, 123, 127, 128, 160, 176,
      251, 255};
    for (int at = 0; at < T.length(); at++) {
      for (int wrong : none) {
        fault(T.substring(0, at) + (char) wrong + T.substring(at + 1), placeOf(at), MISPLACED);
      }
      fault(T.substring(0, at) + '!', placeOf(at), MISPLACED);
    }
    for (int wrong : none) {
      fault(T + (char) wrong, 54, MISPLACED);
      fault(T + "  " + (char) wrong + "  ", 56, MISPLACED);
      fault("  " + (char) wrong + T, 2, MISPLACED);
      fault("scheme" + (char) wrong, 6, MISPLACED);
      fault("scheme 60" + (char) wrong, 9, MISPLACED);
    }
  }

  private static void wrongSemicolons() {
    for (int at = 0; at < T.length(); at++) {
      boolean due = at == 20 || at == 30 || at == 39;
      if (!due && at != 29) {
        fault(T.substring(0, at) + ';' + T.substring(at + 1), placeOf(at), MISPLACED);
      }
    }
    fault(T.substring(0, 29) + ';' + T.substring(30), 30, MISPLACED);
  }

  private static void words() {
    String[] first = {"schem", "schemes", "schemee", "sscheme", "xcheme", "schemf", "tcheme", "Scheme",
      "scheMe", "origin", "importer", "past", "a", "z"};
    for (String word : first) {
      fault(word + T.substring(6), 0, MISPLACED);
    }
    String[] piece = {"origi", "origins", "oorigin", "originz", "origina", "xrigin", "origim",
      "xmporter", "importes", "xast", "pasu", "import", "importe", "importers", "pas",
      "pasts", "scheme", "a", "z", "orzgin"};
    for (String word : piece) {
      fault(B + ';' + word + " 1", 21, MISPLACED);
      fault(B + ";  " + word + " 1", 23, MISPLACED);
      fault(B + ";origin 1;" + word, 30, MISPLACED);
    }
    fault("scheme 60 5 90 0 0 1z;origin 1", 20, MISPLACED);
    fault("scheme 60 5 90 0 0 1a;origin 1", 20, MISPLACED);
    fault("scheme z 5", 7, MISPLACED);
    fault("scheme60a", 8, MISPLACED);
    fault(B + ";origin z", 28, MISPLACED);
    fault(B + ";origin 1z", 29, MISPLACED);
    fault(B + ";importer 1;origin 1", 30, MISPLACED);
    fault(B + ";importer1;origin 1", 29, MISPLACED);
  }

  /** Blanks stand between as one likes; within a word or a number they part it. */
  private static void blanks() {
    String tight = "scheme60 5 90 0 0 1;origin12;importer;past0 0 1 2 3";
    String wide = "   scheme   60   5   90   0   0   1   ;   origin   12   ;   importer   ;   past   0   0   1   2   3   ";
    Check.dueText("4: no blanks", Check.letters(fits(tight, 1)), T);
    Check.dueText("4: many blanks", Check.letters(fits(wide, 1)), T);
    fault("sch eme 60 5 90 0 0 1;origin 1", 0, MISPLACED);
    fault("scheme 6 0 5 90 0 0 1;origin 1", 9, BAD_NUMBER);
    fault("scheme 605 90 0 0 1;origin 1", 7, BAD_NUMBER);
    fault(B + ";ori gin 1", 21, MISPLACED);
    fault(B + ";origin 1 2", 30, MISPLACED);
    fault(" ", 1, MISPLACED);
    fault("scheme   ", 9, MISPLACED);
    fault("scheme   101", 9, BAD_NUMBER);
    fault("scheme   x", 9, MISPLACED);
    fault(B + "   ;   ", 27, MISPLACED);
    fault(B + "   x", 23, MISPLACED);
    fault(B + "; origin   100000", 31, BAD_NUMBER);
  }

  private static void separators() {
    fault(';' + T, 0, MISPLACED);
    fault(T + ';', 55, MISPLACED);
    fault(T + "; ", 56, MISPLACED);
    fault(T + ";;", 55, MISPLACED);
    fault(B + ";;origin 1", 21, MISPLACED);
    fault(B + " origin 1", 21, MISPLACED);
    fault(B + "origin 1", 20, MISPLACED);
    fault(B + ",origin 1", 20, MISPLACED);
    fault(B + ":origin 1", 20, MISPLACED);
    fault(B + ";origin 1 importer", 30, MISPLACED);
    fault(B + ";origin 1importer", 29, MISPLACED);
    fault(B + ";origin;1", 27, MISPLACED);
    fault("scheme;60 5 90 0 0 1;origin 1", 6, MISPLACED);
    fault("scheme 60;5 90 0 0 1;origin 1", 9, MISPLACED);
    fault("scheme 60 5 90 0 0;origin 1", 18, MISPLACED);
    fault("scheme 60 5 90 0 0 1 1;origin 1", 21, MISPLACED);
    fault(B + ';' + B + ";origin 1", 21, MISPLACED);
  }

  /** One number with what stands ahead of it and behind: both sides of both bounds. */
  private static void number(String ahead, String behind, int least, int most) {
    int place = ahead.length();
    fits(ahead + least + behind, 1);
    fits(ahead + most + behind, 1);
    fits(ahead + "000" + most + behind, 1);
    fault(ahead + (most + 1) + behind, place, BAD_NUMBER);
    fault(ahead + "000" + (most + 1) + behind, place, BAD_NUMBER);
    fault(ahead + (most + 1), place, BAD_NUMBER);
    fault(ahead + "-1" + behind, place, MISPLACED);
    fault(ahead + "+1" + behind, place, MISPLACED);
    if (least > 0) {
      fault(ahead + (least - 1) + behind, place, BAD_NUMBER);
      fault(ahead + "00" + behind, place, BAD_NUMBER);
    }
    String[] far = {"100000", "2147483647", "2147483648", "4294967297", "9223372036854775809", "18446744073709551617",
      "10000000000000000000000000000000000000001"};
    for (String value : far) {
      fault(ahead + value + behind, place, BAD_NUMBER);
    }
  }

  private static void terms() {
    int[] least = {0, 1, 1, 0, 0, 1};
    int[] most = {100, 99999, 90, 100, 2000, 3};
    String ahead = "scheme ";
    String[] behind = {" 1 1 1 1 1;origin 1", " 1 1 1 1;origin 1", " 1 1 1;origin 1", " 1 1;origin 1", " 1;origin 1",
      ";origin 1"};
    for (int what = 0; what < 6; what++) {
      number(ahead, behind[what], least[what], most[what]);
      due("18: the least of term " + what, fits(ahead + least[what] + behind[what], 1).told(what), least[what]);
      due("18: the most of term " + what, fits(ahead + most[what] + behind[what], 1).told(what), most[what]);
      ahead = ahead + "1 ";
    }
  }

  private static void numbersOfPieces() {
    number(B + ";origin ", ";importer", 0, 99999);
    due("19: quota 0", fits(B + ";origin 0", 1).origin(0, 0), 0);
    due("19: quota 99999", fits(B + ";origin 99999", 1).origin(0, 0), 99999);
    String past = B + ";origin 1;importer;importer;past ";
    number(past, " 0 1 2 3", 0, 1);
    number(past + "0 ", " 1 2 3", 0, 0);
    number(past + "0 0 ", " 2 3", 0, 99999);
    number(past + "0 0 1 ", " 3", 0, 99999);
    number(past + "0 0 1 2 ", "", 0, 99999);
    QuotaLicences x = fits(past + "1 0 99999 0 99998", 1);
    due("20: year 2", x.past(1, 0, 2), 99999);
    due("20: year 1", x.past(1, 0, 1), 0);
    due("20: year 0", x.past(1, 0, 0), 99998);
    for (int year = 0; year <= 3; year++) {
      due("20: 0 without", x.past(0, 0, year), 0);
    }
    fault(past + "0 0 1 2 3 4", past.length() + 10, MISPLACED);
  }

  private static void longNumbers() {
    Check.dueText("4: zeros ahead", Check.letters(fits("scheme 0000000000000000000000000000060 005 090 00 00 01"
        + ";origin 00000000000000000000000099999", 1)), B + ";origin 99999");
    fault("scheme " + "0".repeat(380), 387, MISPLACED);
    fault("scheme " + "9".repeat(380), 7, BAD_NUMBER);
  }

  /** The importer and the origin of a past are told ahead of it. */
  private static void toldAhead() {
    fault(B + ";past 0 0 1 2 3;origin 1;importer", 26, BAD_NUMBER);
    fault(B + ";origin 1;past 0 0 1 2 3;importer", 35, BAD_NUMBER);
    fault(B + ";importer;past 0 0 1 2 3;origin 1", 37, BAD_NUMBER);
    fits(B + ";importer;origin 1;past 0 0 1 2 3", 1);
    fault(B + ";importer;origin 1;past 1 0 1 2 3;importer", 44, BAD_NUMBER);
    fits(B + ";importer;origin 1;importer;past 1 0 1 2 3", 1);
    fault(B + ";importer;origin 1;past 0 1 1 2 3;origin 1", 46, BAD_NUMBER);
    fits(B + ";importer;origin 1;origin 1;past 0 1 1 2 3", 2);
    String full = B + ";origin 1".repeat(4) + ";importer".repeat(8);
    due("20: the last importer and origin", fits(full + ";past 7 3 4 5 6", 4).past(7, 3, 0), 6);
    fault(full + ";past 8 3 4 5 6", full.length() + 6, BAD_NUMBER);
    fault(full + ";past 7 4 4 5 6", full.length() + 8, BAD_NUMBER);
    fault(full + ";past 8 4 4 5 6", full.length() + 6, BAD_NUMBER);
    fault(full + ";past 4294967296 0 4 5 6", full.length() + 6, BAD_NUMBER);
  }

  private static void tooMany() {
    String four = B + ";origin 1;origin 2;origin 3;origin 4";
    String eight = ";importer".repeat(8);
    fits(four, 4);
    fault(four + ";origin 5", 57, TOO_MANY);
    fault(four + ";  origin 5", 59, TOO_MANY);
    fault(four + ";origin", 57, TOO_MANY);
    fault(four + ";origin x", 57, TOO_MANY);
    fault(four + ";origin 100000", 57, TOO_MANY);
    fault(four + ";origins", 57, MISPLACED);
    fault(four + ";orig", 57, MISPLACED);
    due("4: eight importers", fits(four + eight, 4).count(1), 8);
    due("4: eight importers ahead", fits(B + eight + ";origin 1", 1).count(1), 8);
    fault(four + eight + ";importer", 129, TOO_MANY);
    fault(four + eight + "; importer ", 130, TOO_MANY);
    fault(four + eight + ";importer 7", 129, TOO_MANY);
    fault(four + eight + ";importers", 129, MISPLACED);
    fault(four + eight + ";origin 5", 129, TOO_MANY);
    fault(B + eight + ";importer", 93, TOO_MANY);
    fault(four + eight + ";past 7 3 1 1 1;origin 5", 144, TOO_MANY);
  }

  /** At the end of the text, blanks and all, unless something else is wrong there or ahead. */
  private static void noOrigin() {
    fault(B, 20, NO_ORIGIN);
    fault(B + "  ", 22, NO_ORIGIN);
    fault(B + ";importer", 29, NO_ORIGIN);
    fault(B + ";importer".repeat(8), 92, NO_ORIGIN);
    fault(B + ";importer  ", 31, NO_ORIGIN);
    fault(B + ';', 21, MISPLACED);
    fault(B + "; ", 22, MISPLACED);
    fault(B + ";importer;", 30, MISPLACED);
    fault(B + 'x', 20, MISPLACED);
    fits(B + ";origin 0", 1);
  }

  /** Of several faults the first along the text counts. */
  private static void firstPlace() {
    fault("scheme 101 0 91 101 2001 4;origin", 7, BAD_NUMBER);
    fault("scheme 100 0 91 101 2001 4;origin", 11, BAD_NUMBER);
    fault("scheme 100 1 91 101 2001 4;origin", 13, BAD_NUMBER);
    fault("scheme 100 1 90 101 2001 4;origin", 16, BAD_NUMBER);
    fault("scheme 100 1 90 100 2001 4;origin", 20, BAD_NUMBER);
    fault("scheme 100 1 90 100 2000 4;origin", 25, BAD_NUMBER);
    fault("scheme 100 1 90 100 2000 3;origin", 33, MISPLACED);
    fault("scheme 101 x", 7, BAD_NUMBER);
    fault("scheme x 101", 7, MISPLACED);
    fault("scheme 101", 7, BAD_NUMBER);
    fault(B + ";importer;past 0 0 1 1 1", 37, BAD_NUMBER);
    fault(B + ";origin 1;importer;past 1 1 100000 1 1", 44, BAD_NUMBER);
    fault(B + ";origin 1;importer;past 0 1 100000 1 1", 46, BAD_NUMBER);
    fault(B + ";origin 1;importer;past 0 0 100000 100000 1", 48, BAD_NUMBER);
    fault(B + ";origin 1;importer;past 0 0 1 100000 100000", 50, BAD_NUMBER);
    fault(B + ";origin 100000;x", 28, BAD_NUMBER);
    fault(B + ";x;origin 100000", 21, MISPLACED);
  }

  /** 400 bytes are a text, and the places of its faults go up to 400. */
  private static void fullText() {
    fits(T + " ".repeat(400 - 54), 1);
    fits(" ".repeat(400 - 54) + T, 1);
    fault(" ".repeat(400), 400, MISPLACED);
    fault(B + " ".repeat(380), 400, NO_ORIGIN);
    fault(B + " ".repeat(379) + ';', 400, MISPLACED);
    fault(T + " ".repeat(345) + 'x', 399, MISPLACED);
    fault(T + " ".repeat(345) + ';', 400, MISPLACED);
    fault(B + " ".repeat(371) + ";origin x", 399, MISPLACED);
    fault(B + " ".repeat(373) + ";origin", 400, MISPLACED);
    due("4: the last byte counts", fits(B + " ".repeat(370) + ";origin 73", 1).origin(0, 0), 73);
    due("4: up to the last byte", fits(B + ";origin 73" + ";importer".repeat(8)
        + ";past 0 0 1 1 1".repeat(19) + " ".repeat(13), 1).past(0, 0, 0), 1);
    String words = B + ";origin 1;importer" + ";past 0 0 0 0 7".repeat(24);
    due("4: many pieces", fits(words, 1).past(0, 0, 0), 7);
    due("4: 398 bytes and two blanks", fits(words + "  ", 1).past(0, 0, 0), 7);
    fault(words + ';', 399, MISPLACED);
    fault(words + "; ", 400, MISPLACED);
    fault(words + ";p", 399, MISPLACED);
    fault(words + " 7", 399, MISPLACED);
    due("4: digits up to the end", fits(words + "12", 1).past(0, 0, 0), 712);
  }

  private static void lastPastCounts() {
    String two = B + ";origin 1;importer;past 0 0 7 8 9;past 0 0 ";
    Check.dueText("4: the last one counts", Check.letters(fits(two + "4 0 5", 1)),
        B + ";origin 1;importer;past 0 0 4 0 5");
    Check.dueText("4: the last one counts, of 0, too", Check.letters(fits(two + "0 0 0", 1)), B + ";origin 1;importer");
    due("4: of 0: a newcomer", fits(two + "0 0 0", 1).sort(0, 0), 0);
    due("4: of another origin", fits(B + ";origin 1;origin 2;importer;past 0 0 7 8 9;past 0 1 1 1 1", 2).past(0, 0, 0), 9);
  }

  // ---- 4: what tell() does ----

  private static void tellEmptiesTheTape() {
    QuotaLicences x = new QuotaLicences();
    due("4: an empty tape", x.tell(), -2 - MISPLACED);
    Check.feed(x, T);
    due("4: a scheme", x.tell(), 1);
    due("4: the tape is empty then", x.count(6), 0);
    due("4: so there is none to be told", x.tell(), -2 - MISPLACED);
    due("4: the scheme stays", x.count(0), 1);
    Check.feed(x, "scheme 101");
    due("4: a wrong one", x.tell(), -2 - (8 * 7 + BAD_NUMBER));
    due("4: the tape is empty then", x.count(6), 0);
    due("4: feed() begins anew", x.feed(0, 0, 0, 0, 0), 20);
  }

  private static QuotaLicences lived() {
    QuotaLicences x = Check.of("scheme 60 100 30 50 200 2;origin 1000;origin 500;importer;importer;importer"
        + ";past 0 0 100 200 300;past 1 1 10 20 30");
    x.keep(1);
    x.row(3, 4);
    x.note(2, 3, -5);
    x.apply(0, 0, 60);
    x.apply(2, 1, 50);
    x.use(0, 20);
    x.excess(1, 0, 7, 9);
    x.days(90);
    x.giveBack(1);
    x.apply(1, 0, 3);
    x.days(5);
    return x;
  }

  /** But for the tape nothing happens, wherever the text goes wrong. */
  private static void tellRefused() {
    String[] wrong = {"", "x", "scheme 101", B, B + ";origin", B + ";origin 1;importer;past 0 0 1 1 100000",
      B + ";origin 1;origin 1;origin 1;origin 1;origin 1", B + ";importer".repeat(8), T + ';'};
    String look = Look.ofAll(lived());
    for (String text : wrong) {
      QuotaLicences x = lived();
      Check.isTrue("4: refused '" + text + "'", Check.tell(x, text) <= -3);
      Check.dueText("4: nothing happens by '" + text + "'", Look.ofAll(x), look);
    }
    QuotaLicences x = lived();
    Check.tell(x, "x");
    due("4: acts can still be undone", x.undo(), 6);
    due("4: the day is as it was", x.count(4), 90);
  }

  /** A scheme in place of the one there was; shelves and notes stay. */
  private static void tellAnew() {
    QuotaLicences x = lived();
    due("4: tell()", Check.tell(x, T), 1);
    Check.dueText("4: as a new object has it", Look.ofState(x), Look.ofState(fits(T, 1)));
    due("4: day 0", x.count(4), 0);
    due("4: no acts", x.count(5), 0);
    due("4: nothing can be undone", x.undo(), -1);
    due("4: shelves stay", x.count(7), 2);
    due("4: notes stay", x.count(8), 4);
    due("4: notes stay", x.noted(2), -5);
    due("4: a period begins", x.origin(0, 1), 12);
    due("4: with its shares", x.share(0, 0, 0), 7);
    due("4: and its pool", x.origin(0, 3), 5);
    due("4: what is kept is as it was", x.back(1), 2);
    due("4: what is kept is as it was", x.origin(0, 3), 400);
  }

  /** What was there in a greater scheme is not to be seen in a smaller one that grows again. */
  private static void tellForgets() {
    String duty = "scheme 60 5 90 0 100 1";
    String great = duty + ";origin 900".repeat(4) + ";importer".repeat(8) + ";past 7 3 5 6 7;past 0 3 1 1 1;past 7 0 9 9 9";
    String plain = duty + ";origin 900".repeat(4) + ";importer".repeat(8);
    QuotaLicences x = Check.of(great);
    for (int i = 0; i < 8; i++) {
      x.apply(i, 3, 5);
      x.excess(i, 3, 5, 5);
    }
    x.days(30);
    for (int i = 0; i < 8; i++) {
      x.use(i, 2);
    }
    x.days(60);
    x.apply(7, 3, 2);
    due("4: a smaller one", Check.tell(x, B + ";origin 1"), 1);
    due("4: and a greater one", Check.tell(x, plain), 4);
    Check.dueText("4: as a new object has it", Look.ofState(x), Look.ofState(Check.of(plain)));
    QuotaLicences fresh = Check.of(plain);
    for (QuotaLicences one : new QuotaLicences[] {x, fresh}) {
      due("5: a new licence in an old place", one.apply(0, 0, 5), 0);
      due("6: use(0, 1)", one.use(0, 1), 4);
    }
    Check.dueText("4: as a new object has it", Look.ofState(x), Look.ofState(fresh));
    QuotaLicences y = Check.of(great);
    y.days(90);
    y.days(90);
    due("4: a wrong text behind much", Check.tell(y, great + '!'), -2 - (8 * great.length() + MISPLACED));
    due("4: tell()", Check.tell(y, plain), 4);
    Check.dueText("4: as a new object has it", Look.ofState(y), Look.ofState(Check.of(plain)));
  }

  // ---- 58: the text of a scheme ----

  private static void letterEdges() {
    QuotaLicences x = Check.of(T);
    due("58: how many", x.letter(-1), 54);
    due("58: the first", x.letter(0), 's');
    due("58: the last", x.letter(53), '3');
    due("58: behind the last", x.letter(54), -2);
    due("58: far behind", x.letter(Integer.MAX_VALUE), -2);
    due("58: below NONE", x.letter(-2), -1);
    due("58: far below", x.letter(Integer.MIN_VALUE), -1);
    Check.dueText("58: all of it", Check.letters(x), T);
    QuotaLicences none = new QuotaLicences();
    due("58: none without a scheme", none.letter(-1), 0);
    due("58: none without a scheme", none.letter(0), -2);
    due("58: none without a scheme", none.letter(-2), -1);
    Check.tell(none, "x");
    due("58: none by a wrong text", none.letter(-1), 0);
    x.back(0);
    due("58: it stays", x.letter(-1), 54);
  }

  /** A past stands in it if one of its years is not 0, by importers, then origins, behind all importers. */
  private static void letterPasts() {
    String four = B + ";origin 1;origin 2;importer;importer;importer";
    Check.dueText("58: no past", Check.letters(fits(four + ";past 0 0 0 0 0", 2)), four);
    Check.dueText("58: year 2", Check.letters(fits(four + ";past 0 0 1 0 0", 2)), four + ";past 0 0 1 0 0");
    Check.dueText("58: year 1", Check.letters(fits(four + ";past 0 0 0 1 0", 2)), four + ";past 0 0 0 1 0");
    Check.dueText("58: year 0", Check.letters(fits(four + ";past 0 0 0 0 1", 2)), four + ";past 0 0 0 0 1");
    String mixed = B + ";importer;origin 1;importer;past 1 0 1 2 3;origin 2;past 0 1 4 5 6;past 1 1 7 8 9;importer"
        + ";past 0 0 3 2 1;past 2 1 6 5 4";
    Check.dueText("58: in order", Check.letters(fits(mixed, 2)), four
        + ";past 0 0 3 2 1;past 0 1 4 5 6;past 1 0 1 2 3;past 1 1 7 8 9;past 2 1 6 5 4");
    String full = B + ";origin 1".repeat(4) + ";importer".repeat(8);
    Check.dueText("58: the last of each", Check.letters(fits(full + ";past 7 3 0 0 5", 4)), full + ";past 7 3 0 0 5");
    String none = B + ";origin 1;origin 2";
    Check.dueText("58: no importers", Check.letters(fits(none, 2)), none);
  }

  /** Numbers of each length, 0 too, and those beyond 99999 that imports make. */
  private static void letterNumbers() {
    int[] some = {0, 9, 10, 11, 99, 100, 101, 999, 1000, 1001, 9999, 10000, 10001, 90009, 99999};
    for (int n : some) {
      Check.dueText("58: " + n, Check.letters(fits(B + ";origin " + n, 1)), B + ";origin " + n);
    }
    QuotaLicences x = Check.of(B + ";origin 1;importer");
    int sum = 0;
    for (int i = 0; i < 101; i++) {
      x.excess(0, 0, 99999, 1);
      sum += 99999;
    }
    for (int i = 0; i < 4; i++) {
      x.days(90);
    }
    due("20: a year of many", x.past(0, 0, 0), sum);
    Check.dueText("58: a number of eight digits", letterTail(x, 8), "10099899");
    QuotaLicences y = Check.of(B + ";origin 1;importer");
    y.excess(0, 0, 99999, 1);
    y.excess(0, 0, 1, 1);
    for (int i = 0; i < 4; i++) {
      y.days(90);
    }
    Check.dueText("58: 100000", Check.letters(y), B + ";origin 1;importer;past 0 0 0 0 100000");
  }

  private static String letterTail(QuotaLicences x, int many) {
    StringBuilder text = new StringBuilder();
    int length = x.letter(-1);
    for (int k = length - many; k < length; k++) {
      text.append((char) x.letter(k));
    }
    return text.toString();
  }

  /** All as it is told now: quotas and terms at once, pasts from the first day of the next year on. */
  private static void letterAsTold() {
    QuotaLicences x = Check.of(T);
    int[] most = {100, 99999, 89, 100, 2000, 3};
    for (int what = 0; what < 6; what++) {
      x.set(what, most[what]);
    }
    x.widen(0, 99999);
    x.excess(0, 0, 10, 1);
    Check.dueText("58: at once", Check.letters(x), "scheme 100 99999 89 100 2000 3;origin 99999;importer;past 0 0 1 2 3");
    for (int i = 0; i < 3; i++) {
      x.days(90);
    }
    x.days(89);
    due("58: the last day of the year", letterTail(x, 5).equals("1 2 3") ? 1 : 0, 1);
    x.days(1);
    due("58: the first day of the next", letterTail(x, 6).equals("2 3 10") ? 1 : 0, 1);
    for (int i = 0; i < 8; i++) {
      x.days(90);
    }
    due("58: two years on", letterTail(x, 6).equals("10 0 0") ? 1 : 0, 1);
    for (int i = 0; i < 4; i++) {
      x.days(90);
    }
    due("58: what was year 2 is gone", letterTail(x, 9).equals(";importer") ? 1 : 0, 1);
  }

  private static void letterTellsTheSame() {
    QuotaLicences x = Check.of("  scheme 07 8 9 10 11 2 ;importer; origin 3;past 0 0 4 5 6;origin 12;importer"
        + ";past 1 1 0 0 1 ");
    String text = Check.letters(x);
    QuotaLicences y = fits(text, 2);
    Check.dueText("58: its text tells the same", Look.ofState(y), Look.ofState(x));
    Check.dueText("58: its text is its text", Check.letters(y), text);
  }
}

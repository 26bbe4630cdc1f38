/** What the tests share: telling a scheme by its text, and counting the answers that are not due. */
final class Check {
  private static int wrong = 0;
  private static int asked = 0;

  private Check() {
  }

  static void due(String call, long got, long want) {
    asked++;
    if (got != want) {
      wrong++;
      System.out.println(call + " answered " + got + ", due is " + want);
    }
  }

  static void dueDouble(String call, long got, double want) {
    due(call + " (" + Double.longBitsToDouble(got) + ", due is " + want + ")", got, Double.doubleToLongBits(want));
  }

  static void dueText(String call, String got, String want) {
    asked++;
    if (!got.equals(want)) {
      wrong++;
      System.out.println(call + " answered " + unlikeLine(got, want) + ", due is " + unlikeLine(want, got));
    }
  }

  /** The first line that the other text has not, so that a long one stays readable. */
  private static String unlikeLine(String text, String other) {
    String[] lines = text.split("\n", -1);
    String[] others = other.split("\n", -1);
    for (int i = 0; i < lines.length; i++) {
      if (i >= others.length || !lines[i].equals(others[i])) {
        return "'" + lines[i] + "'";
      }
    }
    return "no more lines";
  }

  static void isTrue(String what, boolean so) {
    due(what, so ? 1 : 0, 1);
  }

  /** Feeds the text and tells it: what tell() answers. */
  static int tell(QuotaLicences x, String text) {
    feed(x, text);
    return x.tell();
  }

  /** The tape has the bytes of this text alone then. */
  static void feed(QuotaLicences x, String text) {
    byte[] bytes = new byte[(text.length() + 19) / 20 * 20];
    for (int i = 0; i < text.length(); i++) {
      bytes[i] = (byte) text.charAt(i);
    }
    x.end(0);
    for (int i = 0; i < bytes.length; i += 20) {
      x.feed(four(bytes, i), four(bytes, i + 4), four(bytes, i + 8), four(bytes, i + 12), four(bytes, i + 16));
    }
    x.end(text.length());
  }

  private static int four(byte[] bytes, int at) {
    return (bytes[at] & 255) << 24 | (bytes[at + 1] & 255) << 16 | (bytes[at + 2] & 255) << 8 | bytes[at + 3] & 255;
  }

  /** A new object with the scheme of this text. */
  static QuotaLicences of(String text) {
    QuotaLicences x = new QuotaLicences();
    isTrue("tell() of " + text, tell(x, text) > 0);
    return x;
  }

  static String letters(QuotaLicences x) {
    StringBuilder text = new StringBuilder();
    int many = x.letter(-1);
    for (int k = 0; k < many; k++) {
      text.append((char) x.letter(k));
    }
    return text.toString();
  }

  static void close(String name) {
    System.out.println(name + ": " + asked + " answers, " + wrong + " not as due");
    if (wrong != 0) {
      System.exit(1);
    }
  }
}

import java.lang.reflect.Method;
import java.util.HashMap;
import java.util.Map;
import java.util.Random;
import java.util.Set;
import java.util.TreeSet;

/**
 * Random runs of at most 512 calls, each made on the class and on the Ledger: both must answer alike. At the end
 * every refusal that the document names must have been seen, so that the runs are known to reach them.
 */
public final class SecondReadingTest {
  private static final int RUNS = 1200;
  private static final int TEXT_RUNS = 2500;
  private static final int CALLS = 512;
  /** Promise, call, then what its numbers are: see numberFor(). */
  private static final String[] ACTS = {
    "5 apply i o n", "5 apply i o n", "5 apply i o n", "5 apply i o n", "6 use l u", "6 use l u", "6 use l u",
    "7 giveBack l", "8 hand l i u", "8 hand l i u", "9 merge a m", "10 lend i i o n", "11 excess i o n v",
    "12 days d", "12 days d", "12 days d", "13 widen o q", "14 set w5 t", "15 undo", "16 keep w1", "17 back w1",
    "55 row w3 z", "56 note j w3 x", "56 note j s x", "2 feed x x x x x", "3 end x", "4 tell"};
  /** And back() of a shelf that there is not: it changes nothing, and may come often. */
  private static final String[] ASKS = {
    "18 told w5", "19 origin o w7", "19 origin o w7", "20 past i o w3", "21 sort i o", "22 mean i o", "23 share i o w1",
    "24 licence l w7", "24 licence l w7", "25 month i w11", "26 rate i", "27 idle i o", "28 owed i", "29 would i o n",
    "30 lapses d", "31 next k", "32 best i n w1", "33 order i", "34 focus o", "35 carry o", "36 window",
    "37 shareAt i o p", "38 speed l", "39 fastest o", "39 fastest o",
    "39 fastest o", "40 log w7 o w4", "40 log w7 o w4", "41 risk k", "42 lacks i o n", "43 pace i",
    "44 peak o c w1", "45 even i o", "46 future i o", "47 likely o", "48 root l w1", "49 median o", "50 rush i o n",
    "51 stood o y", "52 owing i", "53 holds i w3", "54 total w4", "57 noted j", "58 letter K", "59 count w8",
    "17 back f"};
  /** The refusals that runs must have met; 0 stands for an answer that is none. */
  private static final String[] DUE = {
    "feed 0 -1", "end 0 -1", "tell 0", "apply 0 -1 -2 -3 -4 -5 -6", "use 0 -1 -2 -3", "giveBack 0 -1 -2",
    "hand 0 -1 -2 -3 -4", "merge 0 -1 -2 -3", "lend 0 -1 -2 -3", "excess 0 -1", "days 0 -1 -2", "widen 0 -1 -2",
    "set 0 -1 -2", "undo 0 -1", "keep 0 -1", "back 0 -1 -2", "told 0 -1", "origin 0 -1", "past 0 -1", "sort 0 -1",
    "mean 0 -1", "share 0 -1", "licence 0 -1", "month 0 -1", "rate 0 -1 -4616189618054758400", "idle 0 -1", "owed 0 -1",
    "would 0 -1 -2 -3 -4 -5 -6", "lapses 0 -1", "next 0 -1 -2", "best 0 -1 -2", "order 0 -1", "focus 0 -1",
    "carry 0 -1", "window 0 -1", "shareAt 0 -1", "speed 0 -1 -4616189618054758400", "fastest 0 -1 -2", "log 0 -1",
    "risk 0 -1 -2", "lacks 0 -1", "pace 0 -1", "peak 0 -1", "even 0 -1", "future 0 -1", "likely 0 -1", "root 0 -1",
    "median 0 -1 -2", "rush 0 -1", "stood 0 -1", "owing 0 -1", "holds 0 -1 -2", "total 0 -1", "row 0 -1",
    "note 0 -1 -2 -3 -4 -5", "noted 0 -9000000000", "letter 0 -1 -2", "count 0 -1"};

  private static final Map<String, Method> OWN = new HashMap<>();
  private static final Map<String, Method> SECOND = new HashMap<>();
  private static final Map<String, Set<Long>> MET = new HashMap<>();

  /** Which acts come most, and one in how many steps tells another scheme. */
  private enum Style {
    HURRIED("days", 5000), CROWDED("apply hand merge", 900), SHELVED("apply keep back undo days hand", 40),
    HANDING("apply use hand merge days", 900), ANY("", 300);

    final Set<String> wanted;
    final int tells;

    Style(String wanted, int tells) {
      this.wanted = Set.of(wanted.split(" "));
      this.tells = tells;
    }
  }

  private final QuotaLicences x = new QuotaLicences();
  private final Ledger ledger = new Ledger();
  private final StringBuilder told = new StringBuilder();
  private final Random random;
  private final String name;
  private final Style style;
  private int calls;
  private boolean alike = true;

  private SecondReadingTest(int seed) {
    random = new Random(seed);
    name = "run " + seed;
    Style[] styles = Style.values();
    style = styles[Math.min(seed % 8, styles.length - 1)];
  }

  public static void main(String[] args) throws Exception {
    for (Method method : QuotaLicences.class.getDeclaredMethods()) {
      OWN.put(method.getName(), method);
    }
    for (Method method : Ledger.class.getDeclaredMethods()) {
      SECOND.put(method.getName(), method);
    }
    for (int seed = 0; seed < RUNS; seed++) {
      new SecondReadingTest(seed).run();
    }
    for (int seed = 0; seed < TEXT_RUNS; seed++) {
      new SecondReadingTest(100000 + seed).runTexts();
    }
    checkMet();
    Check.close("SecondReadingTest");
  }

  private static void checkMet() {
    for (String line : DUE) {
      String[] words = line.split(" ");
      for (int i = 1; i < words.length; i++) {
        boolean met = MET.getOrDefault(words[0], Set.of()).contains(Long.parseLong(words[i]));
        Check.isTrue("the runs met " + words[0] + "() with " + words[i], met);
      }
    }
    for (int kind = 1; kind <= 4; kind++) {
      Check.isTrue("the runs met faults of kind " + kind, MET.get("faults").contains((long) kind));
    }
  }

  // ---- runs ----

  private void run() throws Exception {
    int[] weights = new int[ACTS.length];
    for (int i = 0; i < weights.length; i++) {
      weights[i] = weightOf(ACTS[i].split(" ")[1]);
    }
    int acts = style == Style.HURRIED || style == Style.CROWDED ? 4 : 1 + below(4);
    if (below(10) > 0) {
      tell(randomScheme());
    }
    while (calls < CALLS && alike) {
      if (below(style.tells) == 0) {
        tell(below(3) == 0 ? spoil(randomScheme()) : randomScheme());
      } else if (ledger.count(2) > 51 && ledger.count(2) < 60 && below(3) == 0) {
        // near the sixtieth licence it matters who of all gets one
        call("50 rush i o n");
      } else if (below(5) < acts) {
        call(anAct(weights));
      } else {
        call(ASKS[below(ASKS.length)]);
      }
    }
  }

  private int weightOf(String act) {
    boolean again = act.equals("back") || act.equals("tell");
    if (style == Style.ANY) {
      return again ? below(40) == 0 ? 1 : 0 : below(5);
    }
    return style.wanted.contains(act) ? 4 : again || act.equals("undo") ? 0 : below(2);
  }

  private String anAct(int[] weights) {
    for (int i = 0; i < 1000; i++) {
      int at = below(ACTS.length);
      if (below(5) < weights[at]) {
        return ACTS[at];
      }
    }
    return "12 days d";
  }

  private void runTexts() throws Exception {
    if (below(4) == 0) {
      fillTape();
    }
    while (calls < CALLS - 150 && alike) {
      tell(spoil(randomScheme()));
      call("59 count w8");
      call("58 letter K");
      call("4 tell");
    }
  }

  /** To where twenty bytes more are one too many, or not. */
  private void fillTape() throws Exception {
    for (int i = 0; i < 20; i++) {
      call("2 feed x x x x x");
    }
    callBoth("3", "end", 379 + below(4));
    call("2 feed x x x x x");
    call("3 end x");
  }

  private void call(String line) throws Exception {
    String[] words = line.split(" ");
    Method own = OWN.get(words[1]);
    Object[] numbers = new Object[words.length - 2];
    for (int i = 0; i < numbers.length; i++) {
      long number = numberFor(words[i + 2], numbers);
      if (own.getParameterTypes()[i] == long.class) {
        numbers[i] = number;
      } else {
        numbers[i] = (int) number;
      }
    }
    callBoth(words[0], words[1], numbers);
  }

  private void callBoth(String promise, String method, Object... numbers) throws Exception {
    if (calls >= CALLS || !alike) {
      return;
    }
    calls++;
    long got = ((Number) OWN.get(method).invoke(x, numbers)).longValue();
    long want = ((Number) SECOND.get(method).invoke(ledger, numbers)).longValue();
    String told = java.util.Arrays.toString(numbers);
    String call = method + "(" + told.substring(1, told.length() - 1) + ")";
    this.told.append(call).append(" -> ").append(want).append('\n');
    Check.due(name + ", call " + calls + ", promise " + promise + ": " + call, got, want);
    if (got != want) {
      alike = false;
      System.out.println(this.told);
    }
    MET.computeIfAbsent(method, key -> new TreeSet<>()).add(want < 0 ? want : 0L);
    if (method.equals("tell") && want < 0) {
      MET.computeIfAbsent("faults", key -> new TreeSet<>()).add((-2 - want) % 8);
    }
  }

  // ---- numbers ----

  private int below(int n) {
    return random.nextInt(n);
  }

  private static int leftOf(Ledger ledger, int licence) {
    return Math.max(1, ledger.licence(licence, 7));
  }

  private long wild() {
    long[] some = {-2147483648, -3, -2, -1, 0, 1, 2, 3, 4, 5, 6, 7, 8, 9, 11, 12, 13, 39, 40, 41, 59, 60, 61, 89, 90,
        91, 100, 101, 359, 360, 400, 2000, 2001, 3600, 9999, 10000, 99999, 100000, 2147483647};
    return below(4) == 0 ? random.nextInt() : some[below(some.length)];
  }

  private long numberFor(String what, Object[] before) {
    if (!what.equals("f") && below(25) == 0) {
      return what.equals("x") && below(2) == 0 ? random.nextLong() : wild();
    }
    int first = before.length > 0 && before[0] != null ? ((Number) before[0]).intValue() : 0;
    int[] bounds = boundsOf(what, first);
    if (bounds.length > 0 && below(16) == 0) {
      return new int[] {bounds[0] - 1, bounds[0], bounds[1], bounds[1] + 1}[below(4)];
    }
    switch (what.charAt(0)) {
      case 'i': return below(Math.max(1, style == Style.HANDING ? Math.min(2, ledger.count(1)) : ledger.count(1)));
      case 'o': return below(Math.max(1, ledger.count(0)));
      case 'l': return aLicence();
      case 'n': return anAmount();
      case 'u': return aPart(leftOf(ledger, first));
      case 'a': return aTwin();
      case 'm': return twinOf(first) < 0 || below(8) == 0 ? aLicence() : twinOf(first);
      case 'v': return 1 + below(9999);
      case 'd': return someDays();
      case 'q': return below(10) == 0 ? ledger.origin(0, 0) : below(3) == 0 ? below(100000) : below(800);
      case 't': return below(8) == 0 ? ledger.told(first) : first == 5 ? 1 + below(3) : 1 + below(100);
      case 'p': return below(101);
      case 'c': return 1 + below(12);
      case 'y': return below(ledger.count(4) + 1);
      case 'z': return below(41);
      case 'j': return below(Math.max(1, ledger.count(8)));
      case 's': return below(4);
      case 'k': return below(10) - 1;
      case 'K': return below(Math.max(1, ledger.letter(-1)) + 2) - 1;
      case 'x': return random.nextInt() >> below(32);
      case 'f': return below(2) == 0 ? -1 : 2;
      default: return below(Integer.parseInt(what.substring(1)) + 1);
    }
  }

  /** The least and the greatest that a call takes; none for numbers that are all taken. */
  private int[] boundsOf(String what, int first) {
    int[][] terms = {{0, 100}, {1, 99999}, {1, 90}, {0, 100}, {0, 2000}, {1, 3}};
    switch (what.charAt(0)) {
      case 'i': return new int[] {0, ledger.count(1) - 1};
      case 'o': return new int[] {0, ledger.count(0) - 1};
      case 'l': case 'a': case 'm': return new int[] {0, ledger.count(2) - 1};
      case 'n': case 'u': return new int[] {1, 99999};
      case 'v': return new int[] {1, 9999};
      case 'd': return new int[] {1, 90};
      case 'q': return new int[] {0, 99999};
      case 't': return first >= 0 && first < 6 ? terms[first] : new int[0];
      case 'p': return new int[] {0, 100};
      case 'c': return new int[] {1, 12};
      case 'y': return new int[] {0, ledger.count(4) - 1};
      case 'z': return new int[] {0, 40};
      case 'j': return new int[] {0, ledger.count(8) - 1};
      case 's': return new int[] {0, 3};
      case 'k': return new int[] {-1, ledger.next(-1) - 1};
      case 'K': return new int[] {-1, ledger.letter(-1) - 1};
      case 'x': case 'f': return new int[0];
      default: return new int[] {0, Integer.parseInt(what.substring(1))};
    }
  }

  /** Of what is left of a licence; now and then all, or one more. */
  private int aPart(int left) {
    if (style == Style.CROWDED || style == Style.HANDING && below(2) == 0) {
      return 1 + below(Math.min(3, left));
    }
    return below(4) == 0 ? left : below(8) == 0 ? left + 1 : 1 + below(left);
  }

  private int someDays() {
    if (style == Style.HURRIED && below(4) > 0) {
      return 90;
    }
    return below(4) == 0 ? 1 + below(90) : below(6) == 0 ? 90 - ledger.count(4) % 90 : 1 + below(9);
  }

  private int anAmount() {
    int lot = Math.max(1, ledger.told(1));
    if (style == Style.CROWDED) {
      return 1 + below(3);
    }
    switch (below(8)) {
      case 0: return lot;
      case 1: return lot + 1;
      case 2: return 1 + below(2000);
      case 3: return 1 + below(99999);
      default: return 1 + below(Math.min(60, lot));
    }
  }

  private int aLicence() {
    int many = Math.max(1, ledger.count(2));
    int licence = below(many);
    for (int i = 0; i < 3 && ledger.licence(licence, 5) != 0; i++) {
      licence = below(many);
    }
    return licence;
  }

  /** An open licence that the first one could take in, or -1. */
  private int twinOf(int first) {
    for (int i = 0; i < ledger.count(2); i++) {
      boolean alike = i != first && ledger.licence(i, 5) == 0 && ledger.licence(first, 5) == 0;
      for (int what : new int[] {0, 1, 3, 6}) {
        alike = alike && ledger.licence(i, what) == ledger.licence(first, what);
      }
      if (alike) {
        return i;
      }
    }
    return -1;
  }

  private int aTwin() {
    int licence = aLicence();
    for (int i = 0; i < 10 && twinOf(licence) < 0; i++) {
      licence = aLicence();
    }
    return licence;
  }

  // ---- texts ----

  private void tell(String text) throws Exception {
    String bytes = text.length() > 400 ? text.substring(0, 400) : text;
    callBoth("3", "end", 0);
    for (int i = 0; i < bytes.length(); i += 20) {
      Object[] numbers = new Object[5];
      for (int j = 0; j < 5; j++) {
        numbers[j] = four(bytes, i + 4 * j);
      }
      callBoth("2", "feed", numbers);
    }
    callBoth("3", "end", bytes.length());
    callBoth("4", "tell");
  }

  private static int four(String bytes, int at) {
    int number = 0;
    for (int i = at; i < at + 4; i++) {
      number = number << 8 | (i < bytes.length() ? bytes.charAt(i) & 255 : 'x');
    }
    return number;
  }

  private String blanks() {
    return below(12) == 0 ? " ".repeat(1 + below(3)) : "";
  }

  private String number(int n) {
    return " " + blanks() + (below(40) == 0 ? "0".repeat(1 + below(9)) : "") + n;
  }

  private String randomScheme() {
    StringBuilder text = new StringBuilder(blanks() + "scheme");
    int[] most = {100, below(2) == 0 ? 40 : 99999, 90, 100, 2000, 3};
    int[] least = {0, 1, 1, 0, 0, 1};
    for (int i = 0; i < 6; i++) {
      text.append(number(below(8) == 0 ? most[i] : least[i] + below(most[i] - least[i] + 1)));
    }
    int origins = 1 + below(4);
    int importers = below(12) == 0 ? 0 : 1 + below(8);
    for (int i = 0; i < origins; i++) {
      text.append(blanks()).append(';').append(blanks()).append("origin");
      text.append(number(below(4) == 0 ? below(100000) : below(6) == 0 ? below(4) : below(900)));
    }
    for (int i = 0; i < importers; i++) {
      text.append(blanks()).append(';').append(blanks()).append("importer");
    }
    for (int i = 0; i < 12 && importers > 0; i++) {
      String past = blanks() + ";past" + number(below(importers)) + number(below(origins)) + number(pastYear())
          + number(pastYear()) + number(pastYear()) + blanks();
      if (text.length() + past.length() <= 400) {
        text.append(past);
      }
    }
    return text.toString();
  }

  private int pastYear() {
    return below(3) == 0 ? 0 : below(6) == 0 ? below(100000) : below(500);
  }

  private String spoil(String text) {
    StringBuilder bytes = new StringBuilder(text);
    String[] pieces = {";origin 1", ";importer", ";past 0 0 1 1 1", ";past 7 0 1 1 1", ";past 0 3 1 1 1", ";scheme",
        ";", " ", "100000", ";origin 100000", ";past 0 0 1 1 100000", ";;", "x", "\u00ff", "\u0000", "0", "origin", "-1"};
    for (int i = below(3); i >= 0; i--) {
      int at = below(bytes.length() + 1);
      switch (below(6)) {
        case 0: bytes.setLength(at); break;
        case 1: bytes.insert(at, pieces[below(pieces.length)]); break;
        case 2: bytes.append(pieces[below(pieces.length)].repeat(1 + below(9))); break;
        case 3: bytes.deleteCharAt(Math.min(at, Math.max(0, bytes.length() - 1))); break;
        case 4: bytes.setCharAt(Math.min(at, bytes.length() - 1), (char) below(256)); break;
        default: bytes.insert(Math.max(0, bytes.indexOf(";")), pieces[below(pieces.length)]);
      }
      if (bytes.length() == 0) {
        bytes.append(' ');
      }
    }
    return bytes.toString();
  }
}

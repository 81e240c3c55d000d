/** What tests with hand-told answers share: comparing an answer with the one that is due, and making forms, rules, lines. */
abstract class Hand {
  static final int NONE = JoinBench.NONE;
  static final long MOST = 1000000000000000L;
  static final int LOW = Integer.MIN_VALUE, HIGH = Integer.MAX_VALUE;
  private static int wrong = 0;
  private static int promise = 0;

  static int wrong() { return wrong; }

  static void ofPromise(int number) { promise = number; }

  static void due(String call, long got, long want) {
    if (got != want) report(call + " answered " + got + ", due is " + want);
  }

  static void due(String call, boolean got, boolean want) { due(call, got ? 1 : 0, want ? 1 : 0); }

  static void due(String call, String got, String want) {
    if (!got.equals(want)) report(call + " gave " + got + ", due is " + want);
  }

  static void report(String what) {
    wrong++;
    System.out.println("promise " + promise + ": " + what);
  }

  static void write(JoinBench x, String text) {
    x.end(0);
    for (int at = 0; at < text.length(); at += 20) {
      int[] n = new int[5];
      for (int i = 0; i < 20; i++)
        n[i / 4] = n[i / 4] << 8 | (at + i < text.length() ? text.charAt(at + i) : 0);
      x.feed(n[0], n[1], n[2], n[3], n[4]);
    }
    x.end(text.length());
  }

  static int form(JoinBench x, String text, int kind, int stem, int cost, boolean kept) {
    write(x, text);
    return x.form(kind, stem, cost, kept);
  }

  static int form(JoinBench x, String text, int kind, int cost) { return form(x, text, kind, 0, cost, false); }

  static int rule(JoinBench x, String end, String beginning, String comes, int cost, int first, int last) {
    write(x, end + beginning + comes);
    return x.rule(end.length(), beginning.length(), cost, first, last);
  }

  static int rule(JoinBench x, String end, String beginning, String comes, int cost) {
    return rule(x, end, beginning, comes, cost, 0, 999);
  }

  static long part(JoinBench x, String line, int day) {
    write(x, line);
    return x.part(day);
  }

  static String out(JoinBench x) {
    StringBuilder text = new StringBuilder();
    int size = x.joined();
    for (int i = 0; i < size; i++) text.append((char) x.letter(i));
    return text.toString();
  }

  static void dueOut(String what, JoinBench x, String want) { due(what, out(x), want); }

  /** A parting told as its forms with what is between: "0-1" PLAIN, "0/2/1" by rule 2. */
  static String told(JoinBench x, int k) {
    StringBuilder text = new StringBuilder();
    for (int i = 0; i < x.parting(k, 1); i++) {
      if (i > 0) text.append(x.ruleOf(k, i) == NONE ? "-" : "/" + x.ruleOf(k, i) + "/");
      text.append(x.formOf(k, i));
    }
    return text.toString();
  }

  static void dueTold(JoinBench x, int k, String want) { due("parting " + k, told(x, k), want); }

  /** Forms deva (0), alaya (1), devi (2), a (3, KEPT); rules a+a to a (0) on days 10 to 20, i+a to ya (1) always. */
  static JoinBench temple() {
    JoinBench x = new JoinBench();
    form(x, "deva", 0, 3, 5, false);
    form(x, "alaya", 1, 4, 7, false);
    form(x, "devi", 2, 3, 4, false);
    form(x, "a", 5, 19, 0, true);
    rule(x, "a", "a", "a", 3, 10, 20);
    rule(x, "i", "a", "ya", 2, 0, 999);
    return x;
  }

  /** So many forms "a", of kinds 0, 1, .. in turn, at no cost. */
  static JoinBench ayes(int forms, int kinds) {
    JoinBench x = new JoinBench();
    for (int i = 0; i < forms; i++) form(x, "a", i % kinds, 0);
    return x;
  }

  static String times(char letter, int count) { return String.valueOf(letter).repeat(count); }
}

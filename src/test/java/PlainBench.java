import java.math.BigInteger;
import java.util.ArrayDeque;
import java.util.ArrayList;
import java.util.Arrays;
import java.util.Deque;
import java.util.HashSet;
import java.util.List;

/** The document told again with texts and lists, by trying every row: slow, for ModelTests to compare with. */
final class PlainBench {
  static final int NONE = -1;
  private static final BigInteger MOST = BigInteger.TEN.pow(15);

  static final class F { String text; int kind, stem, cost; boolean kept; }
  static final class R { String end, beginning, comes; int cost, first, last; }

  /** Numbers in the order that the document compares: form, between, form, ..; between 0 is PLAIN, r + 1 a RULE. */
  static final class Parting {
    final List<Integer> steps = new ArrayList<>();
    int cost;
    int forms() { return (steps.size() + 1) / 2; }
    int form(int i) { return steps.get(2 * i); }
    int rule(int i) { return i == 0 ? NONE : steps.get(2 * i - 1) - 1; }
  }

  private static final class Saved { List<Integer> costs = new ArrayList<>(); int[] uses; }

  final List<Integer> tape = new ArrayList<>();
  final List<F> forms = new ArrayList<>();
  final List<R> rules = new ArrayList<>();
  final boolean[][] barred = new boolean[6][6];
  final int[][] becomes = new int[6][6];
  Parting row = new Parting();
  int rowDay = 0;
  String out = "";
  int step = 1;
  int[] uses = new int[20];
  final Deque<Saved> saved = new ArrayDeque<>();
  boolean anyPart = false;
  long total, counted;
  boolean left;
  List<Parting> told = new ArrayList<>();

  PlainBench() { for (int[] line : becomes) Arrays.fill(line, NONE); }

  private static boolean in(int x, int low, int high) { return low <= x && x <= high; }
  private boolean isForm(int f) { return in(f, 0, forms.size() - 1); }
  private boolean isTold(int k) { return in(k, 0, told.size() - 1); }

  private String tapeText() {
    StringBuilder text = new StringBuilder();
    for (int b : tape) {
      if (b < 'a' || b > 'z') return null;
      text.append((char) b);
    }
    return text.toString();
  }

  int feed(int a, int b, int c, int d, int e) {
    if (tape.size() + 20 > 60) return NONE;
    for (int x : new int[] {a, b, c, d, e})
      for (int i = 3; i >= 0; i--) tape.add(x >>> (8 * i) & 255);
    return tape.size();
  }

  int end(int n) {
    if (n < 0 || n > tape.size()) return NONE;
    while (tape.size() > n) tape.remove(tape.size() - 1);
    return n;
  }

  int form(int kind, int stem, int cost, boolean kept) {
    String text = tapeText();
    tape.clear();
    if (forms.size() == 40 || text == null || !in(text.length(), 1, 8)) return NONE;
    if (!in(kind, 0, 5) || !in(stem, 0, 19) || !in(cost, 0, 99)) return NONE;
    F f = new F();
    f.text = text; f.kind = kind; f.stem = stem; f.cost = cost; f.kept = kept;
    forms.add(f);
    return forms.size() - 1;
  }

  int rule(int end, int beginning, int cost, int first, int last) {
    String text = tapeText();
    tape.clear();
    if (rules.size() == 24 || text == null || !in(end, 0, 3) || !in(beginning, 0, 3)) return NONE;
    if (end + beginning == 0 || !in(text.length() - end - beginning, 0, 4)) return NONE;
    if (!in(cost, 0, 99) || !in(first, 0, 999) || !in(last, 0, 999) || first > last) return NONE;
    R r = new R();
    r.end = text.substring(0, end);
    r.beginning = text.substring(end, end + beginning);
    r.comes = text.substring(end + beginning);
    r.cost = cost; r.first = first; r.last = last;
    rules.add(r);
    return rules.size() - 1;
  }

  int cost(int form, int cost) {
    if (!isForm(form) || !in(cost, 0, 99)) return NONE;
    int old = forms.get(form).cost;
    forms.get(form).cost = cost;
    return old;
  }

  boolean meets(int first, int second, boolean may) {
    if (!in(first, 0, 5) || !in(second, 0, 5)) return false;
    boolean old = !barred[first][second];
    barred[first][second] = !may;
    return old != may;
  }

  int becomes(int first, int second, int kind) {
    if (!in(first, 0, 5) || !in(second, 0, 5) || !in(kind, -1, 5)) return -2;
    int old = becomes[first][second];
    becomes[first][second] = kind;
    return old;
  }

  private List<Integer> fitList(int first, int second, int day) {
    List<Integer> list = new ArrayList<>();
    F f = forms.get(first), g = forms.get(second);
    for (int i = 0; i < rules.size(); i++) {
      R r = rules.get(i);
      if (in(day, r.first, r.last) && !f.kept && !g.kept && f.text.endsWith(r.end) && g.text.startsWith(r.beginning))
        list.add(i);
    }
    return list;
  }

  int fits(int first, int second, int day) {
    return isForm(first) && isForm(second) && in(day, 0, 999) ? fitList(first, second, day).size() : NONE;
  }

  int fitting(int first, int second, int day, int k) {
    return in(k, 0, fits(first, second, day) - 1) ? fitList(first, second, day).get(k) : NONE;
  }

  int row(int day) {
    if (!in(day, 0, 999)) return NONE;
    int old = row.forms();
    row = new Parting();
    rowDay = day;
    return old;
  }

  /** The texts that stay of a row's forms, with what comes between them; null if a form loses all its letters. */
  private List<String> pieces(Parting p) {
    List<String> list = new ArrayList<>();
    for (int i = 0; i < p.forms(); i++) {
      int from = 0, to = forms.get(p.form(i)).text.length();
      if (p.rule(i) != NONE) {
        from = rules.get(p.rule(i)).beginning.length();
        list.add(rules.get(p.rule(i)).comes);
      } else {
        list.add("");
      }
      if (i + 1 < p.forms() && p.rule(i + 1) != NONE) to -= rules.get(p.rule(i + 1)).end.length();
      if (from >= to) return null;
      list.add(forms.get(p.form(i)).text.substring(from, to));
    }
    return list;
  }

  private Parting longer(Parting p, int form, int rule) {
    Parting q = new Parting();
    q.steps.addAll(p.steps);
    if (!q.steps.isEmpty()) q.steps.add(rule + 1);
    q.steps.add(form);
    return q;
  }

  private int costOf(Parting p) {
    int sum = 0;
    for (int i = 0; i < p.forms(); i++) {
      sum += forms.get(p.form(i)).cost;
      if (p.rule(i) != NONE) sum += rules.get(p.rule(i)).cost;
    }
    return sum;
  }

  int joins(int form, int rule) {
    if (row.forms() == 40 || !isForm(form)) return NONE;
    Parting more = longer(row, form, rule);
    if (row.forms() > 0) {
      List<Integer> fit = fitList(row.form(row.forms() - 1), form, rowDay);
      if (rule == NONE ? !fit.isEmpty() : !fit.contains(rule)) return NONE;
      if (pieces(more) == null) return NONE;
    }
    row = more;
    return row.forms();
  }

  int joined() { out = String.join("", pieces(row)); return out.length(); }
  int letter(int i) { return in(i, 0, out.length() - 1) ? out.charAt(i) : NONE; }

  int back() {
    if (tape.size() + out.length() > 60) return NONE;
    for (char c : out.toCharArray()) tape.add((int) c);
    return tape.size();
  }

  private void search(Parting p, String line, int day, List<Parting> found) {
    List<String> parts = pieces(p);
    if (parts == null || p.forms() > line.length()) return;
    String all = String.join("", parts);
    String last = parts.get(parts.size() - 1);
    // What may still be taken from the last form's end is not compared, but for its first letter, which stays.
    if (!line.startsWith(all.substring(0, all.length() - last.length() + 1))) return;
    if (all.equals(line)) { p.cost = costOf(p); found.add(p); }
    for (int g = 0; g < forms.size(); g++) {
      List<Integer> fit = fitList(p.form(p.forms() - 1), g, day);
      if (fit.isEmpty()) search(longer(p, g, NONE), line, day, found);
      for (int r : fit) search(longer(p, g, r), line, day, found);
    }
  }

  private boolean isCut(Parting p) {
    for (int i = 1; i < p.forms(); i++)
      if (barred[forms.get(p.form(i - 1)).kind][forms.get(p.form(i)).kind]) return true;
    return false;
  }

  private static int order(Parting p, Parting q) {
    if (p.cost != q.cost) return Integer.compare(p.cost, q.cost);
    for (int i = 0; i < p.steps.size() && i < q.steps.size(); i++)
      if (!p.steps.get(i).equals(q.steps.get(i))) return Integer.compare(p.steps.get(i), q.steps.get(i));
    return Integer.compare(p.steps.size(), q.steps.size());
  }

  long part(int day) {
    String line = tapeText();
    tape.clear();
    if (line == null || !in(line.length(), 1, 40) || !in(day, 0, 999)) return NONE;
    List<Parting> all = new ArrayList<>();
    for (int f = 0; f < forms.size(); f++) search(longer(new Parting(), f, NONE), line, day, all);
    List<Parting> kept = new ArrayList<>();
    for (Parting p : all) if (!isCut(p)) kept.add(p);
    left = kept.isEmpty() && !all.isEmpty();
    if (left) kept = all;
    kept.sort(PlainBench::order);
    anyPart = true;
    total = all.size();
    counted = kept.size();
    told = new ArrayList<>(kept.subList(0, Math.min(8, kept.size())));
    return counted;
  }

  long parted(int what) {
    if (!anyPart || !in(what, 0, 3)) return NONE;
    return new long[] {total, counted, left ? 1 : 0, told.size()}[what];
  }

  int parting(int k, int what) {
    if (!isTold(k) || !in(what, 0, 2)) return NONE;
    Parting p = told.get(k);
    return new int[] {p.cost, p.forms(), p.cost - told.get(0).cost}[what];
  }

  int formOf(int k, int i) { return isTold(k) && in(i, 0, told.get(k).forms() - 1) ? told.get(k).form(i) : NONE; }
  int ruleOf(int k, int i) { return isTold(k) && in(i, 0, told.get(k).forms() - 1) ? told.get(k).rule(i) : NONE; }

  private BigInteger[] treesOf(List<Integer> kinds, BigInteger[][][] known, int from, int to) {
    if (known[from][to] != null) return known[from][to];
    BigInteger[] sum = new BigInteger[6];
    Arrays.fill(sum, BigInteger.ZERO);
    if (to == from + 1) sum[kinds.get(from)] = BigInteger.ONE;
    for (int mid = from + 1; mid < to; mid++) {
      BigInteger[] a = treesOf(kinds, known, from, mid), b = treesOf(kinds, known, mid, to);
      for (int x = 0; x < 6; x++)
        for (int y = 0; y < 6; y++)
          if (becomes[x][y] != NONE) sum[becomes[x][y]] = sum[becomes[x][y]].add(a[x].multiply(b[y]));
    }
    known[from][to] = sum;
    return sum;
  }

  long trees(int k, int kind) {
    if (!isTold(k) || !in(kind, 0, 5)) return NONE;
    List<Integer> kinds = new ArrayList<>();
    for (int i = 0; i < told.get(k).forms(); i++) kinds.add(forms.get(told.get(k).form(i)).kind);
    int n = kinds.size();
    return treesOf(kinds, new BigInteger[n + 1][n + 1][], 0, n)[kind].min(MOST).longValueExact();
  }

  int choose(int k) {
    if (!isTold(k)) return NONE;
    Saved now = new Saved();
    for (F f : forms) now.costs.add(f.cost);
    now.uses = uses.clone();
    saved.addLast(now);
    if (saved.size() > 30) saved.removeFirst();
    HashSet<Integer> once = new HashSet<>();
    for (int i = 0; i < told.get(k).forms(); i++) {
      F f = forms.get(told.get(k).form(i));
      uses[f.stem]++;
      if (once.add(told.get(k).form(i))) f.cost = Math.max(0, f.cost - step);
    }
    return saved.size();
  }

  boolean undo() {
    if (saved.isEmpty()) return false;
    Saved then = saved.removeLast();
    for (int i = 0; i < then.costs.size(); i++) forms.get(i).cost = then.costs.get(i);
    uses = then.uses;
    return true;
  }

  int step(int to) {
    if (!in(to, 0, 20)) return NONE;
    int old = step;
    step = to;
    return old;
  }

  int uses(int stem) { return in(stem, 0, 19) ? uses[stem] : NONE; }

  int about(int form, int what) {
    if (!isForm(form) || !in(what, 0, 4)) return NONE;
    F f = forms.get(form);
    return new int[] {f.kind, f.stem, f.cost, f.kept ? 1 : 0, f.text.length()}[what];
  }

  int count(int what) {
    if (!in(what, 0, 7)) return NONE;
    return new int[] {forms.size(), rules.size(), tape.size(), out.length(), row.forms(), saved.size(), step,
        costOf(row)}[what];
  }
}

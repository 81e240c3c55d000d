import java.math.BigInteger;
import java.util.ArrayList;
import java.util.Arrays;
import java.util.List;
import java.util.Random;

/**
 * Tongues of up to 40 forms and 24 rules, and lines of up to 40 letters, drawn by fixed seeds: too many partings to try
 * each. Here they are counted without a limit, and the first eight kept for each end of the line, with texts.
 */
public final class WideTests {
  private static final int RUNS = 100;
  private static final int LINES = 6;
  private static final BigInteger MOST = BigInteger.TEN.pow(15);
  private static final int NONE = JoinBench.NONE;

  private static int wrong = 0;
  private static long capped = 0, exact = 0, cuts = 0, lefts = 0, full = 0, long40 = 0;

  private static final class Form { String text; int kind, cost; boolean kept; }
  private static final class Rule { String end, beginning, comes; int cost, first, last; }

  /** One end of a row, from some form on: numbers as the document compares them, form, between, form, .. */
  private static final class Rest implements Comparable<Rest> {
    final int cost;
    final int[] steps;

    Rest(int cost, int... steps) { this.cost = cost; this.steps = steps; }

    Rest behind(int form, int between, int more) {
      int[] all = new int[steps.length + 2];
      all[0] = form;
      all[1] = between;
      System.arraycopy(steps, 0, all, 2, steps.length);
      return new Rest(cost + more, all);
    }

    @Override public int compareTo(Rest other) {
      if (cost != other.cost) return Integer.compare(cost, other.cost);
      for (int i = 0; i < steps.length && i < other.steps.length; i++)
        if (steps[i] != other.steps[i]) return Integer.compare(steps[i], other.steps[i]);
      return Integer.compare(steps.length, other.steps.length);
    }
  }

  /** All ends from a form at a place on: how many, and the first eight. */
  private static final class Ends {
    BigInteger count = BigInteger.ZERO;
    List<Rest> first = new ArrayList<>();

    void add(BigInteger more, List<Rest> rests) {
      count = count.add(more);
      first.addAll(rests);
      first.sort(null);
      if (first.size() > 8) first = new ArrayList<>(first.subList(0, 8));
    }
  }

  private final int seed;
  private final Random random;
  private final JoinBench bench = new JoinBench();
  private final List<Form> forms = new ArrayList<>();
  private final List<Rule> rules = new ArrayList<>();
  private final boolean[][] barred = new boolean[6][6];
  private final int[][] becomes = new int[6][6];
  private final int alphabet;
  private String line;
  private int day;
  private boolean cutting;
  private Ends[][][] known;

  private WideTests(int seed) {
    this.seed = seed;
    random = new Random(seed);
    alphabet = 1 + random.nextInt(4);
  }

  private void due(String call, long got, long want) {
    if (got == want) return;
    wrong++;
    if (wrong < 50) System.out.println("seed " + seed + ", " + line + ": " + call + " answered " + got + ", due is " + want);
  }

  private String word(int least, int most) {
    StringBuilder text = new StringBuilder();
    int size = least + random.nextInt(most - least + 1);
    for (int i = 0; i < size; i++) text.append((char) ('a' + random.nextInt(alphabet)));
    return text.toString();
  }

  private void makeTongue() {
    int formCount = random.nextInt(3) == 0 ? 40 : 2 + random.nextInt(38);
    int ruleCount = random.nextInt(3) == 0 ? 24 : random.nextInt(24);
    int longest = 1 + random.nextInt(8), taken = 1 + random.nextInt(3), costs = random.nextInt(2) == 0 ? 100 : 1 + random.nextInt(4);
    for (int i = 0; i < formCount; i++) {
      Form f = new Form();
      f.text = word(1, longest);
      f.kind = random.nextInt(6);
      f.cost = random.nextInt(costs);
      f.kept = random.nextInt(10) == 0;
      forms.add(f);
      due("form", Hand.form(bench, f.text, f.kind, i % 20, f.cost, f.kept), i);
    }
    for (int i = 0; i < ruleCount; i++) {
      Rule r = new Rule();
      r.end = word(0, taken);
      r.beginning = word(r.end.isEmpty() ? 1 : 0, taken);
      r.comes = word(0, random.nextInt(4) == 0 ? 4 : 1);
      r.cost = random.nextInt(costs);
      r.first = random.nextInt(3) == 0 ? random.nextInt(1000) : 0;
      r.last = random.nextInt(3) == 0 ? r.first + random.nextInt(1000 - r.first) : 999;
      rules.add(r);
      due("rule", Hand.rule(bench, r.end, r.beginning, r.comes, r.cost, r.first, r.last), i);
    }
    for (int[] kinds : becomes) Arrays.fill(kinds, NONE);
  }

  private void changeTables() {
    int share = random.nextInt(5);
    for (int i = 0; i < 36; i++) {
      barred[i / 6][i % 6] = random.nextInt(5) < share;
      bench.meets(i / 6, i % 6, !barred[i / 6][i % 6]);
      becomes[i / 6][i % 6] = random.nextInt(7) - 1;
      bench.becomes(i / 6, i % 6, becomes[i / 6][i % 6]);
    }
  }

  private boolean fits(Rule r, Form f, Form g) {
    return r.first <= day && day <= r.last && !f.kept && !g.kept && f.text.endsWith(r.end) && g.text.startsWith(r.beginning);
  }

  private List<Integer> fitting(Form f, Form g) {
    List<Integer> list = new ArrayList<>();
    for (int i = 0; i < rules.size(); i++) if (fits(rules.get(i), f, g)) list.add(i);
    return list;
  }

  /** A line that a row drawn step by step gives, cut to 40 letters where it is longer. */
  private String drawLine() {
    StringBuilder text = new StringBuilder();
    int size = random.nextInt(2) == 0 ? 40 : 1 + random.nextInt(40);
    Form f = forms.get(random.nextInt(forms.size()));
    String rest = f.text;
    while (text.length() + rest.length() < size) {
      Form g = forms.get(random.nextInt(forms.size()));
      List<Integer> fit = fitting(f, g);
      String next = g.text;
      if (!fit.isEmpty()) {
        Rule r = rules.get(fit.get(random.nextInt(fit.size())));
        if (rest.length() <= r.end.length() || g.text.length() <= r.beginning.length()) {
          text.append((char) ('a' + random.nextInt(alphabet)));
          continue;
        }
        rest = rest.substring(0, rest.length() - r.end.length()) + r.comes;
        next = g.text.substring(r.beginning.length());
      }
      text.append(rest);
      f = g;
      rest = next;
    }
    text.append(rest);
    return text.length() > 40 ? text.substring(0, 40) : text.toString();
  }

  private Ends ends(int place, int form, int cut) {
    if (known[place][form][cut] != null) return known[place][form][cut];
    Ends all = new Ends();
    known[place][form][cut] = all;
    Form f = forms.get(form);
    String rest = f.text.substring(cut);
    if (line.startsWith(rest, place) && place + rest.length() == line.length())
      all.add(BigInteger.ONE, List.of(new Rest(f.cost, form)));
    for (int next = 0; next < forms.size(); next++) {
      Form g = forms.get(next);
      if (cutting && barred[f.kind][g.kind]) continue;
      List<Integer> fit = fitting(f, g);
      if (fit.isEmpty()) goOn(all, place, form, rest, 0, next, 0, f.cost);
      for (int number : fit) {
        Rule r = rules.get(number);
        if (r.end.length() < rest.length() && r.beginning.length() < g.text.length())
          goOn(all, place, form, rest.substring(0, rest.length() - r.end.length()) + r.comes, number + 1, next,
              r.beginning.length(), f.cost + r.cost);
      }
    }
    return all;
  }

  private void goOn(Ends all, int place, int form, String text, int between, int next, int cut, int cost) {
    int behind = place + text.length();
    if (behind >= line.length() || !line.startsWith(text, place)) return;
    Ends more = ends(behind, next, cut);
    List<Rest> longer = new ArrayList<>();
    for (Rest rest : more.first) longer.add(rest.behind(form, between, cost));
    all.add(more.count, longer);
  }

  private Ends allEnds(boolean withCuts) {
    cutting = withCuts;
    known = new Ends[line.length()][forms.size()][4];
    Ends all = new Ends();
    for (int form = 0; form < forms.size(); form++) all.add(ends(0, form, 0).count, ends(0, form, 0).first);
    return all;
  }

  private void partLine() {
    day = random.nextInt(1000);
    line = drawLine();
    Ends uncut = allEnds(false), told = allEnds(true);
    boolean left = told.count.signum() == 0 && uncut.count.signum() > 0;
    if (left) told = uncut;
    due("part", Hand.part(bench, line, day), told.count.min(MOST).longValue());
    due("parted 0", bench.parted(0), uncut.count.min(MOST).longValue());
    due("parted 1", bench.parted(1), told.count.min(MOST).longValue());
    due("parted 2", bench.parted(2), left ? 1 : 0);
    due("parted 3", bench.parted(3), told.first.size());
    for (int k = 0; k < 8; k++) readTold(k, k < told.first.size() ? told.first.get(k) : null, told.first);
    if (told.count.compareTo(MOST) > 0) capped++;
    else if (told.count.signum() > 0) exact++;
    if (told.count.compareTo(uncut.count) < 0) cuts++;
    if (left) lefts++;
    if (told.first.size() == 8) full++;
    if (line.length() == 40 && told.count.signum() > 0) long40++;
  }

  private void readTold(int k, Rest want, List<Rest> all) {
    int size = want == null ? 0 : (want.steps.length + 1) / 2;
    due("parting " + k + " 0", bench.parting(k, 0), want == null ? NONE : want.cost);
    due("parting " + k + " 1", bench.parting(k, 1), want == null ? NONE : size);
    due("parting " + k + " 2", bench.parting(k, 2), want == null ? NONE : want.cost - all.get(0).cost);
    for (int i = 0; i <= size; i++) {
      due("formOf " + k + " " + i, bench.formOf(k, i), i < size ? want.steps[2 * i] : NONE);
      due("ruleOf " + k + " " + i, bench.ruleOf(k, i), i > 0 && i < size ? want.steps[2 * i - 1] - 1 : NONE);
    }
    BigInteger[] trees = want == null ? null : trees(want, size);
    for (int kind = 0; kind < 6; kind++)
      due("trees " + k + " " + kind, bench.trees(k, kind), trees == null ? NONE : trees[kind].min(MOST).longValue());
  }

  private BigInteger[] trees(Rest row, int size) {
    BigInteger[][][] ways = new BigInteger[size][size][6];
    for (int from = size - 1; from >= 0; from--)
      for (int to = from; to < size; to++) {
        Arrays.fill(ways[from][to], BigInteger.ZERO);
        if (from == to) ways[from][to][forms.get(row.steps[2 * from]).kind] = BigInteger.ONE;
        for (int mid = from; mid < to; mid++)
          for (int i = 0; i < 36; i++) {
            int kind = becomes[i / 6][i % 6];
            if (kind == NONE) continue;
            BigInteger more = ways[from][mid][i / 6].multiply(ways[mid + 1][to][i % 6]);
            ways[from][to][kind] = ways[from][to][kind].add(more);
          }
      }
    return ways[0][size - 1];
  }

  private void run() {
    makeTongue();
    for (int i = 0; i < LINES; i++) {
      if (i > 0) changeTables();
      partLine();
    }
  }

  private static void dueSome(String what, long seen) {
    if (seen >= 40) return;
    wrong++;
    System.out.println("the runs showed too little of " + what + ": " + seen);
  }

  public static void main(String[] args) {
    for (int seed = 0; seed < RUNS; seed++) new WideTests(seed).run();
    if (System.getProperty("show") != null)
      System.out.println(capped + " " + exact + " " + cuts + " " + lefts + " " + full + " " + long40);
    dueSome("more than can be counted", capped);
    dueSome("lines counted to the last", exact);
    dueSome("cut ones", cuts);
    dueSome("lines left uncut", lefts);
    dueSome("eight told", full);
    dueSome("lines of 40 letters", long40);
    System.out.println(wrong == 0 ? "all answers are as due" : wrong + " answers are not as due");
    if (wrong != 0) System.exit(1);
  }
}

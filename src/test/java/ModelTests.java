import java.util.Random;

/**
 * Long runs of calls drawn by fixed seeds, each call's answer compared with PlainBench's. They go beyond 512 calls
 * on one object, where the document leaves answers free: this class answers there as before, and a run shows more.
 */
public final class ModelTests {
  private static final int RUNS = 800;
  private static final int CALLS = 6000;
  private static final int[] WRONG = {Integer.MIN_VALUE, -3, -2, -1, 5, 6, 8, 19, 20, 21, 23, 24, 31, 32, 39, 40, 41, 99,
      100, 999, 1000, Integer.MAX_VALUE};

  private static int wrong = 0;
  private static long partings = 0, cuts = 0, lefts = 0, many = 0, ruled = 0, treed = 0, fulls = 0;

  private final int seed;
  private final Random random;
  private final JoinBench bench = new JoinBench();
  private final PlainBench plain = new PlainBench();
  private final int alphabet, mostForms, mostRules, mostLine, costs, days;
  private final boolean withWrong;
  private int calls = 0;

  private ModelTests(int seed) {
    this.seed = seed;
    random = new Random(seed);
    // Some tongues are filled to their limits, and beyond; their lines are short, or there would be too many rows to try.
    boolean full = seed % 10 == 9;
    alphabet = full ? 4 : 1 + random.nextInt(3);
    mostForms = full ? 45 : 2 + random.nextInt(5);
    mostRules = full ? 30 : random.nextInt(6);
    mostLine = full ? 3 : alphabet == 1 ? 6 : 9;
    costs = random.nextInt(3) == 0 ? 1 : random.nextInt(2) == 0 ? 3 : 100;
    days = 1 + random.nextInt(4);
    withWrong = random.nextInt(3) > 0;
  }

  private void due(String call, long got, long want) {
    calls++;
    if (got == want) return;
    wrong++;
    if (wrong < 50) System.out.println("seed " + seed + ": " + call + " answered " + got + ", due is " + want);
  }

  private static long bit(boolean b) { return b ? 1 : 0; }

  private int pick(int bound) {
    if (withWrong && random.nextInt(25) == 0) return WRONG[random.nextInt(WRONG.length)];
    return random.nextInt(bound);
  }

  private String word(int least, int most) {
    StringBuilder text = new StringBuilder();
    int size = least + random.nextInt(most - least + 1);
    for (int i = 0; i < size; i++) text.append((char) ('a' + random.nextInt(alphabet)));
    if (withWrong && size > 0 && random.nextInt(40) == 0) text.setCharAt(random.nextInt(size), "A`{\u00e1\0".charAt(random.nextInt(5)));
    return text.toString();
  }

  private void write(String text) {
    due("end 0", bench.end(0), plain.end(0));
    int[] n = new int[5];
    for (int at = 0; at < text.length(); at += 20) {
      for (int i = 0; i < 5; i++) {
        n[i] = 0;
        for (int j = 0; j < 4; j++) {
          int p = at + 4 * i + j;
          n[i] = n[i] << 8 | (p < text.length() ? text.charAt(p) : random.nextInt(256));
        }
      }
      due("feed", bench.feed(n[0], n[1], n[2], n[3], n[4]), plain.feed(n[0], n[1], n[2], n[3], n[4]));
    }
    due("end", bench.end(text.length()), plain.end(text.length()));
  }

  private void makeForm() {
    if (plain.forms.size() >= mostForms) return;
    write(word(1, random.nextInt(3) == 0 ? 5 : 3));
    int kind = pick(random.nextInt(3) == 0 ? 6 : 2), stem = pick(20), cost = pick(costs);
    boolean kept = random.nextInt(8) == 0;
    due("form", bench.form(kind, stem, cost, kept), plain.form(kind, stem, cost, kept));
  }

  private void makeRule() {
    if (plain.rules.size() >= mostRules) return;
    int longest = random.nextInt(3) == 0 ? 3 : 2;
    int end = random.nextInt(longest + 1), beginning = random.nextInt(longest + 1);
    write(word(end + beginning, end + beginning + (random.nextInt(3) == 0 ? 5 : 1)));
    int cost = pick(costs), first = pick(days), last = pick(days);
    if (withWrong && random.nextInt(20) == 0) end = pick(4);
    due("rule", bench.rule(end, beginning, cost, first, last), plain.rule(end, beginning, cost, first, last));
  }

  private int anyForm() { return pick(Math.max(1, plain.forms.size())); }

  private void makeRow() {
    int day = pick(days);
    due("row", bench.row(day), plain.row(day));
    int tries = 1 + random.nextInt(6);
    for (int i = 0; i < tries; i++) {
      int form = anyForm();
      int rule = random.nextInt(3) == 0 ? -1 : pick(Math.max(1, plain.rules.size()));
      int fits = plain.row.forms() == 0 ? 0 : plain.fits(plain.row.form(plain.row.forms() - 1), form, plain.rowDay);
      if (fits > 0 && random.nextInt(4) > 0)
        rule = plain.fitting(plain.row.form(plain.row.forms() - 1), form, plain.rowDay, random.nextInt(fits));
      due("joins " + form + " " + rule, bench.joins(form, rule), plain.joins(form, rule));
    }
    due("count 7", bench.count(7), plain.count(7));
    readOut();
  }

  private void readOut() {
    due("joined", bench.joined(), plain.joined());
    for (int i = -1; i <= plain.out.length(); i++) due("letter", bench.letter(i), plain.letter(i));
  }

  private void partLine() {
    int day = plain.rowDay;
    if (random.nextInt(3) > 0 && plain.out.length() <= mostLine) {
      due("end", bench.end(0), plain.end(0));
      due("back", bench.back(), plain.back());
    } else {
      write(word(1, mostLine));
      day = pick(days);
    }
    due("part", bench.part(day), plain.part(day));
    readTold();
    if (plain.counted > 0) partings++;
    if (plain.counted < plain.total) cuts++;
    if (plain.left) lefts++;
    if (plain.counted > 8) many++;
  }

  private void readTold() {
    for (int what = -1; what <= 4; what++) due("parted " + what, bench.parted(what), plain.parted(what));
    for (int k = -1; k <= 8; k++) {
      for (int what = -1; what <= 3; what++) due("parting " + k + " " + what, bench.parting(k, what), plain.parting(k, what));
      int forms = Math.max(0, plain.parting(k, 1));
      for (int i = -1; i <= forms; i++) {
        due("formOf " + k + " " + i, bench.formOf(k, i), plain.formOf(k, i));
        due("ruleOf " + k + " " + i, bench.ruleOf(k, i), plain.ruleOf(k, i));
        if (plain.ruleOf(k, i) >= 0) ruled++;
      }
    }
  }

  private void readTrees() {
    for (int k = -1; k <= 8; k++)
      for (int kind = -1; kind <= 6; kind++) {
        due("trees " + k + " " + kind, bench.trees(k, kind), plain.trees(k, kind));
        if (plain.trees(k, kind) > 1) treed++;
      }
  }

  private void readAll() {
    for (int what = -1; what <= 8; what++) due("count " + what, bench.count(what), plain.count(what));
    for (int stem = -1; stem <= 20; stem++) due("uses", bench.uses(stem), plain.uses(stem));
    for (int form = -1; form <= plain.forms.size(); form++)
      for (int what = -1; what <= 5; what++) due("about", bench.about(form, what), plain.about(form, what));
  }

  private void readFits() {
    int first = anyForm(), second = anyForm(), day = pick(days);
    due("fits", bench.fits(first, second, day), plain.fits(first, second, day));
    for (int k = -1; k <= 6; k++)
      due("fitting", bench.fitting(first, second, day, k), plain.fitting(first, second, day, k));
  }

  private void changeTables() {
    int first = pick(random.nextInt(2) == 0 ? 6 : 2), second = pick(random.nextInt(2) == 0 ? 6 : 2);
    boolean may = random.nextInt(3) > 0;
    due("meets", bit(bench.meets(first, second, may)), bit(plain.meets(first, second, may)));
    int kind = random.nextInt(4) == 0 ? -1 : pick(random.nextInt(2) == 0 ? 6 : 2);
    due("becomes", bench.becomes(first, second, kind), plain.becomes(first, second, kind));
  }

  private void learn() {
    int step = pick(21);
    if (random.nextInt(4) == 0) due("step", bench.step(step), plain.step(step));
    int k = pick(Math.max(1, plain.told.size()));
    int times = random.nextInt(20) == 0 ? 35 : 1;
    for (int i = 0; i < times; i++) due("choose", bench.choose(k), plain.choose(k));
    int form = anyForm(), cost = pick(costs);
    if (random.nextInt(3) == 0) due("cost", bench.cost(form, cost), plain.cost(form, cost));
  }

  private void unlearn() {
    int times = random.nextInt(20) == 0 ? 35 : 1 + random.nextInt(2);
    for (int i = 0; i < times; i++) due("undo", bit(bench.undo()), bit(plain.undo()));
  }

  private void run() {
    for (int i = 0; i < 60 && mostForms > 40; i++) {
      makeForm();
      makeRule();
    }
    if (plain.forms.size() == 40 && plain.rules.size() == 24) fulls++;
    while (calls < CALLS) {
      switch (random.nextInt(14)) {
        case 0: case 1: makeForm(); break;
        case 2: case 3: makeRule(); break;
        case 4: case 5: makeRow(); break;
        case 6: case 7: partLine(); break;
        case 8: readTrees(); break;
        case 9: readAll(); break;
        case 10: readFits(); break;
        case 11: changeTables(); break;
        case 12: learn(); break;
        default: unlearn(); break;
      }
    }
    readAll();
  }

  private static void dueSome(String what, long seen) {
    if (seen >= 50) return;
    wrong++;
    System.out.println("the runs showed too little of " + what + ": " + seen);
  }

  public static void main(String[] args) {
    for (int seed = 0; seed < RUNS; seed++) new ModelTests(seed).run();
    if (System.getProperty("show") != null)
      System.out.println(partings + " " + cuts + " " + lefts + " " + many + " " + ruled + " " + treed + " " + fulls);
    dueSome("partings", partings);
    dueSome("cut ones", cuts);
    dueSome("lines left uncut", lefts);
    dueSome("more than eight", many);
    dueSome("rules between", ruled);
    dueSome("several trees", treed);
    dueSome("full tongues", fulls);
    System.out.println(wrong == 0 ? "all answers are as due" : wrong + " answers are not as due");
    if (wrong != 0) System.exit(1);
  }
}

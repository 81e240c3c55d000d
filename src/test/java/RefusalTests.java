import java.util.function.Supplier;

/**
 * "Nothing happens": of two objects made alike one gets a call that is refused, or one that tells and does no more, and
 * then both must answer alike in all that can be asked. Where the document empties the TAPE, the other one's is emptied.
 */
public final class RefusalTests extends Hand {
  private interface Call {
    long on(JoinBench x);
  }

  private static int passed = 0, failed = 0;

  /** Something of everything: a row by a rule, OUT, told partings, choices, both tables, a tape of 5 letters. */
  private static JoinBench rich() {
    JoinBench x = temple();
    form(x, "deva", 1, 2, 6, false);
    x.meets(1, 1, false);
    x.becomes(0, 1, 1);
    x.becomes(1, 0, 0);
    x.step(3);
    x.row(10);
    x.joins(0, NONE);
    x.joins(1, 0);
    x.joined();
    part(x, "devalayadeva", 10);
    x.choose(0);
    x.choose(1);
    write(x, "zebra");
    return x;
  }

  /** All that has a limit is at it: forms, rules, the tape, the row, the choices. */
  private static JoinBench full() {
    JoinBench x = new JoinBench();
    for (int i = 0; i < 40; i++) {
      x.feed(0x61620000, 0, 0, 0, 0);
      x.end(2);
      x.form(i % 2, i % 20, 50, false);
    }
    for (int i = 0; i < 24; i++) {
      x.feed(0x62620000, 0, 0, 0, 0);
      x.end(2);
      x.rule(1, 0, 2, 0, 10 + i);
    }
    for (int i = 0; i < 40; i++) x.joins(i, 23);
    x.joined();
    part(x, "abab", 9);
    for (int i = 0; i < 30; i++) x.choose(i % 8);
    for (int i = 0; i < 3; i++) x.feed(0x61616161, 0x62626262, 0, 0, 0);
    return x;
  }

  /** A row whose last form has one letter left, and a rule behind it that would take that. */
  private static JoinBench worn() {
    JoinBench x = new JoinBench();
    form(x, "aba", 0, 5);
    rule(x, "", "ab", "", 0);
    rule(x, "a", "", "", 0);
    x.joins(0, NONE);
    x.joins(0, 0);
    return x;
  }

  private static JoinBench made() { return new JoinBench(); }

  /** Some 220 calls, the ones that change something last. */
  private static String look(JoinBench x) {
    StringBuilder text = new StringBuilder();
    for (int what = 0; what < 8; what++) text.append(x.count(what)).append(' ');
    for (int form : new int[] {0, 1, 2, 4, 39})
      for (int what = 0; what < 5; what++) text.append(x.about(form, what)).append(' ');
    for (int stem = 0; stem < 20; stem++) text.append(x.uses(stem)).append(' ');
    text.append("told ");
    for (int what = 0; what < 4; what++) text.append(x.parted(what)).append(' ');
    for (int k = 0; k < 8; k++) text.append(x.parting(k, 0)).append(' ').append(x.parting(k, 2)).append(' ');
    for (int k = 0; k < 2; k++) text.append(told(x, k)).append(' ');
    for (int kind = 0; kind < 3; kind++) text.append(x.trees(0, kind)).append(' ');
    text.append("fits ");
    for (int day : new int[] {0, 10, 20}) text.append(x.fits(0, 1, day)).append(' ').append(x.fitting(0, 1, day, 0)).append(' ');
    text.append("out ");
    for (int i = 0; i < 9; i++) text.append(x.letter(i)).append(' ');
    text.append("row ").append(x.joined()).append(' ');
    for (int i = 0; i < 9; i++) text.append(x.letter(i)).append(' ');
    text.append(x.joins(1, 0)).append(' ').append(x.row(10)).append(" tape ");
    lookAtTape(x, text);
    text.append(" step ").append(x.step(0)).append(" tables ");
    for (int i = 0; i < 4; i++) text.append(x.meets(i / 2, i % 2, true)).append(x.becomes(i / 2, i % 2, NONE)).append(' ');
    text.append("undo ");
    for (int i = 0; i < 31; i++) {
      text.append(x.undo()).append(x.about(0, 2)).append(' ');
    }
    return text.toString();
  }

  /** Its first 8 bytes as a form, where one more is to be had. */
  private static void lookAtTape(JoinBench x, StringBuilder text) {
    x.end(Math.min(8, x.count(2)));
    int form = x.form(0, 0, 0, true);
    text.append(form).append(' ').append(x.joins(form, NONE)).append(' ').append(x.joined()).append(' ');
    for (int i = 0; i < 8; i++) text.append(x.letter(i)).append(' ');
  }

  private static void alike(int promise, String name, long want, Supplier<JoinBench> maker, Call call, boolean emptied) {
    int before = wrong();
    ofPromise(promise);
    JoinBench x = maker.get(), twin = maker.get();
    due(name, call.on(x), want);
    if (emptied) twin.end(0);
    due("behind " + name + " all", look(x), look(twin));
    if (wrong() == before) passed++; else failed++;
  }

  private static void nothing(int promise, String name, long want, Supplier<JoinBench> maker, Call call) {
    alike(promise, name, want, maker, call, false);
  }

  private static void tapeAlone(int promise, String name, Supplier<JoinBench> maker, Call call) {
    alike(promise, name, NONE, maker, call, true);
  }

  private static void tapeCalls() {
    nothing(2, "feed to 80", NONE, RefusalTests::full, x -> x.feed(1, 2, 3, 4, 5));
    nothing(3, "end 6 of 5", NONE, RefusalTests::rich, x -> x.end(6));
    nothing(3, "end -1", NONE, RefusalTests::rich, x -> x.end(-1));
    nothing(3, "end 61 of 60", NONE, RefusalTests::full, x -> x.end(61));
    nothing(3, "end 5 of 5", 5, RefusalTests::rich, x -> x.end(5));
    tapeAlone(4, "kind 6", RefusalTests::rich, x -> x.form(6, 0, 0, false));
    tapeAlone(4, "stem 20", RefusalTests::rich, x -> x.form(0, 20, 0, false));
    tapeAlone(4, "cost 100", RefusalTests::rich, x -> x.form(0, 0, 100, false));
    tapeAlone(4, "form 40", RefusalTests::full, x -> { x.end(1); return x.form(0, 0, 0, false); });
    tapeAlone(4, "no letters", RefusalTests::made, x -> x.form(0, 0, 0, false));
    tapeAlone(5, "end 4", RefusalTests::rich, x -> x.rule(4, 0, 0, 0, 0));
    tapeAlone(5, "beginning -1", RefusalTests::rich, x -> x.rule(1, -1, 0, 0, 0));
    tapeAlone(5, "both empty", RefusalTests::rich, x -> x.rule(0, 0, 0, 0, 0));
    tapeAlone(5, "cost 100", RefusalTests::rich, x -> x.rule(1, 1, 100, 0, 0));
    tapeAlone(5, "day 1000", RefusalTests::rich, x -> x.rule(1, 1, 0, 0, 1000));
    tapeAlone(5, "first behind last", RefusalTests::rich, x -> x.rule(1, 1, 0, 1, 0));
    tapeAlone(5, "rule 24", RefusalTests::full, x -> { x.end(1); return x.rule(1, 0, 0, 0, 0); });
    nothing(15, "back to more than 60", NONE, RefusalTests::full, JoinBench::back);
    nothing(15, "back of nothing", 0, RefusalTests::made, JoinBench::back);
    tapeAlone(16, "day 1000", RefusalTests::rich, x -> x.part(1000));
    tapeAlone(16, "day -1", RefusalTests::rich, x -> x.part(-1));
    tapeAlone(16, "a line of 60", RefusalTests::full, x -> x.part(0));
    tapeAlone(16, "no letter", RefusalTests::rich, x -> { write(x, "deva!"); return x.part(10); });
    tapeAlone(16, "an empty line", RefusalTests::rich, x -> { x.end(0); return x.part(10); });
    tapeAlone(16, "ahead of any", RefusalTests::made, x -> x.part(0));
  }

  private static void changingCalls() {
    nothing(6, "cost 100", NONE, RefusalTests::rich, x -> x.cost(0, 100));
    nothing(6, "cost -1", NONE, RefusalTests::rich, x -> x.cost(0, -1));
    nothing(6, "no form", NONE, RefusalTests::rich, x -> x.cost(5, 1));
    nothing(6, "form 40", NONE, RefusalTests::full, x -> x.cost(40, 1));
    nothing(7, "kind 6", 0, RefusalTests::rich, x -> x.meets(0, 6, false) ? 1 : 0);
    nothing(7, "kind -1", 0, RefusalTests::rich, x -> x.meets(-1, 1, false) ? 1 : 0);
    nothing(7, "may not already", 0, RefusalTests::rich, x -> x.meets(1, 1, false) ? 1 : 0);
    nothing(8, "first 6", -2, RefusalTests::rich, x -> x.becomes(6, 0, 0));
    nothing(8, "second -1", -2, RefusalTests::rich, x -> x.becomes(1, -1, 0));
    nothing(8, "kind 6", -2, RefusalTests::rich, x -> x.becomes(0, 1, 6));
    nothing(8, "kind -2", -2, RefusalTests::rich, x -> x.becomes(0, 1, -2));
    nothing(11, "day -1", NONE, RefusalTests::rich, x -> x.row(-1));
    nothing(11, "day 1000", NONE, RefusalTests::full, x -> x.row(1000));
    nothing(12, "there are 40", NONE, RefusalTests::full, x -> x.joins(0, 0));
    nothing(12, "no such form", NONE, RefusalTests::rich, x -> x.joins(5, NONE));
    nothing(12, "no such rule", NONE, RefusalTests::rich, x -> x.joins(1, 2));
    nothing(12, "a rule that doesn't fit", NONE, RefusalTests::rich, x -> x.joins(1, 1));
    nothing(12, "PLAIN where one fits", NONE, RefusalTests::rich, x -> x.joins(1, NONE));
    nothing(12, "no letter would stay", NONE, RefusalTests::worn, x -> x.joins(0, 1));
    nothing(13, "joined anew", 8, RefusalTests::rich, JoinBench::joined);
    nothing(22, "no such parting", NONE, RefusalTests::rich, x -> x.choose(8));
    nothing(22, "parting -1", NONE, RefusalTests::full, x -> x.choose(-1));
    nothing(22, "ahead of any part", NONE, RefusalTests::made, x -> x.choose(0));
    nothing(23, "without a choice", 0, RefusalTests::made, x -> x.undo() ? 1 : 0);
    nothing(23, "a choice and undone", 1, RefusalTests::rich, x -> { x.choose(0); return x.undo() ? 1 : 0; });
    nothing(24, "step 21", NONE, RefusalTests::rich, x -> x.step(21));
    nothing(24, "step -1", NONE, RefusalTests::full, x -> x.step(-1));
  }

  private static void tellingCalls() {
    nothing(9, "fits", 1, RefusalTests::rich, x -> x.fits(0, 1, 10));
    nothing(9, "no form", NONE, RefusalTests::rich, x -> x.fits(0, 5, 10));
    nothing(10, "fitting", 23, RefusalTests::full, x -> x.fitting(0, 1, 10, 23));
    nothing(10, "no such one", NONE, RefusalTests::full, x -> x.fitting(0, 1, 11, 23));
    nothing(14, "letter", 'd', RefusalTests::rich, x -> x.letter(0));
    nothing(14, "no letter", NONE, RefusalTests::rich, x -> x.letter(8));
    nothing(17, "parted", NONE, RefusalTests::made, x -> x.parted(0));
    nothing(17, "another what", NONE, RefusalTests::rich, x -> x.parted(4));
    nothing(18, "parting", 0, RefusalTests::rich, x -> x.parting(0, 2));
    nothing(18, "no parting", NONE, RefusalTests::rich, x -> x.parting(8, 0));
    nothing(19, "no form", NONE, RefusalTests::rich, x -> x.formOf(0, 40));
    nothing(20, "no rule", NONE, RefusalTests::rich, x -> x.ruleOf(0, 40));
    nothing(21, "no trees", NONE, RefusalTests::rich, x -> x.trees(0, 6));
    nothing(21, "trees", NONE, RefusalTests::made, x -> x.trees(0, 0));
    nothing(25, "no stem", NONE, RefusalTests::rich, x -> x.uses(20));
    nothing(26, "no form", NONE, RefusalTests::full, x -> x.about(40, 0));
    nothing(27, "another what", NONE, RefusalTests::full, x -> x.count(8));
  }

  public static void main(String[] args) {
    due("what is seen of two objects made alike", look(rich()), look(rich()));
    tapeCalls();
    changingCalls();
    tellingCalls();
    System.out.println(passed + " passed, " + failed + " failed");
    if (failed != 0 || wrong() != 0) System.exit(1);
  }
}

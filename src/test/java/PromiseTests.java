/** For each promise of the document its ordinary answers, its edges and wrong inputs, told out by hand. */
public final class PromiseTests extends Hand {
  private static void newObject() {
    JoinBench x = new JoinBench();
    due("NONE", JoinBench.NONE, -1);
    for (int what : new int[] {0, 1, 2, 3, 4, 5, 7}) due("count " + what, x.count(what), 0);
    due("count 6", x.count(6), 1);
    for (int what = 0; what < 4; what++) due("parted " + what, x.parted(what), NONE);
    due("about", x.about(0, 0), NONE);
    due("parting", x.parting(0, 0), NONE);
    due("formOf", x.formOf(0, 0), NONE);
    due("ruleOf", x.ruleOf(0, 0), NONE);
    due("trees", x.trees(0, 0), NONE);
    due("choose", x.choose(0), NONE);
    due("undo", x.undo(), false);
    due("fits", x.fits(0, 0, 0), NONE);
    due("letter", x.letter(0), NONE);
    due("joined", x.joined(), 0);
    due("back", x.back(), 0);
    due("joins", x.joins(0, NONE), NONE);
    due("a line without forms", part(x, "a", 0), 0);
    due("its partings", x.parted(3), 0);
    due("its LEFT", x.parted(2), 0);
    JoinBench other = temple();
    due("objects share nothing", x.count(0), 0);
    due("the other one's forms", other.count(0), 4);
  }

  private static void feed() {
    JoinBench x = new JoinBench();
    due("feed", x.feed(0x61626364, 0, -1, LOW, HIGH), 20);
    due("feed", x.feed(0, 0, 0, 0, 0), 40);
    due("feed to 60", x.feed(0, 0, 0, 0, 0), 60);
    due("feed to 80", x.feed(0, 0, 0, 0, 0), NONE);
    due("bytes", x.count(2), 60);
    x.end(41);
    due("feed to 61", x.feed(0, 0, 0, 0, 0), NONE);
    due("bytes", x.count(2), 41);
    x.end(40);
    due("feed to 60 again", x.feed(0, 0, 0, 0, 0), 60);
    x.end(0);
    x.feed(0x61626364, 0x65666768, 0, 0, 0);
    x.end(8);
    due("the highest byte comes first", x.form(0, 0, 0, false), 0);
    x.joins(0, NONE);
    dueOut("its letters", x, "abcdefgh");
    x.feed(0, 0, 0, 0, 0x61626364);
    due("bytes behind letters", part(x, "ab\0", 0), NONE);
    x.end(0);
    x.feed(0x61616161, 0x61616161, 0x61616161, 0x61616161, 0x61616162);
    x.end(20);
    due("all five numbers come", x.part(0), 0);
  }

  private static void end() {
    JoinBench x = new JoinBench();
    due("end of nothing", x.end(0), 0);
    due("end beyond", x.end(1), NONE);
    x.feed(0x61626364, 0, 0, 0, 0);
    due("end below 0", x.end(-1), NONE);
    due("end far below", x.end(LOW), NONE);
    due("end beyond", x.end(21), NONE);
    due("end far beyond", x.end(HIGH), NONE);
    due("bytes", x.count(2), 20);
    due("end at all", x.end(20), 20);
    due("end", x.end(3), 3);
    due("bytes", x.count(2), 3);
    due("what was cut off is gone", x.end(4), NONE);
    due("the first bytes stay", x.form(0, 0, 0, false), 0);
    x.joins(0, NONE);
    dueOut("they", x, "abc");
  }

  private static void form() {
    JoinBench x = new JoinBench();
    due("form", form(x, "az", 5, 19, 99, true), 0);
    due("the tape", x.count(2), 0);
    due("same letters", form(x, "az", 0, 0, 0, false), 1);
    due("8 letters", form(x, "abcdefgh", 0, 0, 0, false), 2);
    due("9 letters", form(x, "abcdefghi", 0, 0, 0, false), NONE);
    due("the tape is empty, too", x.count(2), 0);
    due("no letters", x.form(0, 0, 0, false), NONE);
    for (String text : new String[] {"A", "`", "{", "a ", "\0a", "a\u00e1", "\u00ff"})
      due("form of " + text, form(x, text, 0, 0, 0, false), NONE);
    for (int bad : new int[] {-1, 6, LOW, HIGH}) due("kind " + bad, form(x, "a", bad, 0, 0, false), NONE);
    for (int bad : new int[] {-1, 20, LOW, HIGH}) due("stem " + bad, form(x, "a", 0, bad, 0, false), NONE);
    for (int bad : new int[] {-1, 100, LOW, HIGH}) due("cost " + bad, form(x, "a", 0, 0, bad, false), NONE);
    due("the tape is empty behind a wrong cost", x.count(2), 0);
    due("forms", x.count(0), 3);
    for (int i = 3; i < 40; i++) due("form " + i, form(x, "b", 0, 0, 0, false), i);
    due("form 40", form(x, "b", 0, 0, 0, false), NONE);
    due("forms", x.count(0), 40);
    due("the tape", x.count(2), 0);
  }

  private static void rule() {
    JoinBench x = new JoinBench();
    due("rule", rule(x, "abc", "def", "ghij", 99, 0, 999), 0);
    due("the tape", x.count(2), 0);
    due("nothing comes", rule(x, "a", "", "", 0, 5, 5), 1);
    due("no end", rule(x, "", "a", "", 0, 5, 5), 2);
    due("both empty", rule(x, "", "", "a", 0, 0, 0), NONE);
    due("the tape is empty, too", x.count(2), 0);
    due("five come", rule(x, "a", "b", "abcde", 0, 0, 0), NONE);
    due("nothing on the tape", x.rule(1, 0, 0, 0, 0), NONE);
    write(x, "abc");
    due("longer than the tape", x.rule(2, 2, 0, 0, 0), NONE);
    for (int bad : new int[] {-1, 4, LOW, HIGH}) {
      write(x, "abcd");
      due("end " + bad, x.rule(bad, 1, 0, 0, 0), NONE);
      write(x, "abcd");
      due("beginning " + bad, x.rule(1, bad, 0, 0, 0), NONE);
    }
    for (int bad : new int[] {-1, 100, LOW, HIGH}) due("cost " + bad, rule(x, "a", "b", "", bad, 0, 0), NONE);
    for (int bad : new int[] {-1, 1000, LOW, HIGH}) {
      due("first " + bad, rule(x, "a", "b", "", 0, bad, 999), NONE);
      due("last " + bad, rule(x, "a", "b", "", 0, 0, bad), NONE);
    }
    due("first behind last", rule(x, "a", "b", "", 0, 6, 5), NONE);
    due("no letters", rule(x, "a", "B", "", 0, 0, 0), NONE);
    due("none that comes", rule(x, "a", "b", "{", 0, 0, 0), NONE);
    due("rules", x.count(1), 3);
    for (int i = 3; i < 24; i++) due("rule " + i, rule(x, "a", "b", "", 0, 0, 0), i);
    due("rule 24", rule(x, "a", "b", "", 0, 0, 0), NONE);
    due("rules", x.count(1), 24);
    due("the tape", x.count(2), 0);
  }

  private static void cost() {
    JoinBench x = temple();
    due("cost", x.cost(1, 99), 7);
    due("about", x.about(1, 2), 99);
    due("cost again", x.cost(1, 0), 99);
    for (int bad : new int[] {-1, 100, LOW, HIGH}) due("cost " + bad, x.cost(1, bad), NONE);
    for (int bad : new int[] {-1, 4, 40, LOW, HIGH}) due("form " + bad, x.cost(bad, 1), NONE);
    due("about", x.about(1, 2), 0);
    due("others", x.about(0, 2), 5);
    part(x, "devalaya", 10);
    due("from now on", x.parting(0, 0), 8);
    x.cost(0, 50);
    due("what was told stays", x.parting(0, 0), 8);
  }

  private static void meets() {
    JoinBench x = ayes(2, 2);
    due("may already", x.meets(0, 1, true), false);
    due("may not", x.meets(0, 1, false), true);
    due("may not already", x.meets(0, 1, false), false);
    due("others may", x.meets(1, 0, true), false);
    due("part", part(x, "aa", 0), 3);
    due("uncut", x.parted(0), 4);
    due("may again", x.meets(0, 1, true), true);
    due("part", part(x, "aa", 0), 4);
    due("the last kinds", x.meets(5, 5, false), true);
    for (int bad : new int[] {-1, 6, LOW, HIGH}) {
      due("first " + bad, x.meets(bad, 0, false), false);
      due("second " + bad, x.meets(0, bad, false), false);
    }
  }

  private static void becomes() {
    JoinBench x = new JoinBench();
    due("none at first", x.becomes(0, 1, 5), NONE);
    due("what it was", x.becomes(0, 1, 0), 5);
    due("the other way round", x.becomes(1, 0, 2), NONE);
    due("none", x.becomes(0, 1, NONE), 0);
    due("none again", x.becomes(0, 1, 3), NONE);
    for (int bad : new int[] {-1, 6, LOW, HIGH}) {
      due("first " + bad, x.becomes(bad, 0, 0), -2);
      due("second " + bad, x.becomes(0, bad, 0), -2);
    }
    for (int bad : new int[] {-2, 6, LOW, HIGH}) due("kind " + bad, x.becomes(0, 1, bad), -2);
    due("unchanged", x.becomes(0, 1, 3), 3);
  }

  private static void fits() {
    JoinBench x = temple();
    due("ahead of the days", x.fits(0, 1, 9), 0);
    due("the first day", x.fits(0, 1, 10), 1);
    due("the last day", x.fits(0, 1, 20), 1);
    due("behind the days", x.fits(0, 1, 21), 0);
    due("another end", x.fits(2, 1, 10), 1);
    due("another beginning", x.fits(0, 2, 10), 0);
    due("KEPT behind", x.fits(0, 3, 10), 0);
    due("KEPT ahead", x.fits(3, 1, 10), 0);
    rule(x, "eva", "ala", "", 1, 0, 999);
    rule(x, "", "a", "o", 1, 0, 999);
    rule(x, "a", "", "o", 1, 15, 15);
    due("several", x.fits(0, 1, 15), 4);
    due("fewer", x.fits(0, 1, 9), 2);
    due("a new form", form(x, "va", 0, 0), 4);
    due("an end longer than the form", x.fits(4, 1, 9), 1);
    due("a whole form may be the end", rule(x, "va", "dev", "", 0), 5);
    due("it fits", x.fits(4, 2, 0), 1);
    for (int bad : new int[] {-1, 5, 40, LOW, HIGH}) {
      due("first " + bad, x.fits(bad, 1, 10), NONE);
      due("second " + bad, x.fits(0, bad, 10), NONE);
    }
    for (int bad : new int[] {-1, 1000, LOW, HIGH}) due("day " + bad, x.fits(0, 1, bad), NONE);
  }

  private static void fitting() {
    JoinBench x = temple();
    rule(x, "", "a", "o", 1, 0, 999);
    rule(x, "a", "", "o", 1, 15, 15);
    int[] want = {0, 2, 3};
    for (int k = 0; k < 3; k++) due("fitting " + k, x.fitting(0, 1, 15, k), want[k]);
    for (int bad : new int[] {-1, 3, LOW, HIGH}) due("fitting " + bad, x.fitting(0, 1, 15, bad), NONE);
    due("another day", x.fitting(0, 1, 9, 0), 2);
    due("another day's second", x.fitting(0, 1, 9, 1), NONE);
    due("PLAIN", x.fitting(0, 2, 9, 0), NONE);
    due("no form", x.fitting(4, 1, 15, 0), NONE);
    due("no form", x.fitting(0, -1, 15, 0), NONE);
    due("no day", x.fitting(0, 1, 1000, 0), NONE);
  }

  private static void row() {
    JoinBench x = temple();
    due("row", x.row(10), 0);
    x.joins(0, NONE);
    x.joins(1, 0);
    for (int bad : new int[] {-1, 1000, LOW, HIGH}) due("row " + bad, x.row(bad), NONE);
    due("nothing happened", x.count(4), 2);
    due("row", x.row(999), 2);
    due("empty", x.count(4), 0);
    due("row again", x.row(0), 0);
    x.joins(0, NONE);
    due("the new day holds", x.joins(1, NONE), 2);
    x.row(20);
    x.joins(0, NONE);
    x.row(-1);
    due("the day stays", x.joins(1, 0), 2);
  }

  private static void joins() {
    JoinBench x = temple();
    due("no form", x.joins(4, NONE), NONE);
    due("no form", x.joins(-1, NONE), NONE);
    due("of no matter", x.joins(0, HIGH), 1);
    due("day 0: rule 0 doesn't fit", x.joins(1, 0), NONE);
    due("day 0: PLAIN", x.joins(1, NONE), 2);
    x.row(15);
    x.joins(0, LOW);
    due("PLAIN where one fits", x.joins(1, NONE), NONE);
    due("one that doesn't fit", x.joins(1, 1), NONE);
    for (int bad : new int[] {-2, 2, 24, 31, 32, LOW, HIGH}) due("rule " + bad, x.joins(1, bad), NONE);
    due("nothing happened", x.count(4), 1);
    due("one that fits", x.joins(1, 0), 2);
    due("alaya behind alaya", x.joins(1, 0), 3);
    due("KEPT is PLAIN", x.joins(3, NONE), 4);
    due("KEPT by a rule", x.joins(1, 0), NONE);
    JoinBench y = new JoinBench();
    form(y, "aba", 0, 0);
    form(y, "ab", 0, 0);
    form(y, "ba", 0, 0);
    rule(y, "ba", "", "", 0);
    rule(y, "", "ab", "", 0);
    rule(y, "a", "", "", 0);
    y.joins(0, NONE);
    due("no letter of the next one stays", y.joins(1, 1), NONE);
    due("one of each stays", y.joins(0, 1), 2);
    due("beginning and end take more than all", y.joins(0, 0), NONE);
    due("beginning and end take all", y.joins(0, 2), NONE);
    due("where a rule fits PLAIN is not", y.joins(0, NONE), NONE);
    y.row(0);
    y.joins(2, NONE);
    due("no letter of the first one stays", y.joins(2, 0), NONE);
    due("one letter stays", y.joins(2, 2), 2);
    JoinBench z = ayes(1, 1);
    for (int i = 1; i <= 40; i++) due("joins " + i, z.joins(0, NONE), i);
    due("joins 41", z.joins(0, NONE), NONE);
    due("forms of the row", z.count(4), 40);
  }

  private static void joined() {
    JoinBench x = temple();
    dueOut("an empty row", x, "");
    x.row(10);
    x.joins(0, NONE);
    dueOut("one form", x, "deva");
    x.joins(1, 0);
    dueOut("by a rule", x, "devalaya");
    x.joins(3, NONE);
    dueOut("PLAIN", x, "devalayaa");
    x.row(0);
    x.joins(2, NONE);
    x.joins(1, 1);
    x.joins(0, NONE);
    dueOut("both", x, "devyalayadeva");
    due("letters", x.joined(), 13);
    JoinBench y = new JoinBench();
    form(y, "abcdefgh", 0, 0);
    rule(y, "h", "", "wxyz", 0);
    for (int i = 0; i < 40; i++) y.joins(0, 0);
    due("a long row", y.joined(), 40 * 7 + 1 + 39 * 4);
    due("its last letter", y.letter(436), 'h');
    due("behind it", y.letter(437), NONE);
    JoinBench z = new JoinBench();
    form(z, "abcde", 0, 0);
    rule(z, "de", "ab", "", 0);
    z.joins(0, 0);
    z.joins(0, 0);
    z.joins(0, 0);
    dueOut("cut at both ends", z, "abcccde");
    rule(z, "e", "a", "o", 0);
    dueOut("a rule that came later", z, "abcccde");
  }

  private static void letter() {
    JoinBench x = temple();
    x.joins(2, NONE);
    due("ahead of joined", x.letter(0), NONE);
    x.joined();
    due("letter 0", x.letter(0), 'd');
    due("letter 3", x.letter(3), 'i');
    for (int bad : new int[] {-1, 4, 480, LOW, HIGH}) due("letter " + bad, x.letter(bad), NONE);
    x.row(0);
    due("OUT stays", x.letter(1), 'e');
    x.joined();
    due("until it is joined anew", x.letter(1), NONE);
  }

  private static void back() {
    JoinBench x = temple();
    due("OUT is empty", x.back(), 0);
    x.joins(2, NONE);
    x.joins(1, 1);
    x.joined();
    due("back", x.back(), 9);
    due("back again", x.back(), 18);
    due("OUT stays", x.count(3), 9);
    x.end(9);
    due("the letters are a line", x.part(0), 1);
    x.feed(0, 0, 0, 0, 0);
    x.feed(0, 0, 0, 0, 0);
    x.feed(0, 0, 0, 0, 0);
    x.end(52);
    due("back to 61", x.back(), NONE);
    due("nothing happened", x.count(2), 52);
    x.end(51);
    due("back to 60", x.back(), 60);
    JoinBench y = new JoinBench();
    form(y, "abcdefgh", 0, 0);
    for (int i = 0; i < 8; i++) y.joins(0, NONE);
    y.joined();
    due("64 letters", y.back(), NONE);
  }

  private static void part() {
    JoinBench x = temple();
    due("by a rule", part(x, "devalaya", 10), 1);
    due("the tape", x.count(2), 0);
    due("PLAIN is not where a rule fits", part(x, "devaalaya", 10), 0);
    due("PLAIN on another day", part(x, "devaalaya", 9), 1);
    due("one form", part(x, "devi", 9), 1);
    due("empty", x.part(0), NONE);
    due("nothing else happens", x.parted(1), 1);
    for (int bad : new int[] {-1, 1000, LOW, HIGH}) {
      due("day " + bad, part(x, "deva", bad), NONE);
      due("the tape", x.count(2), 0);
    }
    due("no letters", part(x, "dev@", 0), NONE);
    due("the tape", x.count(2), 0);
    due("nothing else happened", x.parted(1), 1);
    JoinBench y = ayes(2, 1);
    due("40 letters", part(y, times('a', 40), 0), 1L << 40);
    due("41 letters", part(y, times('a', 41), 0), NONE);
    due("the tape", y.count(2), 0);
    due("still told", y.parted(1), 1L << 40);
    JoinBench z = ayes(10, 1);
    due("just below", part(z, times('a', 14), 0), MOST / 10);
    due("just so many", part(z, times('a', 15), 0), MOST);
    due("more is that", part(z, times('a', 16), 0), MOST);
    due("far more is that", part(z, times('a', 40), 999), MOST);
    JoinBench whole = new JoinBench();
    form(whole, "ab", 0, 0);
    rule(whole, "ab", "", "a", 0);
    due("a form whose letters all go", part(whole, "aab", 0), 0);
    due("nor PLAIN", part(whole, "abab", 0), 0);
    due("alone it stands", part(whole, "ab", 0), 1);
  }

  private static void parted() {
    JoinBench x = ayes(2, 2);
    x.meets(0, 0, false);
    x.meets(1, 1, false);
    due("part", part(x, times('a', 40), 0), 2);
    long[] want = {1L << 40, 2, 0, 2};
    for (int what = 0; what < 4; what++) due("parted " + what, x.parted(what), want[what]);
    for (int bad : new int[] {-1, 4, LOW, HIGH}) due("parted " + bad, x.parted(bad), NONE);
    x.meets(0, 1, false);
    x.meets(1, 0, false);
    due("what was told stays", x.parted(1), 2);
    due("all would be cut", part(x, "aaaa", 0), 16);
    long[] left = {16, 16, 1, 8};
    for (int what = 0; what < 4; what++) due("LEFT: parted " + what, x.parted(what), left[what]);
    due("one form meets none", part(x, "a", 0), 2);
    due("not LEFT", x.parted(2), 0);
    due("no parting", part(x, "b", 0), 0);
    for (int what = 0; what < 4; what++) due("of none: parted " + what, x.parted(what), 0);
    JoinBench y = temple();
    y.meets(0, 1, false);
    due("kinds meet by a rule, too", part(y, "devalaya", 10), 1);
    due("LEFT", y.parted(2), 1);
    JoinBench z = ayes(10, 2);
    z.meets(1, 0, false);
    due("both counts at most", part(z, times('a', 40), 0), MOST);
    due("uncut", z.parted(0), MOST);
    due("eight told", z.parted(3), 8);
  }

  private static void parting() {
    JoinBench x = new JoinBench();
    form(x, "ab", 0, 9);
    form(x, "a", 0, 3);
    form(x, "b", 0, 4);
    form(x, "b", 0, 6);
    due("part", part(x, "ab", 0), 3);
    int[] costs = {7, 9, 9}, forms = {2, 1, 2};
    for (int k = 0; k < 3; k++) {
      due("cost of " + k, x.parting(k, 0), costs[k]);
      due("forms of " + k, x.parting(k, 1), forms[k]);
      due("less that of the first " + k, x.parting(k, 2), costs[k] - 7);
    }
    dueTold(x, 0, "1-2");
    dueTold(x, 1, "0");
    dueTold(x, 2, "1-3");
    for (int bad : new int[] {-1, 3, LOW, HIGH}) {
      due("parting " + bad, x.parting(bad, 0), NONE);
      due("what " + bad, x.parting(0, bad), NONE);
    }
    JoinBench y = ayes(3, 1);
    part(y, "aa", 0);
    String[] want = {"0-0", "0-1", "0-2", "1-0", "1-1", "1-2", "2-0", "2-1"};
    for (int k = 0; k < 8; k++) dueTold(y, k, want[k]);
    due("the ninth is not told", y.parting(8, 0), NONE);
    due("but counted", y.parted(1), 9);
    JoinBench ends = new JoinBench();
    form(ends, "xab", 0, 0);
    form(ends, "ab", 0, 0);
    rule(ends, "ab", "", "", 0);
    due("a row that goes on", part(ends, "xab", 0), 2);
    dueTold(ends, 0, "0");
    dueTold(ends, 1, "0/0/1");
    JoinBench between = new JoinBench();
    form(between, "a", 0, 0);
    form(between, "ba", 0, 0);
    form(between, "a", 0, 0, 0, true);
    rule(between, "a", "b", "b", 1);
    rule(between, "", "b", "b", 1);
    rule(between, "", "b", "b", 0);
    due("rules by costs and numbers", part(between, "aba", 0), 3);
    dueTold(between, 0, "0/2/1");
    dueTold(between, 1, "2-1");
    dueTold(between, 2, "0/1/1");
    due("a rule costs", between.parting(2, 2), 1);
    JoinBench plain = new JoinBench();
    form(plain, "a", 0, 0);
    form(plain, "xc", 0, 0);
    form(plain, "bc", 0, 0);
    rule(plain, "", "x", "b", 0);
    due("PLAIN and a rule behind one form", part(plain, "abc", 0), 2);
    dueTold(plain, 0, "0-2");
    dueTold(plain, 1, "0/0/1");
  }

  private static void formOf() {
    JoinBench x = temple();
    part(x, "devyalayadeva", 0);
    int[] want = {2, 1, 0};
    for (int i = 0; i < 3; i++) due("form " + i, x.formOf(0, i), want[i]);
    for (int bad : new int[] {-1, 3, 40, LOW, HIGH}) {
      due("form " + bad, x.formOf(0, bad), NONE);
      due("parting " + bad, x.formOf(bad, 0), NONE);
    }
    due("parting 1", x.formOf(1, 0), NONE);
    JoinBench y = ayes(1, 1);
    part(y, times('a', 40), 0);
    due("form 39 of 40", y.formOf(0, 39), 0);
    due("form 40 of 40", y.formOf(0, 40), NONE);
    part(y, "b", 0);
    due("another line", y.formOf(0, 0), NONE);
  }

  private static void ruleOf() {
    JoinBench x = temple();
    part(x, "devyalayadeva", 0);
    int[] want = {NONE, 1, NONE};
    for (int i = 0; i < 3; i++) due("rule " + i, x.ruleOf(0, i), want[i]);
    for (int bad : new int[] {-1, 3, 40, LOW, HIGH}) {
      due("rule " + bad, x.ruleOf(0, bad), NONE);
      due("parting " + bad, x.ruleOf(bad, 1), NONE);
    }
    part(x, "devalaya", 10);
    due("another rule", x.ruleOf(0, 1), 0);
  }

  private static void trees() {
    JoinBench x = ayes(1, 1);
    part(x, "a", 0);
    due("a single form", x.trees(0, 0), 1);
    due("of its kind alone", x.trees(0, 1), 0);
    part(x, "aaaaa", 0);
    due("none at first", x.trees(0, 0), 0);
    x.becomes(0, 0, 0);
    due("by the table as it is now", x.trees(0, 0), 14);
    part(x, times('a', 29), 0);
    due("29 forms", x.trees(0, 0), 263747951750360L);
    part(x, times('a', 30), 0);
    due("30 forms", x.trees(0, 0), MOST);
    part(x, times('a', 40), 0);
    due("40 forms", x.trees(0, 0), MOST);
    due("of another kind", x.trees(0, 5), 0);
    for (int bad : new int[] {-1, 1, 8, LOW, HIGH}) due("parting " + bad, x.trees(bad, 0), NONE);
    for (int bad : new int[] {-1, 6, LOW, HIGH}) due("kind " + bad, x.trees(0, bad), NONE);
    JoinBench y = new JoinBench();
    form(y, "a", 0, 0);
    form(y, "b", 1, 0);
    form(y, "c", 2, 0);
    y.becomes(0, 1, 3);
    y.becomes(1, 2, 4);
    y.becomes(3, 2, 5);
    y.becomes(0, 4, 5);
    part(y, "abc", 0);
    due("both ways to one kind", y.trees(0, 5), 2);
    y.becomes(0, 4, 0);
    due("one way", y.trees(0, 5), 1);
    due("the other way", y.trees(0, 0), 1);
    y.becomes(0, 4, NONE);
    due("no way", y.trees(0, 0), 0);
    part(y, "cb", 0);
    due("order matters", y.trees(0, 4), 0);
  }

  private static void choose() {
    JoinBench x = temple();
    part(x, "devyalayadevi", 0);
    x.step(3);
    due("no such parting", x.choose(1), NONE);
    due("no such parting", x.choose(-1), NONE);
    due("nothing happened", x.count(5), 0);
    due("choose", x.choose(0), 1);
    due("once each", x.about(2, 2), 1);
    due("of each form", x.about(1, 2), 4);
    due("of no other", x.about(0, 2), 5);
    due("uses as often as it stands there", x.uses(3), 2);
    due("uses", x.uses(4), 1);
    due("choose", x.choose(0), 2);
    due("not below 0", x.about(2, 2), 0);
    due("falls again", x.about(1, 2), 1);
    due("what was told stays told", x.parting(0, 0), 4 + 2 + 7 + 4);
    x.step(0);
    due("a step of 0", x.choose(0), 3);
    due("costs nothing", x.about(1, 2), 1);
    due("counts uses", x.uses(3), 6);
    for (int i = 4; i <= 30; i++) due("choice " + i, x.choose(0), i);
    due("choice 31", x.choose(0), 30);
    for (int bad : new int[] {1, 8, LOW, HIGH}) due("parting " + bad, x.choose(bad), NONE);
    part(x, "zzz", 0);
    due("nothing told", x.choose(0), NONE);
  }

  private static void undo() {
    JoinBench x = temple();
    due("without one", x.undo(), false);
    part(x, "devyalaya", 0);
    x.choose(0);
    x.cost(0, 77);
    x.cost(2, 88);
    x.step(2);
    x.choose(0);
    due("choices", x.count(5), 2);
    due("undo", x.undo(), true);
    due("the last one first", x.about(2, 2), 88);
    due("other forms", x.about(0, 2), 77);
    due("uses", x.uses(3), 1);
    due("a form made since then", form(x, "new", 0, 0, 9, false), 4);
    due("undo", x.undo(), true);
    due("as it was", x.about(2, 2), 4);
    due("told anew since then", x.about(0, 2), 5);
    due("uses", x.uses(3), 0);
    due("the new one's cost", x.about(4, 2), 9);
    due("the step stays", x.count(6), 2);
    due("no more", x.undo(), false);
    x.cost(1, 99);
    x.step(1);
    for (int i = 0; i < 35; i++) x.choose(0);
    due("cost", x.about(1, 2), 64);
    for (int i = 0; i < 30; i++) due("undo " + i, x.undo(), true);
    due("older ones are forgotten", x.undo(), false);
    due("they hold", x.about(1, 2), 94);
    due("their uses, too", x.uses(4), 5);
    due("a new one", x.choose(0), 1);
    due("is undone", x.undo(), true);
    due("as it was", x.about(1, 2), 94);
  }

  private static void step() {
    JoinBench x = new JoinBench();
    due("1 at first", x.step(20), 1);
    due("what it was", x.step(0), 20);
    for (int bad : new int[] {-1, 21, LOW, HIGH}) due("step " + bad, x.step(bad), NONE);
    due("nothing happened", x.count(6), 0);
  }

  private static void uses() {
    JoinBench x = temple();
    for (int stem = 0; stem < 20; stem++) due("uses " + stem, x.uses(stem), 0);
    for (int bad : new int[] {-1, 20, LOW, HIGH}) due("uses " + bad, x.uses(bad), NONE);
    part(x, "a", 0);
    x.choose(0);
    due("the last stem", x.uses(19), 1);
    part(x, "aaa", 0);
    x.choose(0);
    due("three more", x.uses(19), 4);
    due("another stem", x.uses(3), 0);
  }

  private static void about() {
    JoinBench x = temple();
    int[] want = {1, 4, 7, 0, 5}, kept = {5, 19, 0, 1, 1};
    for (int what = 0; what < 5; what++) {
      due("alaya " + what, x.about(1, what), want[what]);
      due("a " + what, x.about(3, what), kept[what]);
    }
    for (int bad : new int[] {-1, 5, LOW, HIGH}) due("what " + bad, x.about(1, bad), NONE);
    for (int bad : new int[] {-1, 4, 40, LOW, HIGH}) due("form " + bad, x.about(bad, 0), NONE);
  }

  private static void count() {
    JoinBench x = temple();
    x.feed(0, 0, 0, 0, 0);
    x.row(10);
    x.joins(0, NONE);
    x.joins(1, 0);
    x.joined();
    x.joins(3, NONE);
    x.step(7);
    int[] want = {4, 2, 20, 8, 3, 0, 7, 15};
    for (int what = 0; what < 8; what++) due("count " + what, x.count(what), want[what]);
    for (int bad : new int[] {-1, 8, LOW, HIGH}) due("count " + bad, x.count(bad), NONE);
    x.cost(0, 50);
    due("cost of the row", x.count(7), 60);
    x.row(0);
    due("cost of an empty row", x.count(7), 0);
    due("OUT stays", x.count(3), 8);
    part(x, "deva", 0);
    x.choose(0);
    due("choices", x.count(5), 1);
    x.undo();
    due("choices", x.count(5), 0);
  }

  private static void run(int number) {
    ofPromise(number);
    switch (number) {
      case 1: newObject(); break;
      case 2: feed(); break;
      case 3: end(); break;
      case 4: form(); break;
      case 5: rule(); break;
      case 6: cost(); break;
      case 7: meets(); break;
      case 8: becomes(); break;
      case 9: fits(); break;
      case 10: fitting(); break;
      case 11: row(); break;
      case 12: joins(); break;
      case 13: joined(); break;
      case 14: letter(); break;
      case 15: back(); break;
      case 16: part(); break;
      case 17: parted(); break;
      case 18: parting(); break;
      case 19: formOf(); break;
      case 20: ruleOf(); break;
      case 21: trees(); break;
      case 22: choose(); break;
      case 23: undo(); break;
      case 24: step(); break;
      case 25: uses(); break;
      case 26: about(); break;
      default: count(); break;
    }
  }

  public static void main(String[] args) {
    for (int number = 1; number <= 27; number++) run(number);
    System.out.println(wrong() == 0 ? "all answers are as due" : wrong() + " answers are not as due");
    if (wrong() != 0) System.exit(1);
  }
}

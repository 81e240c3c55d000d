/**
 * Each boundary that the document names has a test of its own here, told by the promise's number and the document's
 * words (those under "Terms" count to the promise whose calls show them).
 */
public final class EdgeTests extends Hand {
  private static int passed = 0, failed = 0;

  private static void edge(int promise, String words, Runnable test) {
    int before = wrong();
    ofPromise(promise);
    test.run();
    if (wrong() == before) {
      passed++;
    } else {
      failed++;
      System.out.println("promise " + promise + ": not so: " + words);
    }
  }

  /** The forms of one letter each, the n-th with the n-th letter; PLAIN, of kind 0, at no cost. */
  private static JoinBench letters(String all) {
    JoinBench x = new JoinBench();
    for (int i = 0; i < all.length(); i++) form(x, all.substring(i, i + 1), 0, 0);
    return x;
  }

  /** "aba" whose end and beginning are in the rules a+.. (0), ..+a (1), ba+.. (2), ..+ab (3), aba+.. (4), ..+aba (5). */
  private static JoinBench abas() {
    JoinBench x = new JoinBench();
    form(x, "aba", 0, 0);
    rule(x, "a", "", "", 0);
    rule(x, "", "a", "", 0);
    rule(x, "ba", "", "", 0);
    rule(x, "", "ab", "", 0);
    rule(x, "aba", "", "", 0);
    rule(x, "", "aba", "", 0);
    return x;
  }

  private static void newObject() {
    edge(1, "No FORMS, no RULES", () -> {
      JoinBench x = new JoinBench();
      due("forms", x.count(0), 0);
      due("rules", x.count(1), 0);
      due("form 0", x.about(0, 0), NONE);
    });
    edge(1, "the TAPE, OUT, the ROW and the CHOICES are empty", () -> {
      JoinBench x = new JoinBench();
      for (int what : new int[] {2, 3, 4, 5, 7}) due("count " + what, x.count(what), 0);
    });
    edge(1, "all KINDS may meet at first", () -> {
      JoinBench x = new JoinBench();
      for (int i = 0; i < 36; i++) due("meets " + i, x.meets(i / 6, i % 6, true), false);
    });
    edge(1, "no KIND comes of two at first", () -> {
      JoinBench x = new JoinBench();
      for (int i = 0; i < 36; i++) due("becomes " + i, x.becomes(i / 6, i % 6, NONE), NONE);
    });
    edge(1, "without FORMS a LINE has no PARTING", () -> {
      JoinBench x = new JoinBench();
      due("part", part(x, "a", 0), 0);
      for (int what = 0; what < 4; what++) due("parted " + what, x.parted(what), 0);
    });
    edge(1, "one object knows nothing of another one", () -> {
      JoinBench x = new JoinBench(), y = temple();
      part(y, "deva", 0);
      y.choose(0);
      for (int what : new int[] {0, 1, 2, 3, 4, 5, 7}) due("count " + what, x.count(what), 0);
      due("uses", x.uses(3), 0);
      due("parted", x.parted(0), NONE);
    });
    edge(1, "at most 512 calls: the 512th answers as the first", () -> {
      JoinBench x = new JoinBench();
      for (int i = 1; i < 512; i++) x.step(i % 21);
      due("the 512th", x.step(3), 511 % 21);
    });
  }

  private static void feed() {
    edge(2, "Twenty bytes come: none fewer for zeros", () -> {
      JoinBench x = new JoinBench();
      due("feed", x.feed(0, 0, 0, 0, 0), 20);
    });
    edge(2, "just 60", () -> {
      JoinBench x = new JoinBench();
      for (int i = 1; i <= 3; i++) due("feed", x.feed(i, i, i, i, i), 20 * i);
    });
    edge(2, "it would have more than 60: from 60", () -> {
      JoinBench x = new JoinBench();
      for (int i = 0; i < 3; i++) x.feed(0, 0, 0, 0, 0);
      due("feed", x.feed(0, 0, 0, 0, 0), NONE);
      due("none comes", x.count(2), 60);
    });
    edge(2, "it would have more than 60: from 41, the first that is too many", () -> {
      JoinBench x = new JoinBench();
      for (int i = 0; i < 3; i++) x.feed(0, 0, 0, 0, 0);
      x.end(41);
      due("feed", x.feed(0, 0, 0, 0, 0), NONE);
      due("none comes", x.count(2), 41);
      x.end(40);
      due("from 40", x.feed(0, 0, 0, 0, 0), 60);
    });
    edge(2, "behind the TAPE: what was there stays ahead", () -> {
      JoinBench x = new JoinBench();
      x.feed(0x61620000, 0, 0, 0, 0);
      x.end(2);
      due("feed", x.feed(0x63646500, 0, 0, 0, 0), 22);
      x.end(5);
      x.form(0, 0, 0, false);
      x.joins(0, NONE);
      dueOut("the tape", x, "abcde");
    });
    edge(2, "of each number the highest first", () -> {
      JoinBench x = letters("abcdefghijklmnopqrst");
      x.feed(0x61626364, 0x65666768, 0x696a6b6c, 0x6d6e6f70, 0x71727374);
      due("part", x.part(0), 1);
      dueTold(x, 0, "0-1-2-3-4-5-6-7-8-9-10-11-12-13-14-15-16-17-18-19");
    });
    edge(2, "numbers below 0: their bytes are above 127 and no letters", () -> {
      JoinBench x = new JoinBench();
      x.feed(-1, -1, -1, -1, -1);
      x.end(1);
      due("form", x.form(0, 0, 0, false), NONE);
      x.feed(0xe1e1e1e1, 0, 0, 0, 0);
      x.end(4);
      due("a letter with the highest bit", x.form(0, 0, 0, false), NONE);
    });
    edge(2, "bytes that were cut off don't come again", () -> {
      JoinBench x = letters("ab");
      x.feed(0x61616161, 0, 0, 0, 0);
      x.end(1);
      x.feed(0x62626262, 0, 0, 0, 0);
      x.end(2);
      due("part", x.part(0), 1);
      dueTold(x, 0, "0-1");
    });
  }

  private static void end() {
    edge(3, "n of an empty TAPE: 0 alone", () -> {
      JoinBench x = new JoinBench();
      due("end 0", x.end(0), 0);
      due("end 1", x.end(1), NONE);
    });
    edge(3, "just as many as it has", () -> {
      JoinBench x = new JoinBench();
      x.feed(0, 0, 0, 0, 0);
      due("end 20", x.end(20), 20);
      due("bytes", x.count(2), 20);
    });
    edge(3, "it has not so many", () -> {
      JoinBench x = new JoinBench();
      x.feed(0, 0, 0, 0, 0);
      for (int n : new int[] {21, 60, HIGH}) due("end " + n, x.end(n), NONE);
      due("bytes", x.count(2), 20);
    });
    edge(3, "n is below 0", () -> {
      JoinBench x = new JoinBench();
      x.feed(0, 0, 0, 0, 0);
      for (int n : new int[] {-1, LOW}) due("end " + n, x.end(n), NONE);
      due("bytes", x.count(2), 20);
    });
    edge(3, "of a full TAPE", () -> {
      JoinBench x = new JoinBench();
      for (int i = 0; i < 3; i++) x.feed(0, 0, 0, 0, 0);
      due("end 61", x.end(61), NONE);
      due("end 60", x.end(60), 60);
      due("end 0", x.end(0), 0);
      due("bytes", x.count(2), 0);
    });
  }

  private static void form() {
    edge(4, "LETTERS are a to z", () -> {
      JoinBench x = new JoinBench();
      due("a and z", form(x, "az", 0, 0), 0);
      for (int bad : new int[] {0, ' ', 'A', 'Z', 'a' - 1, 'z' + 1, 127, 128, 'a' + 128, 255})
        for (String text : new String[] {(char) bad + "", (char) bad + "bcdefgh", "abcdefg" + (char) bad})
          due("byte " + bad, form(x, text, 0, 0), NONE);
      due("forms", x.count(0), 1);
    });
    edge(4, "1 to 8 LETTERS: 0 is too few", () -> {
      JoinBench x = new JoinBench();
      due("form", x.form(0, 0, 0, false), NONE);
      due("forms", x.count(0), 0);
    });
    edge(4, "1 to 8 LETTERS: both", () -> {
      JoinBench x = new JoinBench();
      due("1", form(x, "a", 0, 0), 0);
      due("8", form(x, "abcdefgh", 0, 0), 1);
      due("letters", x.about(0, 4), 1);
      due("letters", x.about(1, 4), 8);
    });
    edge(4, "1 to 8 LETTERS: 9, and a full TAPE, are too many", () -> {
      JoinBench x = new JoinBench();
      due("9", form(x, "abcdefghi", 0, 0), NONE);
      due("60", form(x, times('a', 60), 0, 0), NONE);
      due("the tape", x.count(2), 0);
      due("forms", x.count(0), 0);
    });
    edge(4, "a KIND (0 to 5)", () -> {
      JoinBench x = new JoinBench();
      for (int bad : new int[] {LOW, -1, 6, HIGH}) due("kind " + bad, form(x, "a", bad, 0), NONE);
      due("kind 0", form(x, "a", 0, 0), 0);
      due("kind 5", form(x, "a", 5, 0), 1);
      due("about", x.about(1, 0), 5);
    });
    edge(4, "a STEM (0 to 19)", () -> {
      JoinBench x = new JoinBench();
      for (int bad : new int[] {LOW, -1, 20, HIGH}) due("stem " + bad, form(x, "a", 0, bad, 0, false), NONE);
      due("stem 0", form(x, "a", 0, 0, 0, false), 0);
      due("stem 19", form(x, "a", 0, 19, 0, false), 1);
      due("about", x.about(1, 1), 19);
    });
    edge(4, "a COST (0 to 99)", () -> {
      JoinBench x = new JoinBench();
      for (int bad : new int[] {LOW, -1, 100, HIGH}) due("cost " + bad, form(x, "a", 0, bad), NONE);
      due("cost 0", form(x, "a", 0, 0), 0);
      due("cost 99", form(x, "a", 0, 99), 1);
      due("about", x.about(1, 2), 99);
    });
    edge(4, "there are 40", () -> {
      JoinBench x = new JoinBench();
      for (int i = 0; i < 40; i++) due("form", form(x, "a", 0, 0), i);
      due("form 40", form(x, "a", 0, 0), NONE);
      due("the tape is empty then, too", x.count(2), 0);
      due("forms", x.count(0), 40);
      due("about 39", x.about(39, 4), 1);
      due("about 40", x.about(40, 4), NONE);
    });
    edge(4, "something is not as told (the TAPE is empty then, too)", () -> {
      JoinBench x = new JoinBench();
      due("kind", form(x, "a", 6, 0), NONE);
      due("the tape", x.count(2), 0);
      due("stem", form(x, "a", 0, 20, 0, false), NONE);
      due("the tape", x.count(2), 0);
      due("cost", form(x, "a", 0, 100), NONE);
      due("the tape", x.count(2), 0);
      due("letters", form(x, "A", 0, 0), NONE);
      due("the tape", x.count(2), 0);
      due("a refused one takes no number", form(x, "a", 0, 0), 0);
    });
    edge(4, "two FORMS may have the same LETTERS", () -> {
      JoinBench x = ayes(2, 1);
      due("part", part(x, "a", 0), 2);
      dueTold(x, 0, "0");
      dueTold(x, 1, "1");
    });
  }

  private static void rule() {
    edge(5, "an END (0 to 3 LETTERS)", () -> {
      JoinBench x = new JoinBench();
      for (int bad : new int[] {LOW, -1, 4, HIGH}) {
        write(x, "abcde");
        due("end " + bad, x.rule(bad, 1, 0, 0, 0), NONE);
      }
      due("end 0", rule(x, "", "a", "", 0), 0);
      due("end 3", rule(x, "abc", "", "", 0), 1);
    });
    edge(5, "a BEGINNING (0 to 3)", () -> {
      JoinBench x = new JoinBench();
      for (int bad : new int[] {LOW, -1, 4, HIGH}) {
        write(x, "abcde");
        due("beginning " + bad, x.rule(1, bad, 0, 0, 0), NONE);
      }
      due("beginning 0", rule(x, "a", "", "", 0), 0);
      due("beginning 3", rule(x, "", "abc", "", 0), 1);
    });
    edge(5, "lengths whose sum would wrap around", () -> {
      JoinBench x = new JoinBench();
      int[][] pairs = {{HIGH, HIGH}, {LOW, LOW}, {HIGH, LOW}, {LOW, HIGH}, {-1, 2}, {2, -1}, {-3, 3}};
      for (int[] pair : pairs) {
        write(x, "ab");
        due("rule " + pair[0] + " " + pair[1], x.rule(pair[0], pair[1], 0, 0, 0), NONE);
        due("the tape", x.count(2), 0);
      }
      due("rules", x.count(1), 0);
    });
    edge(5, "not both empty", () -> {
      JoinBench x = new JoinBench();
      due("nothing at all", x.rule(0, 0, 0, 0, 0), NONE);
      due("something comes", rule(x, "", "", "ab", 0), NONE);
      due("rules", x.count(1), 0);
    });
    edge(5, "what COMES (0 to 4)", () -> {
      JoinBench x = new JoinBench();
      due("0 come", rule(x, "a", "b", "", 0), 0);
      due("4 come", rule(x, "a", "b", "cdef", 0), 1);
      due("5 come", rule(x, "a", "b", "cdefg", 0), NONE);
      due("a full tape", rule(x, "a", "b", times('c', 58), 0), NONE);
      due("the tape", x.count(2), 0);
      due("rules", x.count(1), 2);
    });
    edge(5, "the longest RULE: 3 and 3 and 4", () -> {
      JoinBench x = new JoinBench();
      due("rule", rule(x, "abc", "def", "ghij", 0), 0);
      due("one letter more", rule(x, "abc", "def", "ghijk", 0), NONE);
    });
    edge(5, "the first two as long as told: the TAPE has not so many", () -> {
      JoinBench x = new JoinBench();
      write(x, "abc");
      due("3 for 2 and 2", x.rule(2, 2, 0, 0, 0), NONE);
      due("the tape", x.count(2), 0);
      due("an empty tape", x.rule(1, 0, 0, 0, 0), NONE);
      write(x, "abcd");
      due("4 for 2 and 2", x.rule(2, 2, 0, 0, 0), 0);
    });
    edge(5, "LETTERS alone, in each part of it", () -> {
      JoinBench x = new JoinBench();
      for (int bad : new int[] {0, 'A', 'a' - 1, 'z' + 1, 'a' + 128, 255}) {
        due("end " + bad, rule(x, (char) bad + "", "b", "c", 0), NONE);
        due("beginning " + bad, rule(x, "a", (char) bad + "", "c", 0), NONE);
        due("comes " + bad, rule(x, "a", "b", (char) bad + "", 0), NONE);
      }
      due("z", rule(x, "z", "z", "z", 0), 0);
    });
    edge(5, "a COST (0 to 99)", () -> {
      JoinBench x = new JoinBench();
      for (int bad : new int[] {LOW, -1, 100, HIGH}) due("cost " + bad, rule(x, "a", "", "", bad), NONE);
      due("cost 0", rule(x, "a", "", "", 0), 0);
      due("cost 99", rule(x, "a", "", "", 99), 1);
    });
    edge(5, "from a DAY to a DAY (0 to 999)", () -> {
      JoinBench x = new JoinBench();
      for (int bad : new int[] {LOW, -1, 1000, HIGH}) {
        due("from " + bad, rule(x, "a", "", "", 0, bad, 999), NONE);
        due("to " + bad, rule(x, "a", "", "", 0, 0, bad), NONE);
        due("both " + bad, rule(x, "a", "", "", 0, bad, bad), NONE);
      }
      due("0 to 0", rule(x, "a", "", "", 0, 0, 0), 0);
      due("999 to 999", rule(x, "a", "", "", 0, 999, 999), 1);
      due("0 to 999", rule(x, "a", "", "", 0, 0, 999), 2);
    });
    edge(5, "first not behind last", () -> {
      JoinBench x = new JoinBench();
      due("1 to 0", rule(x, "a", "", "", 0, 1, 0), NONE);
      due("999 to 998", rule(x, "a", "", "", 0, 999, 998), NONE);
      due("5 to 5", rule(x, "a", "", "", 0, 5, 5), 0);
    });
    edge(5, "there are 24", () -> {
      JoinBench x = ayes(2, 1);
      for (int i = 0; i < 24; i++) due("rule", rule(x, "a", "", "", 0), i);
      due("rule 24", rule(x, "a", "", "", 0), NONE);
      due("the tape is empty then, too", x.count(2), 0);
      due("rules", x.count(1), 24);
      due("fits", x.fits(0, 1, 0), 24);
      due("the last one", x.fitting(0, 1, 0, 23), 23);
    });
    edge(5, "NONE likewise: the TAPE is empty then, too", () -> {
      JoinBench x = new JoinBench();
      due("cost", rule(x, "a", "", "", 100), NONE);
      due("the tape", x.count(2), 0);
      due("days", rule(x, "a", "", "", 0, 6, 5), NONE);
      due("the tape", x.count(2), 0);
      due("letters", rule(x, "A", "", "", 0), NONE);
      due("the tape", x.count(2), 0);
      due("a refused one takes no number", rule(x, "a", "", "", 0), 0);
    });
  }

  private static void cost() {
    edge(6, "0 and 99", () -> {
      JoinBench x = temple();
      due("cost 0", x.cost(1, 0), 7);
      due("cost 99", x.cost(1, 99), 0);
      due("about", x.about(1, 2), 99);
    });
    edge(6, "nothing happens, for others: COSTS", () -> {
      JoinBench x = temple();
      for (int bad : new int[] {LOW, -1, 100, HIGH}) due("cost " + bad, x.cost(1, bad), NONE);
      due("about", x.about(1, 2), 7);
    });
    edge(6, "nothing happens, for others: FORMS", () -> {
      JoinBench x = temple();
      for (int bad : new int[] {LOW, -1, 4, 40, HIGH}) due("form " + bad, x.cost(bad, 1), NONE);
      due("without forms", new JoinBench().cost(0, 1), NONE);
    });
    edge(6, "what it was: 0 is not NONE", () -> {
      JoinBench x = temple();
      due("of a kept one", x.cost(3, 0), 0);
    });
    edge(6, "of a FORM with the same LETTERS nothing changes", () -> {
      JoinBench x = ayes(2, 1);
      x.cost(0, 9);
      due("the other one", x.about(1, 2), 0);
      part(x, "a", 0);
      dueTold(x, 0, "1");
    });
    edge(6, "from now on: the last FORM of 40", () -> {
      JoinBench x = ayes(40, 1);
      due("cost", x.cost(39, 5), 0);
      part(x, "a", 0);
      due("partings", x.parted(1), 40);
      due("form 40", x.cost(40, 5), NONE);
    });
  }

  private static void meets() {
    edge(7, "False without these", () -> {
      JoinBench x = new JoinBench();
      for (int bad : new int[] {LOW, -1, 6, HIGH})
        for (boolean may : new boolean[] {false, true}) {
          due("first " + bad, x.meets(bad, 0, may), false);
          due("second " + bad, x.meets(0, bad, may), false);
        }
      for (int i = 0; i < 36; i++) due("nothing changed", x.meets(i / 6, i % 6, true), false);
    });
    edge(7, "each two KINDS, 0 to 5, for themselves", () -> {
      JoinBench x = new JoinBench();
      for (int i = 0; i < 36; i++) {
        due("changes", x.meets(i / 6, i % 6, false), true);
        due("no more", x.meets(i / 6, i % 6, false), false);
      }
      for (int i = 0; i < 36; i++) due("back", x.meets(i / 6, i % 6, true), true);
    });
    edge(7, "right behind another one: not the other way round", () -> {
      JoinBench x = new JoinBench();
      form(x, "a", 0, 0);
      form(x, "b", 5, 0);
      form(x, "ab", 0, 0);
      form(x, "ba", 0, 0);
      x.meets(0, 5, false);
      due("ab", part(x, "ab", 0), 1);
      dueTold(x, 0, "2");
      due("ba", part(x, "ba", 0), 2);
    });
    edge(7, "right behind: with another one between they may", () -> {
      JoinBench x = new JoinBench();
      form(x, "a", 0, 0);
      form(x, "b", 1, 0);
      form(x, "c", 2, 0);
      form(x, "abc", 3, 0);
      x.meets(0, 2, false);
      due("part", part(x, "abc", 0), 2);
    });
    edge(7, "a KIND behind itself", () -> {
      JoinBench x = ayes(1, 1);
      form(x, "aa", 1, 0);
      x.meets(0, 0, false);
      due("part", part(x, "aa", 0), 1);
      dueTold(x, 0, "1");
      due("uncut", x.parted(0), 2);
    });
  }

  private static void becomes() {
    edge(8, "-2, and nothing happens, for others", () -> {
      JoinBench x = new JoinBench();
      for (int bad : new int[] {LOW, -2, -1, 6, HIGH}) {
        due("first " + bad, x.becomes(bad, 0, 0), -2);
        due("second " + bad, x.becomes(0, bad, 0), -2);
        if (bad != NONE) due("kind " + bad, x.becomes(0, 0, bad), -2);
      }
      for (int i = 0; i < 36; i++) due("nothing happened", x.becomes(i / 6, i % 6, NONE), NONE);
    });
    edge(8, "NONE: none", () -> {
      JoinBench x = new JoinBench();
      due("0", x.becomes(5, 5, 0), NONE);
      due("5", x.becomes(5, 5, 5), 0);
      due("none", x.becomes(5, 5, NONE), 5);
      due("none again", x.becomes(5, 5, NONE), NONE);
    });
    edge(8, "each two KINDS for themselves", () -> {
      JoinBench x = new JoinBench();
      for (int i = 0; i < 36; i++) due("at first", x.becomes(i / 6, i % 6, i % 5), NONE);
      for (int i = 0; i < 36; i++) due("what it was", x.becomes(i / 6, i % 6, 0), i % 5);
    });
  }

  private static void fits() {
    edge(9, "NONE without these: FORMS", () -> {
      JoinBench x = temple();
      for (int bad : new int[] {LOW, -1, 4, 40, HIGH}) {
        due("first " + bad, x.fits(bad, 0, 10), NONE);
        due("second " + bad, x.fits(0, bad, 10), NONE);
      }
      due("without forms", new JoinBench().fits(0, 0, 0), NONE);
    });
    edge(9, "NONE without these: DAYS", () -> {
      JoinBench x = temple();
      for (int bad : new int[] {LOW, -1, 1000, HIGH}) due("day " + bad, x.fits(0, 1, bad), NONE);
      due("day 0", x.fits(2, 1, 0), 1);
      due("day 999", x.fits(2, 1, 999), 1);
    });
    edge(9, "0: they meet PLAIN", () -> {
      JoinBench x = temple();
      due("without rules of force", x.fits(0, 1, 0), 0);
      due("one behind itself", x.fits(2, 2, 0), 0);
    });
    edge(9, "in force from a DAY to a DAY", () -> {
      JoinBench x = ayes(2, 1);
      rule(x, "a", "", "", 0, 0, 0);
      rule(x, "a", "", "", 0, 500, 501);
      rule(x, "a", "", "", 0, 999, 999);
      int[][] want = {{0, 1}, {1, 0}, {499, 0}, {500, 1}, {501, 1}, {502, 0}, {998, 0}, {999, 1}};
      for (int[] day : want) due("day " + day[0], x.fits(0, 1, day[0]), day[1]);
    });
    edge(9, "neither FORM is KEPT", () -> {
      JoinBench x = new JoinBench();
      form(x, "a", 0, 0);
      form(x, "a", 0, 0, 0, true);
      rule(x, "a", "a", "", 0);
      rule(x, "a", "", "", 0);
      rule(x, "", "a", "", 0);
      due("neither", x.fits(0, 0, 0), 3);
      due("the first", x.fits(1, 0, 0), 0);
      due("the second", x.fits(0, 1, 0), 0);
      due("both", x.fits(1, 1, 0), 0);
    });
    edge(9, "an END longer than the FORM", () -> {
      JoinBench x = new JoinBench();
      form(x, "bc", 0, 0);
      form(x, "abc", 0, 0);
      form(x, "xabc", 0, 0);
      rule(x, "abc", "", "", 0);
      due("longer", x.fits(0, 0, 0), 0);
      due("as long", x.fits(1, 0, 0), 1);
      due("shorter", x.fits(2, 0, 0), 1);
    });
    edge(9, "a BEGINNING longer than the FORM", () -> {
      JoinBench x = new JoinBench();
      form(x, "ab", 0, 0);
      form(x, "abc", 0, 0);
      form(x, "abcx", 0, 0);
      rule(x, "", "abc", "", 0);
      due("longer", x.fits(0, 0, 0), 0);
      due("as long", x.fits(0, 1, 0), 1);
      due("shorter", x.fits(0, 2, 0), 1);
    });
    edge(9, "an empty END, an empty BEGINNING", () -> {
      JoinBench x = letters("ab");
      rule(x, "", "b", "", 0);
      rule(x, "a", "", "", 0);
      due("ab", x.fits(0, 1, 0), 2);
      due("bb", x.fits(1, 1, 0), 1);
      due("aa", x.fits(0, 0, 0), 1);
      due("ba", x.fits(1, 0, 0), 0);
    });
    edge(9, "it FITS where no LETTER would stay, too", () -> {
      JoinBench x = letters("ab");
      rule(x, "a", "b", "x", 0);
      due("fits", x.fits(0, 1, 0), 1);
    });
  }

  private static void fitting() {
    edge(10, "the k-th: 0 to one less than how many", () -> {
      JoinBench x = ayes(1, 1);
      for (int i = 0; i < 24; i++) rule(x, i % 2 == 0 ? "a" : "b", "", "", 0);
      due("fits", x.fits(0, 0, 0), 12);
      for (int k = 0; k < 12; k++) due("fitting " + k, x.fitting(0, 0, 0, k), 2 * k);
      for (int bad : new int[] {LOW, -1, 12, 24, HIGH}) due("fitting " + bad, x.fitting(0, 0, 0, bad), NONE);
    });
    edge(10, "NONE where they meet PLAIN", () -> {
      JoinBench x = temple();
      for (int k : new int[] {-1, 0, 1}) due("fitting " + k, x.fitting(0, 2, 10, k), NONE);
    });
    edge(10, "NONE without FORMS or a DAY", () -> {
      JoinBench x = temple();
      for (int bad : new int[] {LOW, -1, 4, HIGH}) {
        due("first " + bad, x.fitting(bad, 1, 10, 0), NONE);
        due("second " + bad, x.fitting(0, bad, 10, 0), NONE);
      }
      for (int bad : new int[] {LOW, -1, 1000, HIGH}) due("day " + bad, x.fitting(0, 1, bad, 0), NONE);
    });
  }

  private static void row() {
    edge(11, "without such a DAY", () -> {
      JoinBench x = temple();
      x.row(15);
      x.joins(0, NONE);
      for (int bad : new int[] {LOW, -1, 1000, HIGH}) due("row " + bad, x.row(bad), NONE);
      due("the row stays", x.count(4), 1);
      due("its day stays", x.joins(1, 0), 2);
    });
    edge(11, "DAYS 0 and 999", () -> {
      JoinBench x = ayes(1, 1);
      rule(x, "a", "", "b", 0, 0, 0);
      form(x, "ca", 0, 0);
      rule(x, "a", "", "b", 0, 999, 999);
      due("row 999", x.row(999), 0);
      x.joins(1, NONE);
      due("rule 0", x.joins(0, 0), NONE);
      due("rule 1", x.joins(0, 1), 2);
      due("row 0", x.row(0), 2);
      x.joins(1, NONE);
      due("rule 1", x.joins(0, 1), NONE);
      due("rule 0", x.joins(0, 0), 2);
    });
    edge(11, "how many FORMS it had: of an empty and of a full ROW", () -> {
      JoinBench x = ayes(1, 1);
      due("empty", x.row(0), 0);
      for (int i = 0; i < 40; i++) x.joins(0, NONE);
      due("full", x.row(0), 40);
      due("empty again", x.row(0), 0);
    });
    edge(11, "OUT stays as it is", () -> {
      JoinBench x = ayes(1, 1);
      x.joins(0, NONE);
      x.joined();
      x.row(0);
      due("out", x.count(3), 1);
      due("letter", x.letter(0), 'a');
    });
  }

  private static void joins() {
    edge(12, "At first the ROW is empty, of DAY 0", () -> {
      JoinBench x = new JoinBench();
      form(x, "ba", 0, 0);
      rule(x, "a", "", "", 0, 0, 0);
      rule(x, "a", "", "", 0, 1, 999);
      due("forms", x.count(4), 0);
      due("the first", x.joins(0, NONE), 1);
      due("of another day", x.joins(0, 1), NONE);
      due("of day 0", x.joins(0, 0), 2);
    });
    edge(12, "of no matter for the first one", () -> {
      for (int rule : new int[] {LOW, -2, -1, 0, 1, 2, 24, HIGH}) {
        JoinBench x = temple();
        due("rule " + rule, x.joins(1, rule), 1);
        due("its cost", x.count(7), 7);
        dueOut("its letters", x, "alaya");
      }
    });
    edge(12, "there are 40", () -> {
      JoinBench x = ayes(1, 1);
      for (int i = 1; i <= 40; i++) due("joins", x.joins(0, NONE), i);
      due("joins 41", x.joins(0, NONE), NONE);
      due("forms", x.count(4), 40);
      due("joined", x.joined(), 40);
    });
    edge(12, "no such FORM", () -> {
      JoinBench x = temple();
      for (int bad : new int[] {LOW, -1, 4, 40, HIGH}) due("first " + bad, x.joins(bad, NONE), NONE);
      x.joins(0, NONE);
      for (int bad : new int[] {LOW, -1, 4, 40, HIGH}) due("next " + bad, x.joins(bad, NONE), NONE);
      due("forms", x.count(4), 1);
    });
    edge(12, "the RULE doesn't FIT: no such RULE", () -> {
      JoinBench x = temple();
      x.joins(2, NONE);
      for (int bad : new int[] {LOW, -2, 2, 24, 31, 32, 33, 64, HIGH}) due("rule " + bad, x.joins(1, bad), NONE);
      due("the one that does", x.joins(1, 1), 2);
    });
    edge(12, "the RULE doesn't FIT: one behind the last of 24", () -> {
      JoinBench x = new JoinBench();
      form(x, "ab", 0, 0);
      for (int i = 0; i < 24; i++) rule(x, "b", "", "", 0);
      x.joins(0, NONE);
      for (int bad : new int[] {24, 25, 31, 32, 55}) due("rule " + bad, x.joins(0, bad), NONE);
      due("the last", x.joins(0, 23), 2);
    });
    edge(12, "the RULE doesn't FIT on its DAY", () -> {
      for (int day : new int[] {9, 10, 20, 21}) {
        JoinBench x = temple();
        x.row(day);
        x.joins(0, NONE);
        due("day " + day, x.joins(1, 0), day == 10 || day == 20 ? 2 : NONE);
      }
    });
    edge(12, "PLAIN: one FITS", () -> {
      for (int day : new int[] {9, 10, 20, 21}) {
        JoinBench x = temple();
        x.row(day);
        x.joins(0, NONE);
        due("day " + day, x.joins(1, NONE), day == 10 || day == 20 ? NONE : 2);
      }
    });
    edge(12, "PLAIN: one FITS, though by it no LETTER would stay", () -> {
      JoinBench x = letters("ab");
      rule(x, "a", "b", "x", 0);
      x.joins(0, NONE);
      due("by it", x.joins(1, 0), NONE);
      due("PLAIN", x.joins(1, NONE), NONE);
      due("the other way round", x.joins(0, NONE), 2);
    });
    edge(12, "no LETTER would stay: of the first FORM", () -> {
      JoinBench x = abas();
      x.joins(0, NONE);
      due("its END is all of it", x.joins(0, 4), NONE);
      due("all but one", x.joins(0, 2), 2);
      dueOut("joined", x, "aaba");
    });
    edge(12, "no LETTER would stay: of the FORM that comes", () -> {
      JoinBench x = abas();
      x.joins(0, NONE);
      due("its BEGINNING is all of it", x.joins(0, 5), NONE);
      due("all but one", x.joins(0, 3), 2);
      dueOut("joined", x, "abaa");
    });
    edge(12, "no LETTER would stay: between BEGINNING and END", () -> {
      JoinBench x = abas();
      x.joins(0, NONE);
      x.joins(0, 3);
      due("2 and 1 of 3", x.joins(0, 0), NONE);
      due("2 and 2 of 3", x.joins(0, 2), NONE);
      due("2 and 3 of 3", x.joins(0, 4), NONE);
      due("2 and 0 of 3", x.joins(0, 1), 3);
      due("1 and 1 of 3", x.joins(0, 0), 4);
      dueOut("joined", x, "aba" + "a" + "b" + "aba");
    });
    edge(12, "nothing happens: a refused one changes neither ROW nor cost", () -> {
      JoinBench x = temple();
      x.row(10);
      x.joins(0, NONE);
      x.joins(1, 1);
      x.joins(1, NONE);
      x.joins(9, 0);
      due("forms", x.count(4), 1);
      due("cost", x.count(7), 5);
      dueOut("joined", x, "deva");
    });
    edge(12, "KINDS that may not meet are of no matter for a ROW", () -> {
      JoinBench x = ayes(1, 1);
      x.meets(0, 0, false);
      x.joins(0, NONE);
      due("joins", x.joins(0, NONE), 2);
    });
  }

  private static void joined() {
    edge(13, "an empty ROW", () -> {
      JoinBench x = ayes(1, 1);
      due("at first", x.joined(), 0);
      x.joins(0, NONE);
      x.joined();
      x.row(0);
      due("again", x.joined(), 0);
      due("out", x.count(3), 0);
    });
    edge(13, "one FORM, of 1 and of 8 LETTERS", () -> {
      JoinBench x = new JoinBench();
      form(x, "q", 0, 0);
      form(x, "abcdefgh", 0, 0);
      x.joins(0, NONE);
      dueOut("1", x, "q");
      x.row(0);
      x.joins(1, NONE);
      dueOut("8", x, "abcdefgh");
    });
    edge(13, "END and BEGINNING of 3, what COMES of 0", () -> {
      JoinBench x = new JoinBench();
      form(x, "abcdefgh", 0, 0);
      rule(x, "fgh", "abc", "", 0);
      for (int i = 0; i < 3; i++) x.joins(0, 0);
      dueOut("joined", x, "abcde" + "de" + "defgh");
    });
    edge(13, "what COMES of 4", () -> {
      JoinBench x = letters("ab");
      rule(x, "a", "", "wxyz", 0);
      form(x, "ca", 0, 0);
      x.joins(2, NONE);
      x.joins(1, 0);
      dueOut("joined", x, "cwxyzb");
    });
    edge(13, "END empty, BEGINNING empty: what COMES is set between", () -> {
      JoinBench x = new JoinBench();
      form(x, "ab", 0, 0);
      form(x, "cd", 0, 0);
      rule(x, "", "c", "xy", 0);
      rule(x, "b", "", "z", 0);
      x.joins(0, NONE);
      x.joins(1, 0);
      dueOut("no END", x, "abxyd");
      x.row(0);
      x.joins(0, NONE);
      x.joins(1, 1);
      dueOut("no BEGINNING", x, "azcd");
    });
    edge(13, "the longest OUT: 40 FORMS with 4 that COME between", () -> {
      JoinBench x = new JoinBench();
      form(x, "abcdefgh", 0, 99);
      rule(x, "h", "", "wxyz", 99);
      for (int i = 0; i < 40; i++) x.joins(0, 0);
      due("joined", x.joined(), 39 * 11 + 8);
      due("cost", x.count(7), 40 * 99 + 39 * 99);
      for (int i = 0; i < 39; i++) due("letter", x.letter(11 * i + 10), 'z');
      due("the last", x.letter(39 * 11 + 7), 'h');
      due("behind it", x.letter(39 * 11 + 8), NONE);
    });
    edge(13, "KEPT ones as they are, one behind the other", () -> {
      JoinBench x = temple();
      x.row(10);
      x.joins(0, NONE);
      x.joins(3, NONE);
      x.joins(1, NONE);
      dueOut("joined", x, "devaaalaya");
    });
  }

  private static void letter() {
    edge(14, "NONE ahead of any joined()", () -> {
      JoinBench x = ayes(1, 1);
      x.joins(0, NONE);
      due("letter", x.letter(0), NONE);
    });
    edge(14, "NONE below 0 and behind the last", () -> {
      JoinBench x = temple();
      x.joins(2, NONE);
      x.joined();
      for (int bad : new int[] {LOW, -1, 4, 476, 480, HIGH}) due("letter " + bad, x.letter(bad), NONE);
      due("the first", x.letter(0), 'd');
      due("the last", x.letter(3), 'i');
    });
    edge(14, "a shorter OUT leaves nothing of a longer one", () -> {
      JoinBench x = temple();
      x.joins(1, NONE);
      x.joined();
      x.row(0);
      x.joins(3, NONE);
      x.joined();
      due("letter 0", x.letter(0), 'a');
      due("letter 1", x.letter(1), NONE);
    });
    edge(14, "a and z", () -> {
      JoinBench x = letters("az");
      x.joins(0, NONE);
      x.joins(1, NONE);
      x.joined();
      due("a", x.letter(0), 97);
      due("z", x.letter(1), 122);
    });
  }

  private static void back() {
    edge(15, "an empty OUT behind an empty and behind a full TAPE", () -> {
      JoinBench x = new JoinBench();
      due("empty", x.back(), 0);
      for (int i = 0; i < 3; i++) x.feed(0, 0, 0, 0, 0);
      due("full", x.back(), 60);
    });
    edge(15, "just 60, and it would have more than 60", () -> {
      JoinBench x = ayes(1, 1);
      x.joins(0, NONE);
      x.joined();
      for (int i = 0; i < 3; i++) x.feed(0, 0, 0, 0, 0);
      due("from 60", x.back(), NONE);
      due("nothing happens", x.count(2), 60);
      x.end(59);
      due("from 59", x.back(), 60);
    });
    edge(15, "an OUT of 60 and one of 61", () -> {
      JoinBench x = new JoinBench();
      form(x, "abcdef", 0, 0);
      form(x, "g", 0, 0);
      for (int i = 0; i < 10; i++) x.joins(0, NONE);
      due("joined", x.joined(), 60);
      due("60", x.back(), 60);
      x.end(0);
      x.joins(1, NONE);
      due("joined", x.joined(), 61);
      due("61", x.back(), NONE);
      due("nothing happens", x.count(2), 0);
    });
    edge(15, "behind the TAPE, and OUT stays", () -> {
      JoinBench x = letters("ab");
      x.joins(1, NONE);
      x.joined();
      x.feed(0x61000000, 0, 0, 0, 0);
      x.end(1);
      due("back", x.back(), 2);
      due("out", x.count(3), 1);
      due("part", x.part(0), 1);
      dueTold(x, 0, "0-1");
    });
  }

  private static void part() {
    edge(16, "it is empty", () -> {
      JoinBench x = ayes(1, 1);
      due("part", x.part(0), NONE);
      due("parted", x.parted(1), NONE);
    });
    edge(16, "a LINE of 1", () -> {
      JoinBench x = ayes(1, 1);
      due("part", part(x, "a", 0), 1);
      due("the tape", x.count(2), 0);
    });
    edge(16, "a LINE of 40", () -> {
      JoinBench x = ayes(1, 1);
      due("part", part(x, times('a', 40), 0), 1);
      due("forms", x.parting(0, 1), 40);
      due("the tape", x.count(2), 0);
    });
    edge(16, "above 40", () -> {
      JoinBench x = ayes(1, 1);
      for (int size : new int[] {41, 60}) {
        due("part of " + size, part(x, times('a', size), 0), NONE);
        due("the tape", x.count(2), 0);
        due("nothing else", x.parted(0), NONE);
      }
    });
    edge(16, "has what is no LETTER", () -> {
      JoinBench x = ayes(1, 1);
      for (int bad : new int[] {0, 'A', 'a' - 1, 'z' + 1, 'a' + 128, 255})
        for (String line : new String[] {(char) bad + "", (char) bad + "aa", "aa" + (char) bad}) {
          due("byte " + bad, part(x, line, 0), NONE);
          due("the tape", x.count(2), 0);
        }
      due("nothing else", x.parted(0), NONE);
      due("a and z are", part(x, "az", 0), 0);
    });
    edge(16, "there is no such DAY", () -> {
      JoinBench x = ayes(1, 1);
      for (int bad : new int[] {LOW, -1, 1000, HIGH}) {
        due("day " + bad, part(x, "a", bad), NONE);
        due("the tape", x.count(2), 0);
      }
      due("nothing else", x.parted(0), NONE);
      due("day 0", part(x, "a", 0), 1);
      due("day 999", part(x, "a", 999), 1);
    });
    edge(16, "nothing else happens: what was told stays", () -> {
      JoinBench x = temple();
      part(x, "devyalaya", 0);
      due("empty", x.part(0), NONE);
      due("above", part(x, times('a', 41), 0), NONE);
      due("no letter", part(x, "a?", 0), NONE);
      due("no day", part(x, "a", 1000), NONE);
      due("parted", x.parted(1), 1);
      dueTold(x, 0, "2/1/1");
      due("trees", x.trees(0, 0), 0);
      due("choose", x.choose(0), 1);
    });
    edge(16, "RULES in force from a DAY to a DAY", () -> {
      for (int day : new int[] {9, 10, 20, 21}) {
        JoinBench x = temple();
        boolean inForce = day == 10 || day == 20;
        due("by it, day " + day, part(x, "devalaya", day), inForce ? 1 : 0);
        due("PLAIN, day " + day, part(x, "devaalaya", day), inForce ? 0 : 1);
      }
    });
    edge(16, "at least one LETTER of each FORM must stay", () -> {
      JoinBench x = abas();
      due("ab aba: ..+a", part(x, "ababa", 0), 2);
      JoinBench y = letters("ab");
      rule(y, "a", "b", "x", 0);
      due("x", part(y, "x", 0), 0);
      due("nor PLAIN", part(y, "ab", 0), 0);
      due("b then a", part(y, "ba", 0), 1);
      JoinBench z = new JoinBench();
      form(z, "xay", 0, 0);
      rule(z, "y", "x", "", 0);
      due("one letter between both", part(z, "xaaay", 0), 1);
      JoinBench w = new JoinBench();
      form(w, "xy", 0, 0);
      rule(w, "y", "x", "", 0);
      due("none between both", part(w, "xy", 0), 2);
      dueTold(w, 0, "0");
      dueTold(w, 1, "0/0/0");
    });
    edge(16, "what COMES at the LINE's end: no FORM's LETTER behind it", () -> {
      JoinBench x = new JoinBench();
      form(x, "ba", 0, 0);
      rule(x, "a", "", "c", 0);
      due("bc", part(x, "bc", 0), 0);
      due("bcb", part(x, "bcb", 0), 0);
      due("bcba", part(x, "bcba", 0), 1);
    });
    edge(16, "a LINE that ends within a FORM, or goes on behind it", () -> {
      JoinBench x = new JoinBench();
      form(x, "abcdefgh", 0, 0);
      due("within", part(x, "abcdefg", 0), 0);
      due("just", part(x, "abcdefgh", 0), 1);
      due("behind", part(x, "abcdefgha", 0), 0);
      due("five times", part(x, "abcdefgh".repeat(5), 0), 1);
    });
    edge(16, "END and BEGINNING of 3, what COMES of 4", () -> {
      JoinBench x = new JoinBench();
      form(x, "abcdefgh", 0, 0);
      rule(x, "fgh", "abc", "wxyz", 0);
      due("two", part(x, "abcdewxyzdefgh", 0), 1);
      dueTold(x, 0, "0/0/0");
      due("three", part(x, "abcdewxyzdewxyzdefgh", 0), 1);
      dueTold(x, 0, "0/0/0/0/0");
      due("one letter less that comes", part(x, "abcdewxydefgh", 0), 0);
      due("one letter less at the beginning", part(x, "abcdewxyzefgh", 0), 0);
    });
    edge(16, "BEGINNINGS of 0 to 3 of one FORM", () -> {
      JoinBench x = letters("q");
      form(x, "abcd", 0, 0);
      rule(x, "q", "", "r", 0);
      rule(x, "", "a", "s", 0);
      rule(x, "", "ab", "t", 0);
      rule(x, "", "abc", "u", 0);
      form(x, "pq", 0, 0);
      String[] lines = {"prabcd", "pqsbcd", "pqtcd", "pqud"};
      for (int i = 0; i < 4; i++) {
        due(lines[i], part(x, lines[i], 0), 1);
        dueTold(x, 0, "2/" + i + "/1");
      }
    });
    edge(16, "ENDS of 0 to 3 of one FORM", () -> {
      JoinBench x = new JoinBench();
      form(x, "abcd", 0, 0);
      form(x, "pq", 0, 0);
      rule(x, "", "p", "r", 0);
      rule(x, "d", "", "s", 0);
      rule(x, "cd", "", "t", 0);
      rule(x, "bcd", "", "u", 0);
      String[] lines = {"abcdrq", "abcspq", "abtpq", "aupq"};
      for (int i = 0; i < 4; i++) {
        due(lines[i], part(x, lines[i], 0), 1);
        dueTold(x, 0, "0/" + i + "/1");
      }
    });
    edge(16, "a shorter LINE has nothing of a longer one", () -> {
      JoinBench x = ayes(2, 1);
      due("40", part(x, times('a', 40), 0), 1L << 40);
      due("3", part(x, "aaa", 0), 8);
      due("1", part(x, "a", 0), 2);
    });
    edge(16, "40 FORMS and 24 RULES: the last ones count as the first", () -> {
      JoinBench x = ayes(39, 1);
      form(x, "ba", 0, 0);
      for (int i = 0; i < 23; i++) rule(x, "z", "z", "", 0);
      rule(x, "", "b", "c", 0);
      due("part", part(x, "aca", 0), 39);
      dueTold(x, 7, "7/23/39");
    });
  }

  /** Of the line b and fourteen a there are 999999999999999 partings, and one more for each "baaaaaaa" of kind 2. */
  private static JoinBench justBelowMost(int more) {
    JoinBench x = new JoinBench();
    for (int i = 0; i < 10; i++) form(x, "a", 0, 0);
    form(x, "a", 1, 0);
    for (int i = 0; i < 9; i++) form(x, "b", 0, 0);
    form(x, "aaaaaaa", 3, 0);
    for (int i = 0; i < more; i++) form(x, "baaaaaaa", 2, 0);
    x.meets(1, 0, false);
    for (int kind = 0; kind < 6; kind++) {
      if (kind != 3) x.meets(2, kind, false);
      if (kind != 2) x.meets(kind, 3, false);
    }
    return x;
  }

  private static void parted() {
    edge(17, "NONE ahead of any", () -> {
      JoinBench x = ayes(1, 1);
      for (int what = -1; what <= 4; what++) due("parted " + what, x.parted(what), NONE);
    });
    edge(17, "NONE ahead of any: one that was NONE is none", () -> {
      JoinBench x = ayes(1, 1);
      part(x, "A", 0);
      for (int what = 0; what < 4; what++) due("parted " + what, x.parted(what), NONE);
      due("parting", x.parting(0, 0), NONE);
      due("choose", x.choose(0), NONE);
    });
    edge(17, "NONE for another what", () -> {
      JoinBench x = ayes(1, 1);
      part(x, "a", 0);
      for (int bad : new int[] {LOW, -1, 4, HIGH}) due("parted " + bad, x.parted(bad), NONE);
    });
    edge(17, "1000000000000000 at most: one below", () -> {
      JoinBench x = justBelowMost(0);
      due("part", part(x, "b" + times('a', 14), 0), MOST - 1);
      due("counted", x.parted(1), MOST - 1);
      due("without any cut", x.parted(0), MOST);
    });
    edge(17, "1000000000000000 at most: just so many", () -> {
      JoinBench x = justBelowMost(1);
      due("part", part(x, "b" + times('a', 14), 0), MOST);
    });
    edge(17, "1000000000000000 at most: more is that", () -> {
      JoinBench x = justBelowMost(2);
      due("one more", part(x, "b" + times('a', 14), 0), MOST);
      JoinBench y = ayes(40, 1);
      due("40 to the 40th, far above a long", part(y, times('a', 40), 0), MOST);
      due("uncut", y.parted(0), MOST);
      due("told", y.parted(3), 8);
    });
    edge(17, "the first eight: 0, 1, 7, 8, 9 and 40 PARTINGS", () -> {
      for (int count : new int[] {0, 1, 7, 8, 9, 40}) {
        JoinBench x = ayes(count, 1);
        due("part", part(x, "a", 0), count);
        due("told", x.parted(3), Math.min(count, 8));
        due("the last told", x.parting(Math.min(count, 8) - 1, 1), count == 0 ? NONE : 1);
        due("none behind it", x.parting(Math.min(count, 8), 1), NONE);
      }
    });
    edge(17, "CUT: some are", () -> {
      JoinBench x = ayes(2, 2);
      x.meets(0, 1, false);
      due("part", part(x, "aa", 0), 3);
      long[] want = {4, 3, 0, 3};
      for (int what = 0; what < 4; what++) due("parted " + what, x.parted(what), want[what]);
    });
    edge(17, "unless all are: then none is (LEFT)", () -> {
      JoinBench x = ayes(1, 1);
      x.meets(0, 0, false);
      due("part", part(x, "aa", 0), 1);
      long[] want = {1, 1, 1, 1};
      for (int what = 0; what < 4; what++) due("parted " + what, x.parted(what), want[what]);
      dueTold(x, 0, "0-0");
    });
    edge(17, "all but one are CUT: not LEFT", () -> {
      JoinBench x = ayes(3, 3);
      for (int i = 0; i < 9; i++) if (i != 8) x.meets(i / 3, i % 3, false);
      due("part", part(x, times('a', 40), 0), 1);
      due("uncut", x.parted(0), MOST);
      due("LEFT", x.parted(2), 0);
      due("told", x.parted(3), 1);
      due("form 39", x.formOf(0, 39), 2);
    });
    edge(17, "LEFT with more than can be counted", () -> {
      JoinBench x = ayes(40, 1);
      x.meets(0, 0, false);
      due("part", part(x, times('a', 40), 0), MOST);
      long[] want = {MOST, MOST, 1, 8};
      for (int what = 0; what < 4; what++) due("parted " + what, x.parted(what), want[what]);
    });
    edge(17, "a single FORM has no KINDS that meet", () -> {
      JoinBench x = ayes(1, 1);
      for (int i = 0; i < 36; i++) x.meets(i / 6, i % 6, false);
      due("part", part(x, "a", 0), 1);
      due("LEFT", x.parted(2), 0);
    });
    edge(17, "without any PARTING none is CUT and none LEFT", () -> {
      JoinBench x = ayes(1, 1);
      x.meets(0, 0, false);
      due("part", part(x, "b", 0), 0);
      for (int what = 0; what < 4; what++) due("parted " + what, x.parted(what), 0);
    });
    edge(17, "LEFT is of the latest part()", () -> {
      JoinBench x = ayes(1, 1);
      x.meets(0, 0, false);
      part(x, "aa", 0);
      due("LEFT", x.parted(2), 1);
      x.meets(0, 0, true);
      due("it stays", x.parted(2), 1);
      part(x, "aa", 0);
      due("LEFT no more", x.parted(2), 0);
    });
  }

  private static void parting() {
    edge(18, "NONE without it", () -> {
      JoinBench x = ayes(9, 1);
      for (int k : new int[] {LOW, -1, 0, 7, 8, HIGH}) due("ahead of any: " + k, x.parting(k, 0), NONE);
      part(x, "a", 0);
      for (int bad : new int[] {LOW, -1, 8, HIGH}) due("parting " + bad, x.parting(bad, 0), NONE);
      due("the eighth", x.parting(7, 0), 0);
      part(x, "b", 0);
      due("of none", x.parting(0, 0), NONE);
    });
    edge(18, "NONE for another what", () -> {
      JoinBench x = ayes(1, 1);
      part(x, "a", 0);
      for (int bad : new int[] {LOW, -1, 3, HIGH}) due("what " + bad, x.parting(0, bad), NONE);
    });
    edge(18, "COST of it less that of the first: 0 for the first", () -> {
      JoinBench x = ayes(3, 1);
      x.cost(0, 99);
      x.cost(1, 50);
      x.cost(2, 50);
      part(x, "a", 0);
      int[] want = {0, 0, 49};
      for (int k = 0; k < 3; k++) due("parting " + k, x.parting(k, 2), want[k]);
    });
    edge(18, "the dearest: 20 FORMS of 99 and 19 RULES of 99", () -> {
      JoinBench x = new JoinBench();
      form(x, "ab", 0, 99);
      rule(x, "b", "", "b", 99);
      due("part", part(x, "ab".repeat(20), 0), 1);
      due("cost", x.parting(0, 0), 39 * 99);
      due("forms", x.parting(0, 1), 20);
    });
    edge(18, "the dearest of all: 40 FORMS of 99 and 39 RULES of 99", () -> {
      JoinBench x = new JoinBench();
      form(x, "zx", 0, 99);
      form(x, "ya", 0, 99);
      rule(x, "x", "y", "", 99);
      rule(x, "", "y", "", 99);
      due("part", part(x, "z" + times('a', 39), 0), 1);
      due("forms", x.parting(0, 1), 40);
      due("cost", x.parting(0, 0), 79 * 99);
      dueTold(x, 0, "0/0/1" + "/1/1".repeat(38));
    });
    edge(18, "by COST ahead of all else", () -> {
      JoinBench x = ayes(2, 1);
      x.cost(0, 1);
      part(x, "aa", 0);
      String[] want = {"1-1", "0-1", "1-0", "0-0"};
      for (int k = 0; k < 4; k++) dueTold(x, k, want[k]);
    });
    edge(18, "of one COST: by the number of the first FORM", () -> {
      JoinBench x = new JoinBench();
      form(x, "ab", 0, 1);
      form(x, "a", 0, 0);
      form(x, "b", 0, 1);
      part(x, "ab", 0);
      dueTold(x, 0, "0");
      dueTold(x, 1, "1-2");
    });
    edge(18, "then of what is between: PLAIN ahead of RULES", () -> {
      JoinBench x = new JoinBench();
      form(x, "a", 0, 0);
      form(x, "xc", 0, 0);
      form(x, "bc", 0, 0);
      rule(x, "", "x", "b", 0);
      part(x, "abc", 0);
      dueTold(x, 0, "0-2");
      dueTold(x, 1, "0/0/1");
    });
    edge(18, "these by numbers", () -> {
      JoinBench x = new JoinBench();
      form(x, "ab", 0, 0);
      for (int i = 0; i < 10; i++) rule(x, "b", "", "b", 0);
      due("part", part(x, "abab", 0), 10);
      for (int k = 0; k < 8; k++) dueTold(x, k, "0/" + k + "/0");
    });
    edge(18, "these by numbers, ahead of the next FORM's", () -> {
      JoinBench x = new JoinBench();
      form(x, "a", 0, 0);
      form(x, "bc", 0, 0);
      form(x, "dc", 0, 0);
      rule(x, "", "d", "b", 0);
      rule(x, "", "b", "b", 0);
      due("part", part(x, "abc", 0), 2);
      dueTold(x, 0, "0/0/2");
      dueTold(x, 1, "0/1/1");
    });
    edge(18, "then of the next FORM, and so on", () -> {
      JoinBench x = ayes(2, 1);
      part(x, times('a', 40), 0);
      String zeros = "0" + "-0".repeat(36);
      String[] want = {"-0-0-0", "-0-0-1", "-0-1-0", "-0-1-1", "-1-0-0", "-1-0-1", "-1-1-0", "-1-1-1"};
      for (int k = 0; k < 8; k++) dueTold(x, k, zeros + want[k]);
    });
    edge(18, "a ROW that ends ahead of one that goes on", () -> {
      JoinBench x = new JoinBench();
      form(x, "xab", 0, 0);
      form(x, "ab", 0, 0);
      rule(x, "ab", "", "", 0);
      due("part", part(x, "xab", 0), 2);
      dueTold(x, 0, "0");
      dueTold(x, 1, "0/0/1");
    });
    edge(18, "one that goes on ahead of one that ends, if it costs less", () -> {
      JoinBench x = new JoinBench();
      form(x, "ab", 0, 3);
      form(x, "a", 0, 1);
      form(x, "b", 0, 1);
      part(x, "ab", 0);
      dueTold(x, 0, "1-2");
      dueTold(x, 1, "0");
      due("less", x.parting(1, 2), 1);
    });
    edge(18, "RULES cost, too: a cheap one goes ahead of a dear one", () -> {
      JoinBench x = new JoinBench();
      form(x, "ab", 0, 1);
      for (int i = 0; i < 10; i++) rule(x, "b", "", "b", 20 - i);
      due("part", part(x, "ababab", 0), 100);
      String[] want = {"9/0/9", "8/0/9", "9/0/8", "7/0/9", "8/0/8", "9/0/7", "6/0/9", "7/0/8"};
      int[] costs = {25, 26, 26, 27, 27, 27, 28, 28};
      for (int k = 0; k < 8; k++) {
        dueTold(x, k, "0/" + want[k] + "/0");
        due("cost", x.parting(k, 0), costs[k]);
      }
    });
    edge(18, "a dear beginning with a cheap end among eight: not lost", () -> {
      JoinBench x = new JoinBench();
      for (int i = 0; i < 9; i++) form(x, "a", 0, 1);
      form(x, "ab", 0, 9);
      form(x, "bc", 0, 20);
      form(x, "c", 0, 0);
      due("part", part(x, "abc", 0), 10);
      dueTold(x, 0, "9-11");
      for (int k = 1; k < 8; k++) dueTold(x, k, k - 1 + "-10");
      due("less", x.parting(1, 2), 12);
    });
    edge(18, "ROWS of few and of many FORMS among one another", () -> {
      JoinBench x = new JoinBench();
      form(x, "aaaaaaaa", 0, 8);
      form(x, "aaaa", 0, 4);
      form(x, "aa", 0, 2);
      form(x, "a", 0, 1);
      due("part", part(x, times('a', 8), 0), 56);
      String[] want = {"0", "1-1", "1-2-2", "1-2-3-3", "1-3-2-3", "1-3-3-2", "1-3-3-3-3", "2-1-2"};
      for (int k = 0; k < 8; k++) dueTold(x, k, want[k]);
    });
    edge(18, "CUT ones are not told", () -> {
      JoinBench x = ayes(2, 2);
      x.meets(0, 0, false);
      part(x, "aa", 0);
      String[] want = {"0-1", "1-0", "1-1"};
      for (int k = 0; k < 3; k++) dueTold(x, k, want[k]);
      due("no more", x.parting(3, 0), NONE);
    });
    edge(18, "LEFT ones are told in the same ORDER", () -> {
      JoinBench x = ayes(3, 1);
      x.meets(0, 0, false);
      part(x, "aa", 0);
      String[] want = {"0-0", "0-1", "0-2", "1-0", "1-1", "1-2", "2-0", "2-1"};
      for (int k = 0; k < 8; k++) dueTold(x, k, want[k]);
    });
  }

  private static void formOf() {
    edge(19, "NONE ahead of any part()", () -> due("formOf", temple().formOf(0, 0), NONE));
    edge(19, "NONE without such a PARTING", () -> {
      JoinBench x = ayes(9, 1);
      part(x, "a", 0);
      for (int bad : new int[] {LOW, -1, 8, HIGH}) due("parting " + bad, x.formOf(bad, 0), NONE);
      due("the last told", x.formOf(7, 0), 7);
    });
    edge(19, "NONE without such a FORM in it", () -> {
      JoinBench x = temple();
      part(x, "devyalaya", 0);
      for (int bad : new int[] {LOW, -1, 2, 39, 40, HIGH}) due("form " + bad, x.formOf(0, bad), NONE);
      due("the first", x.formOf(0, 0), 2);
      due("the last", x.formOf(0, 1), 1);
    });
    edge(19, "a PARTING of 40 FORMS", () -> {
      JoinBench x = ayes(1, 1);
      part(x, times('a', 40), 0);
      due("form 39", x.formOf(0, 39), 0);
      due("form 40", x.formOf(0, 40), NONE);
    });
    edge(19, "a shorter PARTING leaves nothing of a longer one", () -> {
      JoinBench x = ayes(1, 1);
      part(x, times('a', 40), 0);
      part(x, "a", 0);
      due("form 1", x.formOf(0, 1), NONE);
    });
  }

  private static void ruleOf() {
    edge(20, "NONE: PLAIN", () -> {
      JoinBench x = ayes(2, 1);
      part(x, "aa", 0);
      due("ruleOf", x.ruleOf(0, 1), NONE);
    });
    edge(20, "NONE: the first FORM", () -> {
      JoinBench x = temple();
      part(x, "devyalaya", 0);
      due("the first", x.ruleOf(0, 0), NONE);
      due("the second", x.ruleOf(0, 1), 1);
    });
    edge(20, "NONE: without these", () -> {
      JoinBench x = temple();
      due("ahead of any", x.ruleOf(0, 1), NONE);
      part(x, "devyalaya", 0);
      for (int bad : new int[] {LOW, -1, 2, 39, 40, HIGH}) due("form " + bad, x.ruleOf(0, bad), NONE);
      for (int bad : new int[] {LOW, -1, 1, 8, HIGH}) due("parting " + bad, x.ruleOf(bad, 1), NONE);
    });
    edge(20, "RULE 0 is not NONE, RULE 23 is the last", () -> {
      JoinBench x = new JoinBench();
      form(x, "ab", 0, 0);
      rule(x, "b", "", "x", 0);
      for (int i = 1; i < 23; i++) rule(x, "q", "", "", 0);
      rule(x, "b", "", "y", 0);
      part(x, "axayab", 0);
      dueTold(x, 0, "0/0/0/23/0");
    });
  }

  private static void trees() {
    edge(21, "a single FORM: one, of its KIND", () -> {
      JoinBench x = new JoinBench();
      form(x, "a", 5, 0);
      part(x, "a", 0);
      for (int kind = 0; kind < 6; kind++) due("kind " + kind, x.trees(0, kind), kind == 5 ? 1 : 0);
    });
    edge(21, "none at first", () -> {
      JoinBench x = ayes(1, 1);
      part(x, "aa", 0);
      for (int kind = 0; kind < 6; kind++) due("kind " + kind, x.trees(0, kind), 0);
    });
    edge(21, "two FORMS: one way", () -> {
      JoinBench x = ayes(1, 1);
      x.becomes(0, 0, 5);
      part(x, "aa", 0);
      due("of it", x.trees(0, 5), 1);
      due("of the forms' own", x.trees(0, 0), 0);
    });
    edge(21, "NONE without these: PARTINGS", () -> {
      JoinBench x = ayes(9, 1);
      due("ahead of any", x.trees(0, 0), NONE);
      part(x, "a", 0);
      for (int bad : new int[] {LOW, -1, 8, HIGH}) due("parting " + bad, x.trees(bad, 0), NONE);
      due("the last told", x.trees(7, 0), 1);
      part(x, "b", 0);
      due("of none", x.trees(0, 0), NONE);
    });
    edge(21, "NONE without these: KINDS", () -> {
      JoinBench x = ayes(1, 1);
      part(x, "a", 0);
      for (int bad : new int[] {LOW, -2, -1, 6, HIGH}) due("kind " + bad, x.trees(0, bad), NONE);
    });
    edge(21, "1000000000000000 at most: the last below and the first above", () -> {
      JoinBench x = ayes(1, 1);
      x.becomes(0, 0, 0);
      part(x, times('a', 29), 0);
      due("29 forms", x.trees(0, 0), 263747951750360L);
      part(x, times('a', 30), 0);
      due("30 forms", x.trees(0, 0), MOST);
    });
    edge(21, "1000000000000000 at most: 40 FORMS, whose products wrap a long around", () -> {
      JoinBench x = ayes(1, 1);
      x.becomes(0, 0, 0);
      part(x, times('a', 40), 0);
      due("40 forms", x.trees(0, 0), MOST);
      due("another kind", x.trees(0, 1), 0);
    });
    edge(21, "1000000000000000 at most: a product right below it is told as it is", () -> {
      JoinBench x = new JoinBench();
      for (int kind = 0; kind < 4; kind++) form(x, String.valueOf((char) ('a' + kind)), kind, 0);
      for (int side = 0; side <= 2; side += 2) {
        x.becomes(side, side, side + 1);
        x.becomes(side, side + 1, side + 1);
        x.becomes(side + 1, side, side);
        x.becomes(side + 1, side + 1, side + 1);
      }
      x.becomes(0, 2, 4);
      String first = "bbabaabbbbaababbaa", second = "dcdddddccddccccccc";
      due("first", part(x, first, 0), 1);
      due("first's trees", x.trees(0, 0), 21062558L);
      due("second", part(x, second, 0), 1);
      due("second's trees", x.trees(0, 2), 47477614L);
      due("both", part(x, first + second, 0), 1);
      due("their product", x.trees(0, 4), 999999998576612L);
    });
    edge(21, "at most in all that is told of one KIND", () -> {
      JoinBench x = ayes(1, 1);
      x.becomes(0, 0, 1);
      x.becomes(0, 1, 0);
      x.becomes(1, 0, 1);
      x.becomes(1, 1, 0);
      part(x, times('a', 40), 0);
      due("kind 0", x.trees(0, 0), MOST);
      due("kind 1", x.trees(0, 1), MOST);
      due("kind 2", x.trees(0, 2), 0);
    });
    edge(21, "by the table as it is now", () -> {
      JoinBench x = ayes(1, 1);
      part(x, "aaa", 0);
      x.becomes(0, 0, 0);
      due("two ways", x.trees(0, 0), 2);
      x.becomes(0, 0, NONE);
      due("no way", x.trees(0, 0), 0);
    });
    edge(21, "NONE in the table is no KIND, nor the last one", () -> {
      JoinBench x = new JoinBench();
      form(x, "a", 1, 0);
      form(x, "b", 2, 0);
      form(x, "c", 3, 0);
      x.becomes(2, 3, 0);
      x.becomes(5, 0, 4);
      part(x, "abc", 0);
      for (int kind = 0; kind < 6; kind++) due("kind " + kind, x.trees(0, kind), 0);
    });
    edge(21, "MEETING is of no matter for TREES", () -> {
      JoinBench x = ayes(1, 1);
      x.becomes(0, 0, 0);
      x.meets(0, 0, false);
      part(x, "aaa", 0);
      due("trees", x.trees(0, 0), 2);
    });
    edge(21, "a shorter PARTING's TREES have nothing of a longer one's", () -> {
      JoinBench x = ayes(1, 1);
      x.becomes(0, 0, 0);
      part(x, times('a', 40), 0);
      x.trees(0, 0);
      part(x, "aaaa", 0);
      due("trees", x.trees(0, 0), 5);
    });
  }

  private static void choose() {
    edge(22, "NONE, and nothing happens, without it", () -> {
      JoinBench x = ayes(9, 1);
      x.cost(0, 9);
      for (int k : new int[] {LOW, -1, 0, HIGH}) due("ahead of any: " + k, x.choose(k), NONE);
      part(x, "a", 0);
      for (int bad : new int[] {LOW, -1, 8, HIGH}) due("parting " + bad, x.choose(bad), NONE);
      due("choices", x.count(5), 0);
      due("uses", x.uses(0), 0);
      due("undo", x.undo(), false);
      due("the last told", x.choose(7), 1);
    });
    edge(22, "NONE where the LINE has no PARTING", () -> {
      JoinBench x = ayes(1, 1);
      part(x, "a", 0);
      part(x, "b", 0);
      due("choose", x.choose(0), NONE);
    });
    edge(22, "how many can be undone: 30 at most", () -> {
      JoinBench x = ayes(1, 1);
      part(x, "a", 0);
      for (int i = 1; i <= 33; i++) due("choose", x.choose(0), Math.min(i, 30));
      due("choices", x.count(5), 30);
      due("uses", x.uses(0), 33);
    });
    edge(22, "falls by the STEP, not below 0", () -> {
      int[][] want = {{20, 0}, {19, 0}, {21, 1}, {99, 79}, {0, 0}};
      for (int[] cost : want) {
        JoinBench x = ayes(1, 1);
        x.cost(0, cost[0]);
        x.step(20);
        part(x, "a", 0);
        x.choose(0);
        due("from " + cost[0], x.about(0, 2), cost[1]);
      }
    });
    edge(22, "1 at first", () -> {
      JoinBench x = ayes(1, 1);
      x.cost(0, 50);
      part(x, "a", 0);
      x.choose(0);
      due("cost", x.about(0, 2), 49);
    });
    edge(22, "a STEP of 0", () -> {
      JoinBench x = ayes(1, 1);
      x.cost(0, 50);
      x.step(0);
      part(x, "a", 0);
      due("choose", x.choose(0), 1);
      due("cost", x.about(0, 2), 50);
      due("uses", x.uses(0), 1);
    });
    edge(22, "once each; USES as often as it stands there", () -> {
      JoinBench x = ayes(1, 1);
      x.cost(0, 50);
      part(x, times('a', 40), 0);
      x.choose(0);
      due("cost", x.about(0, 2), 49);
      due("uses", x.uses(0), 40);
    });
    edge(22, "two FORMS of one STEM: each falls, both are USES of it", () -> {
      JoinBench x = new JoinBench();
      form(x, "a", 0, 7, 5, false);
      form(x, "b", 0, 7, 6, false);
      part(x, "ab", 0);
      x.choose(0);
      due("a", x.about(0, 2), 4);
      due("b", x.about(1, 2), 5);
      due("uses", x.uses(7), 2);
    });
    edge(22, "the last FORM of 40 falls, its namesakes don't", () -> {
      JoinBench x = new JoinBench();
      for (int i = 0; i < 40; i++) form(x, "a", 0, i % 20, i == 39 ? 5 : 9, false);
      part(x, "aa", 0);
      dueTold(x, 0, "39-39");
      x.choose(0);
      due("form 39", x.about(39, 2), 4);
      due("form 38", x.about(38, 2), 9);
      due("form 7 (39 less 32)", x.about(7, 2), 9);
      due("uses", x.uses(19), 2);
    });
    edge(22, "What was told stays told", () -> {
      JoinBench x = ayes(2, 1);
      x.cost(0, 5);
      x.cost(1, 5);
      x.step(20);
      part(x, "a", 0);
      x.choose(1);
      due("cost of 0", x.parting(0, 0), 5);
      due("cost of 1", x.parting(1, 0), 5);
      dueTold(x, 0, "0");
      part(x, "a", 0);
      dueTold(x, 0, "1");
      due("anew", x.parting(0, 0), 0);
    });
    edge(22, "a KEPT FORM's COST falls, too", () -> {
      JoinBench x = new JoinBench();
      form(x, "a", 0, 0, 9, true);
      part(x, "a", 0);
      x.choose(0);
      due("cost", x.about(0, 2), 8);
    });
  }

  private static void undo() {
    edge(23, "false without one", () -> {
      JoinBench x = ayes(1, 1);
      due("at first", x.undo(), false);
      part(x, "a", 0);
      due("told, not chosen", x.undo(), false);
      x.choose(0);
      due("one", x.undo(), true);
      due("no more", x.undo(), false);
      due("choices", x.count(5), 0);
    });
    edge(23, "the last one first", () -> {
      JoinBench x = new JoinBench();
      form(x, "a", 0, 0, 9, false);
      form(x, "b", 0, 1, 9, false);
      part(x, "a", 0);
      x.choose(0);
      part(x, "b", 0);
      x.choose(0);
      x.undo();
      due("a", x.about(0, 2), 8);
      due("b", x.about(1, 2), 9);
      due("uses of a", x.uses(0), 1);
      due("uses of b", x.uses(1), 0);
    });
    edge(23, "a COST that fell less than the STEP is as it was", () -> {
      JoinBench x = ayes(1, 1);
      x.cost(0, 3);
      x.step(20);
      part(x, "a", 0);
      x.choose(0);
      due("cost", x.about(0, 2), 0);
      x.undo();
      due("as it was", x.about(0, 2), 3);
    });
    edge(23, "COSTS told since then anew are as they were ahead of it, too", () -> {
      JoinBench x = ayes(2, 1);
      x.cost(0, 50);
      x.cost(1, 60);
      part(x, "a", 0);
      x.choose(0);
      x.cost(0, 7);
      x.cost(1, 8);
      x.undo();
      due("a form in it", x.about(0, 2), 50);
      due("a form not in it", x.about(1, 2), 60);
    });
    edge(23, "30 can be undone", () -> {
      JoinBench x = ayes(1, 1);
      x.cost(0, 99);
      part(x, "a", 0);
      for (int i = 0; i < 30; i++) x.choose(0);
      for (int i = 30; i > 0; i--) {
        due("cost", x.about(0, 2), 99 - i);
        due("undo", x.undo(), true);
        due("choices", x.count(5), i - 1);
      }
      due("cost", x.about(0, 2), 99);
      due("no more", x.undo(), false);
    });
    edge(23, "older ones are forgotten: the 31st back", () -> {
      JoinBench x = ayes(1, 1);
      x.cost(0, 99);
      part(x, "a", 0);
      for (int i = 0; i < 31; i++) x.choose(0);
      for (int i = 0; i < 30; i++) due("undo", x.undo(), true);
      due("no more", x.undo(), false);
      due("the first one's cost", x.about(0, 2), 98);
      due("the first one's use", x.uses(0), 1);
    });
    edge(23, "twice around: 30 of 65, some undone between", () -> {
      JoinBench x = ayes(1, 1);
      x.cost(0, 99);
      part(x, "a", 0);
      for (int i = 0; i < 40; i++) x.choose(0);
      for (int i = 0; i < 10; i++) x.undo();
      for (int i = 0; i < 25; i++) x.choose(0);
      due("choices", x.count(5), 30);
      due("cost", x.about(0, 2), 99 - 55);
      for (int i = 0; i < 30; i++) due("undo", x.undo(), true);
      due("no more", x.undo(), false);
      due("cost", x.about(0, 2), 99 - 25);
      due("uses", x.uses(0), 25);
    });
    edge(23, "what was told, STEP, tables and FORMS stay", () -> {
      JoinBench x = ayes(1, 1);
      part(x, "a", 0);
      x.choose(0);
      x.step(7);
      x.meets(0, 0, false);
      x.becomes(0, 0, 3);
      form(x, "b", 0, 9);
      rule(x, "a", "", "", 0);
      part(x, "b", 0);
      x.undo();
      due("step", x.count(6), 7);
      due("meets", x.meets(0, 0, false), false);
      due("becomes", x.becomes(0, 0, 3), 3);
      due("forms", x.count(0), 2);
      due("rules", x.count(1), 1);
      dueTold(x, 0, "1");
    });
    edge(23, "a FORM made since then keeps its COST", () -> {
      JoinBench x = ayes(1, 1);
      part(x, "a", 0);
      x.choose(0);
      form(x, "b", 0, 42);
      x.undo();
      due("cost", x.about(1, 2), 42);
    });
  }

  private static void step() {
    edge(24, "0 to 20", () -> {
      JoinBench x = new JoinBench();
      due("to 0", x.step(0), 1);
      due("to 20", x.step(20), 0);
      due("count", x.count(6), 20);
    });
    edge(24, "NONE, and nothing happens, for others", () -> {
      JoinBench x = new JoinBench();
      for (int bad : new int[] {LOW, -1, 21, HIGH}) due("step " + bad, x.step(bad), NONE);
      due("count", x.count(6), 1);
    });
  }

  private static void uses() {
    edge(25, "NONE without it", () -> {
      JoinBench x = new JoinBench();
      for (int bad : new int[] {LOW, -1, 20, HIGH}) due("uses " + bad, x.uses(bad), NONE);
    });
    edge(25, "STEMS 0 to 19, of no FORM, too", () -> {
      JoinBench x = new JoinBench();
      for (int stem = 0; stem < 20; stem++) due("uses " + stem, x.uses(stem), 0);
    });
    edge(25, "the first and the last STEM", () -> {
      JoinBench x = new JoinBench();
      form(x, "a", 0, 0, 0, false);
      form(x, "b", 0, 19, 0, false);
      part(x, "abb", 0);
      x.choose(0);
      due("0", x.uses(0), 1);
      due("19", x.uses(19), 2);
      due("1", x.uses(1), 0);
    });
    edge(25, "many of them: 200 CHOICES of 40 FORMS", () -> {
      JoinBench x = ayes(1, 1);
      part(x, times('a', 40), 0);
      for (int i = 0; i < 200; i++) x.choose(0);
      due("uses", x.uses(0), 8000);
    });
  }

  private static void about() {
    edge(26, "NONE without it", () -> {
      JoinBench x = temple();
      for (int what = 0; what < 5; what++) {
        for (int bad : new int[] {LOW, -1, 4, 39, 40, HIGH}) due("form " + bad, x.about(bad, what), NONE);
        due("without forms", new JoinBench().about(0, what), NONE);
      }
    });
    edge(26, "NONE for another what", () -> {
      JoinBench x = temple();
      for (int bad : new int[] {LOW, -1, 5, HIGH}) due("what " + bad, x.about(0, bad), NONE);
    });
    edge(26, "each at its lowest and at its highest", () -> {
      JoinBench x = new JoinBench();
      form(x, "a", 0, 0, 0, false);
      form(x, "abcdefgh", 5, 19, 99, true);
      int[] lowest = {0, 0, 0, 0, 1}, highest = {5, 19, 99, 1, 8};
      for (int what = 0; what < 5; what++) {
        due("lowest " + what, x.about(0, what), lowest[what]);
        due("highest " + what, x.about(1, what), highest[what]);
      }
    });
  }

  private static void count() {
    edge(27, "NONE for others", () -> {
      JoinBench x = temple();
      for (int bad : new int[] {LOW, -1, 8, HIGH}) due("count " + bad, x.count(bad), NONE);
    });
    edge(27, "each at its highest", () -> {
      JoinBench x = new JoinBench();
      for (int i = 0; i < 40; i++) form(x, "abcdefgh", 0, 99);
      for (int i = 0; i < 24; i++) rule(x, "h", "", "wxyz", 99);
      for (int i = 0; i < 40; i++) x.joins(i, 23);
      x.joined();
      part(x, "abcdefgh", 0);
      for (int i = 0; i < 30; i++) x.choose(0);
      for (int i = 0; i < 40; i++) x.cost(i, 99);
      x.step(20);
      for (int i = 0; i < 3; i++) x.feed(0, 0, 0, 0, 0);
      int[] want = {40, 24, 60, 437, 40, 30, 20, 79 * 99};
      for (int what = 0; what < 8; what++) due("count " + what, x.count(what), want[what]);
    });
    edge(27, "COST of the ROW: empty, one FORM, behind a RULE, behind PLAIN", () -> {
      JoinBench x = temple();
      x.row(10);
      due("empty", x.count(7), 0);
      x.joins(0, 0);
      due("one", x.count(7), 5);
      x.joins(1, 0);
      due("a rule", x.count(7), 5 + 3 + 7);
      x.joins(2, NONE);
      due("PLAIN", x.count(7), 5 + 3 + 7 + 4);
      x.row(10);
      due("empty again", x.count(7), 0);
    });
    edge(27, "LETTERS of OUT: as it was joined, not as the ROW is", () -> {
      JoinBench x = temple();
      x.joins(0, NONE);
      due("ahead of joined()", x.count(3), 0);
      x.joined();
      x.joins(2, NONE);
      due("behind it", x.count(3), 4);
    });
  }

  public static void main(String[] args) {
    newObject();
    feed();
    end();
    form();
    rule();
    cost();
    meets();
    becomes();
    fits();
    fitting();
    row();
    joins();
    joined();
    letter();
    back();
    part();
    parted();
    parting();
    formOf();
    ruleOf();
    trees();
    choose();
    undo();
    step();
    uses();
    about();
    count();
    System.out.println(passed + " passed, " + failed + " failed");
    if (failed != 0) System.exit(1);
  }
}

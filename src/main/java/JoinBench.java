import java.util.Arrays;

/** Joins rows of forms to a line of letters, and parts a line into the rows that would give it. */
public final class JoinBench {
    public static final int NONE = -1;

    private static final int REFUSED = -2;
    private static final int MAX_TAPE = 60;
    private static final int FED_BYTES = 20;
    private static final int MAX_FORMS = 40;
    private static final int MAX_FORM_LETTERS = 8;
    private static final int MAX_RULES = 24;
    private static final int MAX_TAKEN = 3;
    private static final int MAX_COMES = 4;
    private static final int MAX_ROW = 40;
    private static final int MAX_OUT = MAX_ROW * (MAX_FORM_LETTERS + MAX_COMES);
    private static final int MAX_LINE = 40;
    private static final int KINDS = 6;
    private static final int STEMS = 20;
    private static final int MAX_COST = 99;
    private static final int MAX_DAY = 999;
    private static final int MAX_STEP = 20;
    private static final int MAX_UNDO = 30;
    private static final int MAX_TOLD = 8;
    private static final int CUTS = MAX_TAKEN + 1;
    private static final long MOST = 1000000000000000L;
    // No row costs so much, and adding a few costs to it stays far from an int's end.
    private static final int DEAR = 1 << 20;

    private final Tape tape;
    private final Tongue tongue;
    private final Row row;
    private final Trees trees;
    private final Choices choices;
    // Made by the first part(): many objects never part a line, and its tables are large.
    private Parter parter;
    private int step;

    public JoinBench() {
        tape = new Tape();
        tongue = new Tongue();
        row = new Row();
        trees = new Trees();
        choices = new Choices();
        parter = null;
        step = 1;
    }

    public int feed(int a, int b, int c, int d, int e) {
        if (!tape.hasRoomFor(FED_BYTES)) {
            return NONE;
        }
        tape.addNumber(a);
        tape.addNumber(b);
        tape.addNumber(c);
        tape.addNumber(d);
        tape.addNumber(e);
        return tape.size;
    }

    public int end(int n) {
        if (!within(n, 0, tape.size)) {
            return NONE;
        }
        tape.size = n;
        return n;
    }

    public int form(int kind, int stem, int cost, boolean kept) {
        boolean good = tongue.formCount < MAX_FORMS && isKind(kind) && isStem(stem) && isCost(cost)
                && within(tape.size, 1, MAX_FORM_LETTERS) && tape.hasOnlyLetters();
        int number = NONE;
        if (good) {
            number = tongue.addForm(new Form(tape, kind, stem, cost, kept));
        }
        tape.size = 0;
        return number;
    }

    public int rule(int end, int beginning, int cost, int first, int last) {
        boolean good = tongue.ruleCount < MAX_RULES
                && within(end, 0, MAX_TAKEN) && within(beginning, 0, MAX_TAKEN) && end + beginning > 0
                && within(tape.size - end - beginning, 0, MAX_COMES) && tape.hasOnlyLetters()
                && isCost(cost) && isDay(first) && isDay(last) && first <= last;
        int number = NONE;
        if (good) {
            number = tongue.addRule(new Rule(tape, end, beginning, cost, first, last));
        }
        tape.size = 0;
        return number;
    }

    public int cost(int form, int cost) {
        Form told = tongue.formAt(form);
        if (told == null || !isCost(cost)) {
            return NONE;
        }
        int before = told.cost;
        told.cost = cost;
        return before;
    }

    public boolean meets(int first, int second, boolean may) {
        if (!isKind(first) || !isKind(second)) {
            return false;
        }
        return tongue.setMeeting(first, second, may);
    }

    public int becomes(int first, int second, int kind) {
        if (!isKind(first) || !isKind(second) || (kind != NONE && !isKind(kind))) {
            return REFUSED;
        }
        return trees.setKind(first, second, kind);
    }

    public int fits(int first, int second, int day) {
        int fitting = rulesBetween(first, second, day);
        return fitting == NONE ? NONE : Integer.bitCount(fitting);
    }

    public int fitting(int first, int second, int day, int k) {
        int fitting = rulesBetween(first, second, day);
        if (fitting == NONE) {
            return NONE;
        }
        int seen = 0;
        for (int number = 0; number < MAX_RULES; number++) {
            if (!hasRule(fitting, number)) {
                continue;
            }
            if (seen == k) {
                return number;
            }
            seen++;
        }
        return NONE;
    }

    public int row(int day) {
        if (!isDay(day)) {
            return NONE;
        }
        int before = row.chain.size;
        row.chain.size = 0;
        row.day = day;
        return before;
    }

    public int joins(int form, int rule) {
        Form next = tongue.formAt(form);
        if (next == null || row.chain.size >= MAX_ROW) {
            return NONE;
        }
        Form last = row.chain.last();
        if (last == null) {
            row.chain.append(next, null);
            return row.chain.size;
        }
        if (!canFollow(last, next, rule)) {
            return NONE;
        }
        row.chain.append(next, tongue.ruleAt(rule));
        return row.chain.size;
    }

    public int joined() {
        row.join();
        return row.outSize;
    }

    public int letter(int i) {
        return i >= 0 && i < row.outSize ? row.out[i] : NONE;
    }

    public int back() {
        if (!tape.hasRoomFor(row.outSize)) {
            return NONE;
        }
        for (int i = 0; i < row.outSize; i++) {
            tape.addByte(row.out[i]);
        }
        return tape.size;
    }

    public long part(int day) {
        boolean good = within(tape.size, 1, MAX_LINE) && tape.hasOnlyLetters() && isDay(day);
        int size = tape.size;
        tape.size = 0;
        if (!good) {
            return NONE;
        }
        if (parter == null) {
            parter = new Parter(tongue);
        }
        parter.countLine(tape.bytes, size, day);
        parter.tell();
        return parter.counted;
    }

    public long parted(int what) {
        if (parter == null) {
            return NONE;
        }
        switch (what) {
            case 0:
                return parter.countedUncut;
            case 1:
                return parter.counted;
            case 2:
                return parter.left ? 1 : 0;
            case 3:
                return parter.toldCount;
            default:
                return NONE;
        }
    }

    public int parting(int k, int what) {
        Path path = toldPath(k);
        Path cheapest = toldPath(0);
        if (path == null || cheapest == null) {
            return NONE;
        }
        switch (what) {
            case 0:
                return path.cost;
            case 1:
                return path.chain.size;
            case 2:
                return path.cost - cheapest.cost;
            default:
                return NONE;
        }
    }

    public int formOf(int k, int i) {
        Path path = toldPath(k);
        Form found = path == null ? null : path.chain.formAt(i);
        return found == null ? NONE : found.number;
    }

    public int ruleOf(int k, int i) {
        Path path = toldPath(k);
        Rule found = path == null ? null : path.chain.ruleAheadOf(i);
        return found == null ? NONE : found.number;
    }

    public long trees(int k, int kind) {
        Path path = toldPath(k);
        if (path == null || !isKind(kind)) {
            return NONE;
        }
        return trees.waysTo(path.chain, kind);
    }

    public int choose(int k) {
        Path path = toldPath(k);
        if (path == null) {
            return NONE;
        }
        choices.remember(tongue);
        choices.learn(path.chain, step);
        return choices.size;
    }

    public boolean undo() {
        return choices.restore(tongue);
    }

    public int step(int step) {
        if (!within(step, 0, MAX_STEP)) {
            return NONE;
        }
        int before = this.step;
        this.step = step;
        return before;
    }

    public int uses(int stem) {
        return isStem(stem) ? choices.uses[stem] : NONE;
    }

    public int about(int form, int what) {
        Form told = tongue.formAt(form);
        if (told == null) {
            return NONE;
        }
        switch (what) {
            case 0:
                return told.kind;
            case 1:
                return told.stem;
            case 2:
                return told.cost;
            case 3:
                return told.kept ? 1 : 0;
            case 4:
                return told.letters.length;
            default:
                return NONE;
        }
    }

    public int count(int what) {
        switch (what) {
            case 0:
                return tongue.formCount;
            case 1:
                return tongue.ruleCount;
            case 2:
                return tape.size;
            case 3:
                return row.outSize;
            case 4:
                return row.chain.size;
            case 5:
                return choices.size;
            case 6:
                return step;
            case 7:
                return row.chain.price();
            default:
                return NONE;
        }
    }

    private static boolean within(int value, int least, int most) {
        return value >= least && value <= most;
    }

    private static boolean isKind(int kind) {
        return within(kind, 0, KINDS - 1);
    }

    private static boolean isStem(int stem) {
        return within(stem, 0, STEMS - 1);
    }

    private static boolean isCost(int cost) {
        return within(cost, 0, MAX_COST);
    }

    private static boolean isDay(int day) {
        return within(day, 0, MAX_DAY);
    }

    private static boolean hasRule(int rules, int number) {
        return (rules >> number & 1) == 1;
    }

    private static long capped(long count) {
        return Math.min(count, MOST);
    }

    /** The rules that fit two forms by their numbers, a bit each; NONE without such forms or such a day. */
    private int rulesBetween(int first, int second, int day) {
        Form ahead = tongue.formAt(first);
        Form behind = tongue.formAt(second);
        if (ahead == null || behind == null || !isDay(day)) {
            return NONE;
        }
        return ahead.ends & behind.begins & tongue.rulesInForce(day);
    }

    private boolean canFollow(Form last, Form next, int rule) {
        int fitting = last.ends & next.begins & tongue.rulesInForce(row.day);
        if (rule == NONE) {
            return fitting == 0;
        }
        Rule between = tongue.ruleAt(rule);
        return between != null && hasRule(fitting, rule)
                && last.letters.length - row.chain.lastCut() > between.endSize
                && next.letters.length > between.beginningSize;
    }

    private Path toldPath(int k) {
        return parter != null && k >= 0 && k < parter.toldCount ? parter.told[k] : null;
    }

    private static final class Tape {
        final byte[] bytes = new byte[MAX_TAPE];
        int size = 0;

        boolean hasRoomFor(int more) {
            return more <= MAX_TAPE - size;
        }

        void addByte(int value) {
            if (size < MAX_TAPE) {
                bytes[size] = (byte) value;
                size++;
            }
        }

        void addNumber(int number) {
            for (int shift = 24; shift >= 0; shift -= 8) {
                addByte(number >> shift);
            }
        }

        boolean hasOnlyLetters() {
            for (int i = 0; i < size; i++) {
                if (bytes[i] < 'a' || bytes[i] > 'z') {
                    return false;
                }
            }
            return true;
        }
    }

    private static final class Form {
        final byte[] letters;
        final int kind;
        final int stem;
        final boolean kept;
        int cost;
        int number = NONE;
        // A bit for each rule that could stand behind it (ends) or ahead of it (begins), on any day.
        int ends = 0;
        int begins = 0;

        Form(Tape tape, int kind, int stem, int cost, boolean kept) {
            this.letters = Arrays.copyOf(tape.bytes, tape.size);
            this.kind = kind;
            this.stem = stem;
            this.cost = cost;
            this.kept = kept;
        }
    }

    private static final class Rule {
        // END, BEGINNING and what COMES, one behind the other.
        final byte[] letters;
        final int endSize;
        final int beginningSize;
        final int comesFrom;
        final int comesSize;
        final int cost;
        final int firstDay;
        final int lastDay;
        int number = NONE;

        Rule(Tape tape, int endSize, int beginningSize, int cost, int firstDay, int lastDay) {
            this.letters = Arrays.copyOf(tape.bytes, tape.size);
            this.endSize = endSize;
            this.beginningSize = beginningSize;
            this.comesFrom = endSize + beginningSize;
            this.comesSize = tape.size - comesFrom;
            this.cost = cost;
            this.firstDay = firstDay;
            this.lastDay = lastDay;
        }

        boolean isEndOf(Form form) {
            int start = form.letters.length - endSize;
            return start >= 0 && stands(0, endSize, form.letters, form.letters.length, start);
        }

        boolean isBeginningOf(Form form) {
            return stands(endSize, beginningSize, form.letters, form.letters.length, 0);
        }

        boolean stands(int from, int count, byte[] text, int textSize, int place) {
            if (count > textSize - place) {
                return false;
            }
            for (int i = 0; i < count; i++) {
                if (letters[from + i] != text[place + i]) {
                    return false;
                }
            }
            return true;
        }
    }

    private static final class Tongue {
        final Form[] forms = new Form[MAX_FORMS];
        final Rule[] rules = new Rule[MAX_RULES];
        int formCount = 0;
        int ruleCount = 0;
        final boolean[] forbidden = new boolean[KINDS * KINDS];

        Form formAt(int number) {
            return number >= 0 && number < formCount ? forms[number] : null;
        }

        Rule ruleAt(int number) {
            return number >= 0 && number < ruleCount ? rules[number] : null;
        }

        int addForm(Form form) {
            if (formCount >= MAX_FORMS) {
                return NONE;
            }
            form.number = formCount;
            forms[formCount] = form;
            formCount++;
            for (int i = 0; i < ruleCount; i++) {
                markFit(form, rules[i]);
            }
            return form.number;
        }

        int addRule(Rule rule) {
            if (ruleCount >= MAX_RULES) {
                return NONE;
            }
            rule.number = ruleCount;
            rules[ruleCount] = rule;
            ruleCount++;
            for (int i = 0; i < formCount; i++) {
                markFit(forms[i], rule);
            }
            return rule.number;
        }

        private void markFit(Form form, Rule rule) {
            if (form.kept) {
                return;
            }
            if (rule.isEndOf(form)) {
                form.ends |= 1 << rule.number;
            }
            if (rule.isBeginningOf(form)) {
                form.begins |= 1 << rule.number;
            }
        }

        int rulesInForce(int day) {
            int inForce = 0;
            for (int i = 0; i < ruleCount; i++) {
                if (rules[i].firstDay <= day && day <= rules[i].lastDay) {
                    inForce |= 1 << i;
                }
            }
            return inForce;
        }

        boolean setMeeting(int first, int second, boolean may) {
            boolean changes = forbidden[first * KINDS + second] == may;
            forbidden[first * KINDS + second] = !may;
            return changes;
        }

        boolean allMayMeet() {
            for (int i = 0; i < KINDS * KINDS; i++) {
                if (forbidden[i]) {
                    return false;
                }
            }
            return true;
        }
    }

    /** Forms one behind the other; the rule at an index stands ahead of the form there, null is PLAIN. */
    private static final class Chain {
        final Form[] forms = new Form[MAX_ROW];
        final Rule[] rules = new Rule[MAX_ROW];
        int size = 0;

        void append(Form form, Rule rule) {
            if (size < MAX_ROW) {
                forms[size] = form;
                rules[size] = rule;
                size++;
            }
        }

        Form formAt(int i) {
            return i >= 0 && i < size ? forms[i] : null;
        }

        Rule ruleAheadOf(int i) {
            return i >= 0 && i < size ? rules[i] : null;
        }

        Form last() {
            return formAt(size - 1);
        }

        int lastCut() {
            return cutAtBeginning(size - 1);
        }

        int cutAtBeginning(int i) {
            Rule ahead = ruleAheadOf(i);
            return ahead == null ? 0 : ahead.beginningSize;
        }

        int cutAtEnd(int i) {
            Rule behind = ruleAheadOf(i + 1);
            return behind == null ? 0 : behind.endSize;
        }

        int price() {
            int sum = 0;
            for (int i = 0; i < size; i++) {
                sum += forms[i].cost;
                if (rules[i] != null) {
                    sum += rules[i].cost;
                }
            }
            return sum;
        }

        void copyFrom(Chain other) {
            for (int i = 0; i < other.size; i++) {
                forms[i] = other.forms[i];
                rules[i] = other.rules[i];
            }
            size = other.size;
        }
    }

    private static final class Row {
        final Chain chain = new Chain();
        final byte[] out = new byte[MAX_OUT];
        int day = 0;
        int outSize = 0;

        void join() {
            outSize = 0;
            for (int i = 0; i < chain.size; i++) {
                Rule ahead = chain.rules[i];
                if (ahead != null) {
                    write(ahead.letters, ahead.comesFrom, ahead.letters.length);
                }
                byte[] letters = chain.forms[i].letters;
                write(letters, chain.cutAtBeginning(i), letters.length - chain.cutAtEnd(i));
            }
        }

        private void write(byte[] letters, int from, int to) {
            for (int i = from; i < to && outSize < MAX_OUT; i++) {
                out[outSize] = letters[i];
                outSize++;
            }
        }
    }

    /**
     * What can stand from each place of a line on. A state is a form without so many letters at its
     * beginning, set at a place; sums over all next forms are kept by place, so that each state looks
     * at its rules alone and not at each rule with each next form.
     */
    private static final class Lattice {
        final int[][] cheapest = new int[MAX_LINE][MAX_FORMS * CUTS];
        int size = 0;
        private final Tongue tongue;
        private final byte[] line = new byte[MAX_LINE];
        private final long[] ways = new long[MAX_FORMS * CUTS];
        private final long[][] plainWays = new long[MAX_LINE][MAX_FORMS];
        private final int[][] plainCheapest = new int[MAX_LINE][MAX_FORMS];
        private final long[][] ruledWays = new long[MAX_LINE][MAX_RULES * KINDS];
        private final int[][] ruledCheapest = new int[MAX_LINE][MAX_RULES * KINDS];
        private int inForce = 0;
        private final boolean[] barred = new boolean[KINDS * KINDS];

        Lattice(Tongue tongue) {
            this.tongue = tongue;
        }

        void setLine(byte[] letters, int count, int day) {
            size = Math.min(count, MAX_LINE);
            for (int i = 0; i < size; i++) {
                line[i] = letters[i];
            }
            inForce = tongue.rulesInForce(day);
        }

        /** Counts the rows that give the line; with cutting, those alone in which all kinds may meet. */
        long fill(boolean cutting) {
            for (int i = 0; i < KINDS * KINDS; i++) {
                barred[i] = cutting && tongue.forbidden[i];
            }
            for (int place = size - 1; place >= 0; place--) {
                Arrays.fill(plainWays[place], 0L);
                Arrays.fill(plainCheapest[place], DEAR);
                Arrays.fill(ruledWays[place], 0L);
                Arrays.fill(ruledCheapest[place], DEAR);
                for (int i = 0; i < tongue.formCount; i++) {
                    setForm(place, tongue.forms[i]);
                    gatherForm(place, tongue.forms[i]);
                }
            }
            long sum = 0;
            for (int i = 0; i < tongue.formCount; i++) {
                sum = capped(sum + ways[i * CUTS]);
            }
            return sum;
        }

        private void setForm(int place, Form form) {
            for (int cut = 0; cut < CUTS; cut++) {
                int state = form.number * CUTS + cut;
                ways[state] = 0;
                cheapest[place][state] = DEAR;
                int shared = sharedLetters(place, form, cut);
                if (shared > 0) {
                    addPlainEnd(place, form, cut, shared);
                    addRuledEnds(place, form, cut, shared);
                }
            }
        }

        private void addPlainEnd(int place, Form form, int cut, int shared) {
            int next = place + shared;
            if (shared < form.letters.length - cut) {
                return;
            }
            if (next >= size) {
                addToState(place, form, cut, 1, 0);
            } else {
                addToState(place, form, cut, plainWays[next][form.number], plainCheapest[next][form.number]);
            }
        }

        private void addRuledEnds(int place, Form form, int cut, int shared) {
            int usable = form.ends & inForce;
            for (int i = 0; usable != 0 && i < tongue.ruleCount; i++) {
                if (!hasRule(usable, i)) {
                    continue;
                }
                Rule rule = tongue.rules[i];
                int next = placeBehind(place, form.letters.length - cut, shared, rule);
                if (next != NONE) {
                    int entry = i * KINDS + form.kind;
                    addToState(place, form, cut, ruledWays[next][entry], ruledCheapest[next][entry] + rule.cost);
                }
            }
        }

        private void addToState(int place, Form form, int cut, long more, int cost) {
            int state = form.number * CUTS + cut;
            ways[state] = capped(ways[state] + more);
            cheapest[place][state] = Math.min(cheapest[place][state], cost + form.cost);
        }

        private void gatherForm(int place, Form form) {
            for (int cut = 0; cut < CUTS; cut++) {
                if (ways[form.number * CUTS + cut] == 0) {
                    continue;
                }
                if (cut == 0) {
                    gatherPlain(place, form);
                }
                gatherRuled(place, form, cut);
            }
        }

        private void gatherPlain(int place, Form form) {
            int state = form.number * CUTS;
            for (int i = 0; i < tongue.formCount; i++) {
                if (canMeetPlain(tongue.forms[i], form)) {
                    plainWays[place][i] = capped(plainWays[place][i] + ways[state]);
                    plainCheapest[place][i] = Math.min(plainCheapest[place][i], cheapest[place][state]);
                }
            }
        }

        private void gatherRuled(int place, Form form, int cut) {
            int usable = form.begins & inForce;
            for (int i = 0; usable != 0 && i < tongue.ruleCount; i++) {
                if (hasRule(usable, i) && tongue.rules[i].beginningSize == cut) {
                    gatherBehindRule(place, form, i);
                }
            }
        }

        private void gatherBehindRule(int place, Form form, int rule) {
            int state = form.number * CUTS + tongue.rules[rule].beginningSize;
            for (int kind = 0; kind < KINDS; kind++) {
                int entry = rule * KINDS + kind;
                if (!barred[kind * KINDS + form.kind]) {
                    ruledWays[place][entry] = capped(ruledWays[place][entry] + ways[state]);
                    ruledCheapest[place][entry] = Math.min(ruledCheapest[place][entry], cheapest[place][state]);
                }
            }
        }

        boolean canMeetPlain(Form first, Form second) {
            return (first.ends & second.begins & inForce) == 0 && !barred[first.kind * KINDS + second.kind];
        }

        boolean canMeetBy(int rule, Form first, Form second) {
            return hasRule(first.ends & second.begins & inForce, rule)
                    && !barred[first.kind * KINDS + second.kind];
        }

        /** How many letters of a form behind its cut ones are those of the line from a place on. */
        int sharedLetters(int place, Form form, int cut) {
            int most = Math.min(form.letters.length - cut, size - place);
            int shared = 0;
            while (shared < most && form.letters[cut + shared] == line[place + shared]) {
                shared++;
            }
            return shared;
        }

        /** Where the form behind a rule starts; NONE if the line is another one there, or has no more. */
        int placeBehind(int place, int letters, int shared, Rule rule) {
            int staying = letters - rule.endSize;
            if (staying < 1 || staying > shared) {
                return NONE;
            }
            boolean comes = rule.stands(rule.comesFrom, rule.comesSize, line, size, place + staying);
            int next = place + staying + rule.comesSize;
            return comes && next < size ? next : NONE;
        }
    }

    /** A row that gives the line's beginning; its cost is that of the cheapest way to end it. */
    private static final class Path {
        final Chain chain = new Chain();
        int cost = 0;
        // Of the forms and rules ahead of the last form.
        int spent = 0;
        // Where the last form starts in the line.
        int place = 0;
        boolean ended = false;
        // Its place in the order among the paths beside it if costs didn't matter.
        int rank = 0;
    }

    /**
     * Tells the first partings by growing eight rows at once, form by form. As a path's cost is what
     * its best end costs, eight paths that come ahead of another one have eight partings ahead of all
     * of that one's: so no more than eight must be kept.
     */
    private static final class Parter {
        // A step's key: cost, the path's rank, what is between, the next form, from high bits to low.
        private static final int FORM_BITS = 6;
        private static final int BETWEEN_BITS = 5;
        private static final int RANK_BITS = 3;
        private static final int COST_SHIFT = FORM_BITS + BETWEEN_BITS + RANK_BITS;
        private static final int ENDS = 0;
        private static final int PLAIN = 1;
        private static final int FIRST_RULE = 2;

        long countedUncut = 0;
        long counted = 0;
        boolean left = false;
        Path[] told = new Path[MAX_TOLD];
        int toldCount = 0;
        private Path[] grown = new Path[MAX_TOLD];
        private final int[] keys = new int[MAX_TOLD];
        private int keyCount = 0;
        private final Tongue tongue;
        private final Lattice lattice;

        Parter(Tongue tongue) {
            this.tongue = tongue;
            lattice = new Lattice(tongue);
            for (int i = 0; i < MAX_TOLD; i++) {
                told[i] = new Path();
                grown[i] = new Path();
            }
        }

        void countLine(byte[] letters, int size, int day) {
            lattice.setLine(letters, size, day);
            countedUncut = lattice.fill(false);
            counted = countedUncut;
            left = false;
            if (countedUncut > 0 && !tongue.allMayMeet()) {
                counted = lattice.fill(true);
                left = counted == 0;
            }
            if (left) {
                counted = lattice.fill(false);
            }
        }

        void tell() {
            startPaths();
            for (int i = 0; i < lattice.size && !allEnded(); i++) {
                growPaths();
            }
        }

        private boolean allEnded() {
            for (int i = 0; i < toldCount; i++) {
                if (!told[i].ended) {
                    return false;
                }
            }
            return true;
        }

        private void startPaths() {
            keyCount = 0;
            for (int i = 0; i < tongue.formCount; i++) {
                offer(lattice.cheapest[0][i * CUTS], 0, PLAIN, i);
            }
            toldCount = keyCount;
            for (int i = 0; i < keyCount; i++) {
                Path path = told[i];
                path.chain.size = 0;
                path.chain.append(tongue.formAt(keyForm(keys[i])), null);
                path.cost = keys[i] >> COST_SHIFT;
                path.spent = 0;
                path.place = 0;
                path.ended = false;
                path.rank = rankOf(keys[i]);
            }
        }

        private void growPaths() {
            keyCount = 0;
            for (int i = 0; i < toldCount; i++) {
                if (told[i].ended) {
                    offer(told[i].cost, told[i].rank, ENDS, 0);
                } else {
                    offerPlainSteps(told[i]);
                    offerRuledSteps(told[i]);
                }
            }
            for (int i = 0; i < keyCount; i++) {
                grow(grown[i], keys[i]);
            }
            toldCount = keyCount;
            Path[] old = told;
            told = grown;
            grown = old;
        }

        private void offerPlainSteps(Path path) {
            Form last = path.chain.last();
            if (last == null) {
                return;
            }
            int cut = path.chain.lastCut();
            int shared = lattice.sharedLetters(path.place, last, cut);
            int next = path.place + shared;
            int spent = path.spent + last.cost;
            if (shared < last.letters.length - cut) {
                return;
            }
            if (next >= lattice.size) {
                offer(spent, path.rank, ENDS, 0);
                return;
            }
            for (int i = 0; i < tongue.formCount; i++) {
                if (lattice.canMeetPlain(last, tongue.forms[i])) {
                    offer(spent + lattice.cheapest[next][i * CUTS], path.rank, PLAIN, i);
                }
            }
        }

        private void offerRuledSteps(Path path) {
            Form last = path.chain.last();
            if (last == null) {
                return;
            }
            int cut = path.chain.lastCut();
            int shared = lattice.sharedLetters(path.place, last, cut);
            for (int i = 0; i < tongue.ruleCount; i++) {
                if (!hasRule(last.ends, i)) {
                    continue;
                }
                int next = lattice.placeBehind(path.place, last.letters.length - cut, shared, tongue.rules[i]);
                if (next != NONE) {
                    offerStepsBehind(path, last, i, next);
                }
            }
        }

        private void offerStepsBehind(Path path, Form last, int number, int next) {
            Rule rule = tongue.rules[number];
            int spent = path.spent + last.cost + rule.cost;
            for (int i = 0; i < tongue.formCount; i++) {
                if (lattice.canMeetBy(number, last, tongue.forms[i])) {
                    int rest = lattice.cheapest[next][i * CUTS + rule.beginningSize];
                    offer(spent + rest, path.rank, FIRST_RULE + number, i);
                }
            }
        }

        /** Keeps the step's key, in order, if it is among the lowest eight. */
        private void offer(int cost, int rank, int between, int form) {
            if (cost >= DEAR) {
                return;
            }
            int key = ((cost << RANK_BITS | rank) << BETWEEN_BITS | between) << FORM_BITS | form;
            int at = keyCount;
            if (keyCount < MAX_TOLD) {
                keyCount++;
            } else if (keys[MAX_TOLD - 1] > key) {
                at = MAX_TOLD - 1;
            } else {
                return;
            }
            while (at > 0 && keys[at - 1] > key) {
                keys[at] = keys[at - 1];
                at--;
            }
            keys[at] = key;
        }

        private void grow(Path path, int key) {
            Path parent = pathOfRank(key >> FORM_BITS + BETWEEN_BITS & (1 << RANK_BITS) - 1);
            Form last = parent.chain.last();
            Form next = tongue.formAt(keyForm(key));
            int between = key >> FORM_BITS & (1 << BETWEEN_BITS) - 1;
            path.chain.copyFrom(parent.chain);
            path.cost = key >> COST_SHIFT;
            path.rank = rankOf(key);
            path.spent = parent.spent;
            path.place = parent.place;
            path.ended = between == ENDS;
            if (path.ended || last == null || next == null) {
                return;
            }
            Rule rule = tongue.ruleAt(between - FIRST_RULE);
            path.spent += last.cost;
            path.place += last.letters.length - parent.chain.lastCut();
            if (rule != null) {
                path.spent += rule.cost;
                path.place += rule.comesSize - rule.endSize;
            }
            path.chain.append(next, rule);
        }

        private Path pathOfRank(int rank) {
            for (int i = 0; i < toldCount; i++) {
                if (told[i].rank == rank) {
                    return told[i];
                }
            }
            return told[0];
        }

        private static int keyForm(int key) {
            return key & (1 << FORM_BITS) - 1;
        }

        private int rankOf(int key) {
            int withoutCost = (1 << COST_SHIFT) - 1;
            int rank = 0;
            for (int i = 0; i < keyCount; i++) {
                if ((keys[i] & withoutCost) < (key & withoutCost)) {
                    rank++;
                }
            }
            return rank;
        }
    }

    private static final class Trees {
        private final int[] kinds = new int[KINDS * KINDS];
        // By first form; in it by how many more forms, then by kind. Made by the first count.
        private long[][] ways = null;

        Trees() {
            Arrays.fill(kinds, NONE);
        }

        int setKind(int first, int second, int kind) {
            int before = kinds[first * KINDS + second];
            kinds[first * KINDS + second] = kind;
            return before;
        }

        long waysTo(Chain chain, int kind) {
            if (ways == null) {
                ways = new long[MAX_ROW][MAX_ROW * KINDS];
            }
            if (chain.size < 1) {
                return 0;
            }
            for (int start = 0; start < chain.size; start++) {
                Arrays.fill(ways[start], 0L);
                ways[start][chain.forms[start].kind] = 1;
            }
            for (int more = 1; more < chain.size; more++) {
                for (int start = 0; start + more < chain.size; start++) {
                    addSplits(start, more);
                }
            }
            return ways[0][(chain.size - 1) * KINDS + kind];
        }

        private void addSplits(int start, int more) {
            for (int firstMore = 0; firstMore < more; firstMore++) {
                for (int first = 0; first < KINDS; first++) {
                    long firstWays = ways[start][firstMore * KINDS + first];
                    if (firstWays > 0) {
                        addSeconds(start, more, firstMore, first, firstWays);
                    }
                }
            }
        }

        private void addSeconds(int start, int more, int firstMore, int first, long firstWays) {
            int secondStart = start + firstMore + 1;
            int secondMore = more - firstMore - 1;
            for (int second = 0; second < KINDS; second++) {
                int kind = kinds[first * KINDS + second];
                long secondWays = ways[secondStart][secondMore * KINDS + second];
                if (kind != NONE && secondWays > 0) {
                    int entry = more * KINDS + kind;
                    ways[start][entry] = capped(ways[start][entry] + cappedProduct(firstWays, secondWays));
                }
            }
        }

        private static long cappedProduct(long first, long second) {
            if (first <= 0 || second <= 0) {
                return 0;
            }
            return first > MOST / second ? MOST : capped(first * second);
        }
    }

    /** The uses, and what costs and uses were ahead of each choice that can be undone, in a ring. */
    private static final class Choices {
        final int[] uses = new int[STEMS];
        int size = 0;
        private final int[][] costsBefore = new int[MAX_UNDO][MAX_FORMS];
        private final int[][] usesBefore = new int[MAX_UNDO][STEMS];
        private final int[] formsBefore = new int[MAX_UNDO];
        private int oldest = 0;

        void remember(Tongue tongue) {
            if (size == MAX_UNDO) {
                oldest = (oldest + 1) % MAX_UNDO;
                size--;
            }
            int slot = (oldest + size) % MAX_UNDO;
            for (int i = 0; i < tongue.formCount; i++) {
                costsBefore[slot][i] = tongue.forms[i].cost;
            }
            formsBefore[slot] = tongue.formCount;
            System.arraycopy(uses, 0, usesBefore[slot], 0, STEMS);
            size++;
        }

        void learn(Chain chain, int step) {
            long seen = 0;
            for (int i = 0; i < chain.size; i++) {
                Form form = chain.forms[i];
                uses[form.stem]++;
                if ((seen >> form.number & 1) == 0) {
                    form.cost = Math.max(0, form.cost - step);
                }
                seen |= 1L << form.number;
            }
        }

        boolean restore(Tongue tongue) {
            if (size == 0) {
                return false;
            }
            size--;
            int slot = (oldest + size) % MAX_UNDO;
            // Forms made since then had no cost ahead of the choice: theirs stay.
            for (int i = 0; i < formsBefore[slot] && i < tongue.formCount; i++) {
                tongue.forms[i].cost = costsBefore[slot][i];
            }
            System.arraycopy(usesBefore[slot], 0, uses, 0, STEMS);
            return true;
        }
    }
}

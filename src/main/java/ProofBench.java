import java.util.Arrays;

/** A bench for proofs of a logic of many kinds of things; the document's promises are numbered 1 to 13. */
public final class ProofBench {
    public static final int BAD = -1;

    private static final int TAPE_MOST = 4000;
    private static final int FEED_BYTES = 40;
    private static final int OUT_MOST = 19000;
    private static final int PLACES_MOST = 400;
    private static final int DEEP_MOST = 40;
    private static final int STEPS_MOST = 300;
    private static final int HYPOTHESES_MOST = 20;
    private static final int FACTS_MOST = 40;
    private static final int VARIABLES_MOST = 30;
    private static final int PARTS_MOST = 3;
    private static final int SORTS_MOST = 6;
    private static final int NUMERAL_MOST = 99999;

    private static final int UNKNOWN = 1;
    private static final int OTHER_KIND = 2;
    private static final int PARTS = 3;
    private static final int TERM_OR_FORMULA = 4;
    private static final int OTHER_SORT = 5;
    private static final int GREAT = 6;
    private static final int NUMBER_OFF = 7;
    private static final int FULL = 8;
    private static final int NO_STEP = 9;
    private static final int FORM = 10;
    private static final int UNLIKE = 11;
    private static final int FREE_THERE = 12;
    private static final int NONE_LEFT = 13;
    private static final int HYPOTHESES_LEFT = 14;
    private static final int NOT_FOUND = 15;
    private static final int WHYS = 16;

    // The kinds of NAMES come first, since a table is laid out by them; the others are kinds of PLACES only.
    private static final int SORT = 0;
    private static final int VARIABLE = 1;
    private static final int FUN = 2;
    private static final int REL = 3;
    private static final int FACT = 4;
    private static final int KINDS = 5;
    private static final int NUMERAL = 5;
    private static final int EQUAL = 6;
    private static final int AND = 7;
    private static final int OR = 8;
    private static final int IMPLIES = 9;
    private static final int ALL = 10;
    private static final int SOME = 11;
    private static final int FALSUM = 12;
    private static final int HOLE = 13;

    private static final int NUM = 0;
    private static final int NEXT = 0;
    // What looking at a THING answers instead of a SORT.
    private static final int FORMULA = 6;

    // Each WORD with what stands behind it; README.md tells the letters.
    private static final String FORMS =
            "SORT a;FUN aSs;REL aS;VAR as;AXIOM aF;DEFINE aVF;PROOF ;THEOREM a;SHOW p;FROM pk;TELL t;ALIKE XX;PUT FvU;SIZE sz;ZERO o;VALUE fKw;HOLDS rK;LACKS rK;JUDGE F;ASSUME F;BOTH pp;LEFT p;RIGHT p;FIRST pF;SECOND pF;CASE ppp;APPLY pp;DISCHARGE pF;GENERALISE pv;SPECIALISE pT;WITNESS pTF;OPEN ppv;SAME T;REPLACE ppvF;ABSURD pF;INDUCTION ppiF;COUNT c;USE t;SEARCH F*;";
    private static final int W_SORT = 0;
    private static final int W_FUN = 1;
    private static final int W_REL = 2;
    private static final int W_VAR = 3;
    private static final int W_AXIOM = 4;
    private static final int W_DEFINE = 5;
    private static final int W_PROOF = 6;
    private static final int W_THEOREM = 7;
    private static final int W_SHOW = 8;
    private static final int W_FROM = 9;
    private static final int W_TELL = 10;
    private static final int W_ALIKE = 11;
    private static final int W_PUT = 12;
    private static final int W_SIZE = 13;
    private static final int W_ZERO = 14;
    private static final int W_VALUE = 15;
    private static final int W_HOLDS = 16;
    private static final int W_LACKS = 17;
    private static final int W_JUDGE = 18;
    private static final int W_ASSUME = 19;
    private static final int W_BOTH = 20;
    private static final int W_LEFT = 21;
    private static final int W_RIGHT = 22;
    private static final int W_FIRST = 23;
    private static final int W_SECOND = 24;
    private static final int W_CASE = 25;
    private static final int W_APPLY = 26;
    private static final int W_DISCHARGE = 27;
    private static final int W_GENERALISE = 28;
    private static final int W_SPECIALISE = 29;
    private static final int W_WITNESS = 30;
    private static final int W_OPEN = 31;
    private static final int W_SAME = 32;
    private static final int W_REPLACE = 33;
    private static final int W_ABSURD = 34;
    private static final int W_INDUCTION = 35;
    private static final int W_COUNT = 36;
    private static final int W_USE = 37;
    private static final int W_SEARCH = 38;
    private static final int WORDS = 39;

    private final Tape tape;
    private final Names names;
    private final Forms forms;
    private final Model model;
    private final Look look;
    private final Proof proof;
    private final Out said;
    private final int[] refused;
    private int wrongAt;

    public ProofBench() {
        tape = new Tape();
        names = new Names();
        forms = new Forms(names);
        model = new Model(names, forms);
        look = new Look(tape, names, model);
        proof = new Proof(names, forms, look);
        said = new Out(names);
        refused = new int[WHYS];
        wrongAt = BAD;
    }

    public int feed(long a, long b, long c, long d, long e) {
        if (tape.length + FEED_BYTES > TAPE_MOST) {
            return BAD;
        }
        tape.take(a);
        tape.take(b);
        tape.take(c);
        tape.take(d);
        tape.take(e);
        return tape.length;
    }

    public int end(int n) {
        if (n < 0 || n > tape.length) {
            return BAD;
        }
        tape.length = n;
        return n;
    }

    public int run() {
        said.count = 0;
        tape.scan();
        int whole = 0;
        while (whole < TAPE_MOST && tape.whole()) {
            whole++;
            int before = said.count;
            int why = look.operands();
            if (why == 0) {
                why = proof.premises(tape);
            }
            if (why == 0) {
                why = tape.word >= W_ASSUME ? proof.prove(tape.word) : obey(tape.word);
            }
            if (why != 0 || said.count == before) {
                said.put(why);
            }
            if (why >= 0 && why < WHYS) {
                refused[why]++;
            }
        }
        wrongAt = tape.wrongAt;
        tape.length = 0;
        return whole;
    }

    public int wrong() {
        return wrongAt;
    }

    public int outputs() {
        return said.count;
    }

    public int out(int i) {
        return said.at(i);
    }

    public int steps() {
        return proof.count;
    }

    public int hypotheses(int p) {
        return p < 0 || p >= proof.count ? BAD : proof.stepAt(p).from.length;
    }

    public int facts() {
        return names.counts[FACT];
    }

    public int leans(int i, int j) {
        if (i < 0 || i >= names.counts[FACT] || j < 0 || j >= names.counts[FACT]) {
            return BAD;
        }
        return (int) (proof.factAt(i).leaning >> j & 1);
    }

    public int inductive(int i) {
        if (i < 0 || i >= names.counts[FACT]) {
            return BAD;
        }
        return proof.factAt(i).induced ? 1 : 0;
    }

    public int refusals(int why) {
        return why < 0 || why >= WHYS ? 0 : refused[why];
    }

    private int obey(int word) {
        switch (word) {
            case W_SORT:
                return names.tell(SORT, look.fresh, names.counts[SORT], look.row, 0);
            case W_FUN:
                return names.tell(FUN, look.fresh, look.values[2], look.row, look.rowLength);
            case W_REL:
                return names.tell(REL, look.fresh, 0, look.row, look.rowLength);
            case W_VAR:
                return names.tell(VARIABLE, look.fresh, look.values[1], look.row, 0);
            case W_AXIOM:
                return proof.axiom();
            case W_DEFINE:
                return proof.define();
            case W_PROOF:
                proof.count = 0;
                return 0;
            case W_THEOREM:
                return proof.theorem();
            case W_SHOW:
                return tellKept(proof.named[0].shows);
            case W_FROM:
                return tellHypothesis(proof.named[0], look.values[1]);
            case W_TELL:
                return tellKept(proof.factAt(look.values[0]).shows);
            case W_ALIKE:
                return said.tellNumber(forms.same(look.first.codes, 0, look.second.codes, 0) ? 1 : 0);
            case W_PUT:
                return tellPut();
            case W_JUDGE:
                return tellJudgement();
            default:
                return model.set(word, look);
        }
    }

    private int tellHypothesis(Step step, int k) {
        if (k < 0 || k >= step.from.length) {
            return NUMBER_OFF;
        }
        int[] codes = step.from[k].codes;
        return said.tellThing(codes, codes.length);
    }

    private int tellKept(Thing thing) {
        return said.tellThing(thing.codes, thing.codes.length);
    }

    private int tellPut() {
        Row into = proof.made;
        Row term = look.second;
        int free = forms.freeIn(term.codes, 0, term.length);
        forms.load(look.first.codes, 0, look.first.length);
        if (!forms.putHoles(look.values[1], free)) {
            return NONE_LEFT;
        }
        into.length = 0;
        forms.fill(into, term.codes, 0, term.length);
        return forms.tooGreat(into) ? GREAT : said.tellThing(into.codes, into.length);
    }

    private int tellJudgement() {
        int judged = model.judge(look.first);
        return judged < 0 ? GREAT : said.tellNumber(judged);
    }

    /** The TAPE's bytes, its TOKENS, and where the STATEMENT at hand has its operands among them. */
    private static final class Tape {
        private static final int END = 0;
        private static final int WORD = 1;
        private static final int NAME = 2;
        private static final int NUMBER = 3;
        private static final int NO_TOKEN = 4;
        private static final int NAME_MOST = 12;
        private static final int DIGITS_MOST = 6;
        private static final int OPERANDS_MOST = 4;
        private static final String SIGNS = "(),;=&|>!?#";

        final byte[] bytes = new byte[TAPE_MOST];
        // A sign's kind is its byte, so no kind above may be one.
        final int[] kinds = new int[TAPE_MOST + 2];
        final int[] starts = new int[TAPE_MOST + 2];
        final long[] worths = new long[TAPE_MOST + 2];
        final int[] formAt = new int[WORDS];
        final int[] operandAt = new int[OPERANDS_MOST];
        int length;
        int count;
        int next;
        int word;
        int wrongAt;

        Tape() {
            int at = 0;
            for (int k = 0; k < WORDS; k++) {
                formAt[k] = at;
                while (at < FORMS.length() && FORMS.charAt(at) != ';') {
                    at++;
                }
                at++;
            }
        }

        void take(long eight) {
            for (int shift = 56; shift >= 0; shift -= 8) {
                if (length < TAPE_MOST) {
                    bytes[length] = (byte) (eight >> shift);
                    length++;
                }
            }
        }

        void scan() {
            count = 0;
            next = 0;
            int at = 0;
            while (at < length) {
                int c = byteAt(at);
                int to = at + 1;
                if (c != ' ' && c != '\n') {
                    to = token(c, at);
                }
                at = Math.max(to, at + 1);
            }
            add(END, length, 0);
        }

        // Behind what no TOKEN begins with, nothing is ever read.
        private int token(int c, int at) {
            if (isCapital(c)) {
                return scanWord(at);
            }
            if (isLetter(c)) {
                return scanName(at);
            }
            if (isDigit(c) || c == '-') {
                return scanNumber(c, at);
            }
            boolean sign = SIGNS.indexOf((char) c) >= 0;
            add(sign ? c : NO_TOKEN, at, 0);
            return sign ? at + 1 : length;
        }

        private int scanWord(int at) {
            int to = at;
            while (to < length && isCapital(byteAt(to))) {
                to++;
            }
            int number = BAD;
            for (int k = 0; k < WORDS; k++) {
                if (isWord(formAt[k], at, to)) {
                    number = k;
                }
            }
            add(WORD, at, number);
            return to;
        }

        private boolean isWord(int form, int from, int to) {
            int size = to - from;
            if (form + size >= FORMS.length() || FORMS.charAt(form + size) != ' ') {
                return false;
            }
            for (int k = 0; k < size; k++) {
                if (FORMS.charAt(form + k) != byteAt(from + k)) {
                    return false;
                }
            }
            return true;
        }

        private int scanName(int at) {
            int to = at;
            long key = 0;
            while (to < length && (isLetter(byteAt(to)) || isDigit(byteAt(to)))) {
                key = key * Names.BASE + Names.symbol(byteAt(to));
                to++;
            }
            boolean fits = to - at <= NAME_MOST;
            add(fits ? NAME : NO_TOKEN, at, key);
            return fits ? to : length;
        }

        private int scanNumber(int c, int at) {
            int first = c == '-' ? at + 1 : at;
            int to = first;
            long number = 0;
            while (to < length && isDigit(byteAt(to))) {
                number = number * 10 + byteAt(to) - '0';
                to++;
            }
            boolean fits = to > first && to - first <= DIGITS_MOST;
            add(fits ? NUMBER : NO_TOKEN, at, first > at ? -number : number);
            return fits ? to : length;
        }

        private void add(int kind, int start, long worth) {
            if (count < kinds.length) {
                kinds[count] = kind;
                starts[count] = start;
                worths[count] = worth;
                count++;
            }
        }

        private int byteAt(int at) {
            return at >= 0 && at < TAPE_MOST ? bytes[at] & 255 : 0;
        }

        private static boolean isCapital(int c) {
            return c >= 'A' && c <= 'Z';
        }

        private static boolean isLetter(int c) {
            return c >= 'a' && c <= 'z';
        }

        private static boolean isDigit(int c) {
            return c >= '0' && c <= '9';
        }

        int kindAt(int token) {
            return token >= 0 && token < count ? kinds[token] : END;
        }

        long worthAt(int token) {
            return token >= 0 && token < count ? worths[token] : 0;
        }

        int startAt(int token) {
            return token >= 0 && token < count ? starts[token] : length;
        }

        /** The letter of the k-th operand of the STATEMENT at hand; ';' behind the last one. */
        char letter(int k) {
            if (word < 0 || word >= WORDS) {
                return ';';
            }
            int at = formAt[word];
            while (at < FORMS.length() && FORMS.charAt(at) != ' ') {
                at++;
            }
            at += 1 + k;
            return at < FORMS.length() ? FORMS.charAt(at) : ';';
        }

        /** Whether one more whole STATEMENT stands there; if not, wrongAt tells where it is WRONG, or BAD. */
        boolean whole() {
            wrongAt = BAD;
            if (kindAt(next) == END) {
                return false;
            }
            boolean fits = kindAt(next) == WORD && worthAt(next) >= 0;
            word = fits ? (int) worthAt(next) : BAD;
            if (fits) {
                next++;
            }
            for (int k = 0; fits && k < OPERANDS_MOST && letter(k) != ';'; k++) {
                operandAt[k] = next;
                fits = operand(letter(k));
            }
            if (fits && pass(';')) {
                return true;
            }
            wrongAt = startAt(next);
            return false;
        }

        private boolean operand(char letter) {
            switch (letter) {
                case 'a': case 's': case 'v': case 'i': case 'f': case 'r': case 't':
                    return pass(NAME);
                case 'S': case 'V':
                    return row(NAME);
                case 'K':
                    return row(NUMBER);
                case 'F': case 'T': case 'U': case 'X':
                    return thing(0);
                case '*':
                    next += numbersAt(next);
                    return true;
                default:
                    return pass(NUMBER);
            }
        }

        private boolean pass(int kind) {
            if (kindAt(next) != kind) {
                return false;
            }
            next++;
            return true;
        }

        private boolean row(int kind) {
            if (!pass('(')) {
                return false;
            }
            if (pass(')')) {
                return true;
            }
            boolean fits = pass(kind);
            while (fits && next < count && kindAt(next) == ',') {
                next++;
                fits = pass(kind);
            }
            return fits && pass(')');
        }

        private boolean thing(int depth) {
            if (depth >= DEEP_MOST) {
                return false;
            }
            int kind = kindAt(next);
            switch (kind) {
                case NUMBER: case '#':
                    next++;
                    return true;
                case NAME:
                    next++;
                    return kindAt(next) != '(' || things(depth + 1);
                case '!': case '?':
                    next++;
                    return pass(NAME) && thing(depth + 1);
                case '=': case '&': case '|': case '>':
                    next++;
                    return pass('(') && thing(depth + 1) && pass(',') && thing(depth + 1) && pass(')');
                default:
                    return false;
            }
        }

        private boolean things(int depth) {
            boolean fits = pass('(') && thing(depth);
            while (fits && next < count && kindAt(next) == ',') {
                next++;
                fits = thing(depth);
            }
            return fits && pass(')');
        }

        int rowLength(int token) {
            if (kindAt(token + 1) == ')') {
                return 0;
            }
            int parts = 1;
            while (token + 2 * parts < count && kindAt(token + 2 * parts) == ',') {
                parts++;
            }
            return parts;
        }

        /** How many NUMBERS stand there one behind the other. */
        int numbersAt(int token) {
            int numbers = 0;
            while (token + numbers < count && kindAt(token + numbers) == NUMBER) {
                numbers++;
            }
            return numbers;
        }
    }

    /** All NAMES, in one table by kind; a defined REL's NAME is there as a FACT's, too. */
    private static final class Names {
        // Twelve symbols of 36, none of them 0, fit into a long: a key tells its NAME.
        static final int BASE = 37;
        private static final int EACH = 40;

        final int[] counts = new int[KINDS];
        private final long[] keys = new long[KINDS * EACH];
        private final int[] sorts = new int[KINDS * EACH];
        private final int[] arities = new int[KINDS * EACH];
        private final int[] parts = new int[KINDS * EACH * PARTS_MOST];

        Names() {
            int[] one = new int[PARTS_MOST];
            tell(SORT, keyOf("num"), NUM, one, 0);
            tell(FUN, keyOf("next"), NUM, one, 1);
        }

        static int symbol(int c) {
            return c >= 'a' ? c - 'a' + 1 : c - '0' + 27;
        }

        static int byteOf(int symbol) {
            return symbol > 26 ? symbol - 27 + '0' : symbol - 1 + 'a';
        }

        private static long keyOf(String text) {
            long key = 0;
            for (int k = 0; k < text.length(); k++) {
                key = key * BASE + symbol(text.charAt(k));
            }
            return key;
        }

        private static int most(int kind) {
            switch (kind) {
                case SORT:
                    return SORTS_MOST;
                case VARIABLE:
                    return VARIABLES_MOST;
                case FACT:
                    return FACTS_MOST;
                default:
                    return Model.TABLES_EACH;
            }
        }

        boolean full(int kind) {
            return counts[kind] >= most(kind);
        }

        int tell(int kind, long key, int sort, int[] partSorts, int arity) {
            if (full(kind)) {
                return FULL;
            }
            int slot = kind * EACH + counts[kind];
            keys[slot] = key;
            sorts[slot] = sort;
            arities[slot] = arity;
            for (int k = 0; k < arity && k < partSorts.length && k < PARTS_MOST; k++) {
                parts[slot * PARTS_MOST + k] = partSorts[k];
            }
            counts[kind]++;
            return 0;
        }

        int indexOf(int kind, long key) {
            for (int k = 0; k < counts[kind]; k++) {
                if (keys[kind * EACH + k] == key) {
                    return k;
                }
            }
            return BAD;
        }

        // No NAME has the key 0, which stands where none is told yet.
        boolean knows(long key) {
            for (int slot = 0; slot < KINDS * EACH; slot++) {
                if (keys[slot] == key) {
                    return true;
                }
            }
            return false;
        }

        /** The index of a NAME of this kind; if there is none such, why, below 0. */
        int want(int kind, long key) {
            int index = indexOf(kind, key);
            if (index >= 0) {
                return index;
            }
            return knows(key) ? -OTHER_KIND : -UNKNOWN;
        }

        long key(int kind, int index) {
            return index < 0 || index >= EACH ? 0 : keys[kind * EACH + index];
        }

        int sort(int kind, int index) {
            return index < 0 || index >= EACH ? 0 : sorts[kind * EACH + index];
        }

        int arity(int kind, int index) {
            return index < 0 || index >= EACH ? 0 : arities[kind * EACH + index];
        }

        int part(int kind, int index, int k) {
            boolean told = index >= 0 && index < EACH && k >= 0 && k < PARTS_MOST;
            return told ? parts[(kind * EACH + index) * PARTS_MOST + k] : 0;
        }

        int variable(int index) {
            return Thing.code(VARIABLE, 0, sort(VARIABLE, index), index);
        }

        int quantifier(int kind, int variable) {
            return Thing.code(kind, 1, sort(VARIABLE, variable), variable);
        }
    }

    /**
     * A THING that is kept: one code for each PLACE, a THING ahead of its parts. A code tells how many parts
     * follow, so that rows can be walked without the table of NAMES.
     */
    private static final class Thing {
        final int[] codes;
        final int free;

        Thing(int[] codes, int free) {
            this.codes = codes;
            this.free = free;
        }

        static int code(int kind, int arity, int sort, int index) {
            return index << 9 | sort << 6 | arity << 4 | kind;
        }

        static int kind(int code) {
            return code & 15;
        }

        static int arity(int code) {
            return code >> 4 & 3;
        }

        static int sort(int code) {
            return code >> 6 & 7;
        }

        static int index(int code) {
            return code >> 9;
        }

        static boolean quantifies(int code) {
            int kind = code & 15;
            return kind == ALL || kind == SOME;
        }

        static int headKind(int[] codes) {
            return codes.length == 0 ? FALSUM : kind(codes[0]);
        }

        /** Where the THING behind the one at a place begins. */
        static int after(int[] codes, int at) {
            int need = 1;
            int i = at;
            while (need > 0 && i >= 0 && i < codes.length) {
                need += arity(codes[i]) - 1;
                i++;
            }
            return i;
        }
    }

    /** Codes that are being put together; what does not fit is counted all the same. */
    private static final class Row {
        final int[] codes;
        int length;

        Row(int most) {
            codes = new int[most];
        }

        void add(int code) {
            set(length, code);
            length++;
        }

        void set(int at, int code) {
            if (at >= 0 && at < codes.length) {
                codes[at] = code;
            }
        }

        void addPart(int[] from, int at, int size) {
            if (at < 0 || size < 0 || at + size > from.length) {
                return;
            }
            if (length + size <= codes.length) {
                System.arraycopy(from, at, codes, length, size);
            }
            length += size;
        }

        void addAll(int[] from) {
            addPart(from, 0, from.length);
        }

        void addRow(Row row) {
            addPart(row.codes, 0, Math.min(row.length, row.codes.length));
        }
    }

    /** What can be asked of rows of codes, and A[v:=t]. */
    private static final class Forms {
        private final Names names;
        // The row at hand, and of each THING in it: where it is over, and its FREE VARIABLES.
        final int[] codes = new int[PLACES_MOST];
        final int[] ends = new int[PLACES_MOST];
        final int[] frees = new int[PLACES_MOST];
        int length;
        private final int[] heights = new int[PLACES_MOST + PARTS_MOST];
        private final int[] lefts = new int[DEEP_MOST];
        private final int[] rights = new int[DEEP_MOST];
        private final int[] needs = new int[DEEP_MOST];

        Forms(Names names) {
            this.names = names;
        }

        /** Whether the THINGS that begin there are ALIKE. */
        boolean same(int[] a, int i, int[] b, int j) {
            int need = 1;
            int open = 0;
            int k = 0;
            while (need > 0 && i + k < a.length && j + k < b.length) {
                int left = a[i + k];
                int right = b[j + k];
                while (open > 0 && needs[open - 1] > need) {
                    open--;
                }
                if (Thing.kind(left) == VARIABLE && Thing.kind(right) == VARIABLE) {
                    if (!sameVariable(Thing.index(left), Thing.index(right), open)) {
                        return false;
                    }
                } else if (Thing.quantifies(left)) {
                    if (Thing.kind(left) != Thing.kind(right) || Thing.sort(left) != Thing.sort(right) || open >= DEEP_MOST) {
                        return false;
                    }
                    lefts[open] = Thing.index(left);
                    rights[open] = Thing.index(right);
                    needs[open] = need;
                    open++;
                } else if (left != right) {
                    return false;
                }
                need += Thing.arity(left) - 1;
                k++;
            }
            return need == 0;
        }

        private boolean sameVariable(int left, int right, int open) {
            for (int k = open - 1; k >= 0; k--) {
                boolean leftBound = lefts[k] == left;
                boolean rightBound = rights[k] == right;
                if (leftBound || rightBound) {
                    return leftBound && rightBound;
                }
            }
            return left == right;
        }

        boolean sameRow(Thing thing, Row row) {
            return thing.codes.length == row.length && same(thing.codes, 0, row.codes, 0);
        }

        boolean tooGreat(Row row) {
            return row.length > PLACES_MOST || deep(row) > DEEP_MOST;
        }

        // From the right, a THING's parts are measured ahead of it.
        private int deep(Row row) {
            int top = 0;
            for (int i = Math.min(row.length, row.codes.length) - 1; i >= 0; i--) {
                int height = 0;
                for (int k = Thing.arity(row.codes[i]); k > 0 && top > 0; k--) {
                    top--;
                    height = Math.max(height, heights[top]);
                }
                if (top < heights.length) {
                    heights[top] = height + 1;
                    top++;
                }
            }
            return top > 0 ? heights[0] : 0;
        }

        /** Makes these codes the row at hand. */
        void load(int[] from, int at, int size) {
            length = 0;
            if (at < 0 || size < 0 || size > PLACES_MOST || at + size > from.length) {
                return;
            }
            System.arraycopy(from, at, codes, 0, size);
            length = size;
            for (int i = size - 1; i >= 0; i--) {
                int free = Thing.kind(codes[i]) == VARIABLE ? 1 << Thing.index(codes[i]) : 0;
                int to = i + 1;
                for (int k = Thing.arity(codes[i]); k > 0 && to < size; k--) {
                    free |= frees[to];
                    to = ends[to];
                }
                frees[i] = Thing.quantifies(codes[i]) ? free & ~(1 << Thing.index(codes[i])) : free;
                ends[i] = to;
            }
        }

        int freeIn(int[] from, int at, int size) {
            load(from, at, size);
            return length > 0 ? frees[0] : 0;
        }

        Thing keep(Row row) {
            int size = Math.min(row.length, row.codes.length);
            return new Thing(Arrays.copyOf(row.codes, size), freeIn(row.codes, 0, size));
        }

        /** How many ! and ? of the row at hand are around one another, at most. */
        int nested() {
            int open = 0;
            int most = 0;
            for (int i = 0; i < length; i++) {
                while (open > 0 && needs[open - 1] <= i) {
                    open--;
                }
                if (Thing.quantifies(codes[i]) && open < DEEP_MOST) {
                    needs[open] = ends[i];
                    open++;
                    most = Math.max(most, open);
                }
            }
            return most;
        }

        /**
         * Makes a HOLE of each FREE v of the row at hand; it may be filled with a term that has these FREE
         * VARIABLES. False if no VARIABLE is left.
         */
        boolean putHoles(int v, int free) {
            return put(0, v, Thing.code(HOLE, 0, 0, 0), free, 0);
        }

        // Since a term has one code here, a row keeps its size, and A[v:=t] can be made where A stands.
        private boolean put(int at, int v, int code, int free, int depth) {
            if (at >= length || depth > DEEP_MOST || (frees[at] >> v & 1) == 0) {
                return true;
            }
            if (Thing.kind(codes[at]) == VARIABLE) {
                codes[at] = code;
            } else if (Thing.quantifies(codes[at]) && (free >> Thing.index(codes[at]) & 1) != 0
                    && !rename(at, free | 1 << v, depth)) {
                return false;
            }
            int part = at + 1;
            for (int k = Thing.arity(codes[at]); k > 0 && part < length; k--) {
                if (!put(part, v, code, free, depth + 1)) {
                    return false;
                }
                part = ends[part];
            }
            frees[at] = frees[at] & ~(1 << v) | free;
            return true;
        }

        // Makes what is behind ! or ? another VARIABLE, the first one that is not taken.
        private boolean rename(int at, int taken, int depth) {
            int body = at + 1;
            int shunned = body < length ? taken | frees[body] : taken;
            int sort = Thing.sort(codes[at]);
            int k = 0;
            while (k < names.counts[VARIABLE] && (names.sort(VARIABLE, k) != sort || (shunned >> k & 1) != 0)) {
                k++;
            }
            if (k >= names.counts[VARIABLE]) {
                return false;
            }
            boolean done = put(body, Thing.index(codes[at]), Thing.code(VARIABLE, 0, sort, k), 1 << k, depth + 1);
            codes[at] = Thing.code(Thing.kind(codes[at]), 1, sort, k);
            return done;
        }

        /** Adds the row at hand to another one, with a term in each HOLE. */
        void fill(Row into, int[] term, int at, int size) {
            for (int i = 0; i < length; i++) {
                if (Thing.kind(codes[i]) == HOLE) {
                    into.addPart(term, at, size);
                } else {
                    into.add(codes[i]);
                }
            }
        }
    }

    /** Looks at a STATEMENT's operands by 1 to 7, in the order in which they stand, and keeps what they are. */
    private static final class Look {
        private static final int SEARCHED_MOST = 4;
        private static final int COUNT_MOST = 99998;
        private static final int SORT_BITS = 3;

        private final Tape tape;
        private final Names names;
        private final Model model;
        final Row first = new Row(PLACES_MOST);
        final Row second = new Row(PLACES_MOST);
        final int[] values = new int[Tape.OPERANDS_MOST];
        final int[] row = new int[PARTS_MOST];
        int rowLength;
        long fresh;
        private Row into;
        private int at;
        private int things;

        Look(Tape tape, Names names, Model model) {
            this.tape = tape;
            this.names = names;
            this.model = model;
            into = first;
        }

        int operands() {
            things = 0;
            rowLength = 0;
            int why = 0;
            for (int k = 0; why == 0 && k < Tape.OPERANDS_MOST && tape.letter(k) != ';'; k++) {
                char letter = tape.letter(k);
                boolean isThing = letter == 'F' || letter == 'T' || letter == 'U' || letter == 'X';
                at = tape.operandAt[k];
                why = isThing ? wholeThing(letter) : operand(letter, k);
            }
            return why;
        }

        private int operand(char letter, int k) {
            switch (letter) {
                case 'a':
                    fresh = tape.worthAt(at);
                    return names.knows(fresh) ? UNKNOWN : 0;
                case 's':
                    return name(SORT, k);
                case 'f':
                    return name(FUN, k);
                case 'r':
                    return name(REL, k);
                case 't':
                    return name(FACT, k);
                case 'v': case 'i':
                    return variable(letter, k);
                case 'S':
                    return rowOf(SORT);
                case 'V':
                    return twoAreTheSame() ? PARTS : rowOf(VARIABLE);
                case 'K':
                    return rowOfThings();
                case '*':
                    return tape.numbersAt(at) > SEARCHED_MOST ? PARTS : 0;
                default:
                    values[k] = (int) tape.worthAt(at);
                    return isAsTold(letter, values[k]) ? 0 : NUMBER_OFF;
            }
        }

        private int name(int kind, int k) {
            int index = names.want(kind, tape.worthAt(at));
            values[k] = index;
            return index < 0 ? -index : 0;
        }

        private int variable(char letter, int k) {
            int why = name(VARIABLE, k);
            if (why == 0 && letter == 'i' && names.sort(VARIABLE, values[k]) != NUM) {
                return OTHER_SORT;
            }
            return why;
        }

        private int rowOf(int kind) {
            rowLength = tape.rowLength(at);
            if (rowLength > PARTS_MOST) {
                return PARTS;
            }
            for (int k = 0; k < rowLength; k++) {
                row[k] = names.want(kind, tape.worthAt(at + 1 + 2 * k));
                if (row[k] < 0) {
                    return -row[k];
                }
            }
            return 0;
        }

        private boolean twoAreTheSame() {
            int size = Math.min(tape.rowLength(at), PARTS_MOST);
            for (int i = 0; i < size; i++) {
                for (int j = 0; j < i; j++) {
                    if (tape.worthAt(at + 1 + 2 * i) == tape.worthAt(at + 1 + 2 * j)) {
                        return true;
                    }
                }
            }
            return false;
        }

        private int rowOfThings() {
            int kind = tape.word == W_VALUE ? FUN : REL;
            rowLength = tape.rowLength(at);
            if (rowLength != names.arity(kind, values[0])) {
                return PARTS;
            }
            for (int k = 0; k < rowLength && k < PARTS_MOST; k++) {
                row[k] = (int) tape.worthAt(at + 1 + 2 * k);
                if (!model.has(names.part(kind, values[0], k), row[k])) {
                    return NUMBER_OFF;
                }
            }
            return 0;
        }

        private boolean isAsTold(char letter, int number) {
            switch (letter) {
                case 'z':
                    return number >= 1 && number <= Model.SIZE_MOST;
                case 'o':
                    return model.has(NUM, number);
                case 'w':
                    return model.has(names.sort(FUN, values[0]), number);
                case 'c':
                    return number >= 0 && number <= COUNT_MOST;
                default:
                    return true;
            }
        }

        private int wholeThing(char letter) {
            into = things == 0 ? first : second;
            into.length = 0;
            things++;
            int sort = thing(0);
            if (sort < 0) {
                return -sort;
            }
            if (letter != 'X' && (sort == FORMULA) != (letter == 'F')) {
                return TERM_OR_FORMULA;
            }
            return letter == 'U' && sort != names.sort(VARIABLE, values[1]) ? OTHER_SORT : 0;
        }

        // The SORT of the THING at the TOKEN, or FORMULA; below 0: why it is REFUSED.
        private int thing(int depth) {
            if (depth > DEEP_MOST) {
                return -GREAT;
            }
            switch (tape.kindAt(at)) {
                case Tape.NUMBER:
                    return numeral();
                case Tape.NAME:
                    return named(depth);
                case '!':
                    return quantified(ALL, depth);
                case '?':
                    return quantified(SOME, depth);
                case '=':
                    return pair(EQUAL, depth);
                case '&':
                    return pair(AND, depth);
                case '|':
                    return pair(OR, depth);
                case '>':
                    return pair(IMPLIES, depth);
                default:
                    into.add(Thing.code(FALSUM, 0, 0, 0));
                    at++;
                    return FORMULA;
            }
        }

        private int numeral() {
            long number = tape.worthAt(at);
            at++;
            if (number < 0 || number > NUMERAL_MOST) {
                return -NUMBER_OFF;
            }
            into.add(Thing.code(NUMERAL, 0, NUM, (int) number));
            return NUM;
        }

        private int named(int depth) {
            long key = tape.worthAt(at);
            int begin = into.length;
            int parts = 0;
            int sorts = 0;
            into.add(0);
            at++;
            if (tape.kindAt(at) == '(') {
                do {
                    at++;
                    int sort = thing(depth + 1);
                    if (sort < 0) {
                        return sort;
                    }
                    if (parts < PARTS_MOST) {
                        sorts |= sort << SORT_BITS * parts;
                    }
                    parts++;
                } while (at < tape.count && tape.kindAt(at) == ',');
                at++;
            }
            return head(key, begin, parts, sorts);
        }

        private int head(long key, int begin, int parts, int sorts) {
            int kind = VARIABLE;
            while (kind < REL && names.indexOf(kind, key) < 0) {
                kind++;
            }
            int index = names.want(kind, key);
            if (index < 0) {
                return index;
            }
            if (parts != names.arity(kind, index)) {
                return -PARTS;
            }
            for (int k = 0; k < parts; k++) {
                int sort = sorts >> SORT_BITS * k & FORMULA + 1;
                if (sort == FORMULA) {
                    return -TERM_OR_FORMULA;
                }
                if (sort != names.part(kind, index, k)) {
                    return -OTHER_SORT;
                }
            }
            int sort = names.sort(kind, index);
            into.set(begin, Thing.code(kind, parts, sort, index));
            return greatOr(begin, kind == REL ? FORMULA : sort);
        }

        private int greatOr(int begin, int sort) {
            return into.length - begin > PLACES_MOST ? -GREAT : sort;
        }

        private int quantified(int kind, int depth) {
            int begin = into.length;
            int variable = names.want(VARIABLE, tape.worthAt(at + 1));
            if (variable < 0) {
                return variable;
            }
            at += 2;
            into.add(names.quantifier(kind, variable));
            int sort = thing(depth + 1);
            if (sort < 0) {
                return sort;
            }
            return sort == FORMULA ? greatOr(begin, FORMULA) : -TERM_OR_FORMULA;
        }

        private int pair(int kind, int depth) {
            int begin = into.length;
            into.add(Thing.code(kind, 2, 0, 0));
            at += 2;
            int left = thing(depth + 1);
            if (left < 0) {
                return left;
            }
            at++;
            int right = thing(depth + 1);
            if (right < 0) {
                return right;
            }
            at++;
            boolean formulas = kind != EQUAL;
            if ((left == FORMULA) != formulas || (right == FORMULA) != formulas) {
                return -TERM_OR_FORMULA;
            }
            return left != right ? -OTHER_SORT : greatOr(begin, FORMULA);
        }
    }

    /** A step, or a FACT as one without HYPOTHESES; once made it stays as it is. */
    private static final class Step {
        final Thing shows;
        final Thing[] from;
        final long leaning;
        final boolean induced;

        Step(Thing shows, Thing[] from, long leaning, boolean induced) {
            this.shows = shows;
            this.from = from;
            this.leaning = leaning;
            this.induced = induced;
        }
    }

    /** The proof at hand, the rules of its steps, and the FACTS. */
    private static final class Proof {
        // Two rows of the most PLACES, and what is put around them.
        private static final int ROW_MOST = 3 * PLACES_MOST + 10;

        private final Names names;
        private final Forms forms;
        private final Look look;
        private final Search search;
        private final Step[] steps = new Step[STEPS_MOST];
        private final Step[] facts = new Step[FACTS_MOST];
        final Step[] named = new Step[Look.SEARCHED_MOST];
        private final Step nothing;
        final Row made = new Row(ROW_MOST);
        private final Row other = new Row(ROW_MOST);
        int count;
        private int called;
        // What the step that is being made comes from.
        private final Thing[] kept = new Thing[HYPOTHESES_MOST];
        private int keptCount;
        private boolean crowded;
        private long leaning;
        private boolean induced;

        Proof(Names names, Forms forms, Look look) {
            this.names = names;
            this.forms = forms;
            this.look = look;
            search = new Search(forms);
            nothing = new Step(new Thing(new int[1], 0), new Thing[0], 0, false);
            for (int k = 0; k < named.length; k++) {
                named[k] = nothing;
            }
            for (int k = 0; k < kept.length; k++) {
                kept[k] = nothing.shows;
            }
        }

        Step stepAt(int p) {
            Step step = p >= 0 && p < count ? steps[p] : nothing;
            return step == null ? nothing : step;
        }

        Step factAt(int i) {
            Step fact = i >= 0 && i < FACTS_MOST ? facts[i] : nothing;
            return fact == null ? nothing : fact;
        }

        /** Finds the steps that a STATEMENT names. */
        int premises(Tape tape) {
            called = 0;
            int why = 0;
            for (int k = 0; why == 0 && k < Tape.OPERANDS_MOST && tape.letter(k) != ';'; k++) {
                if (tape.letter(k) == 'p') {
                    why = call(tape.worthAt(tape.operandAt[k]));
                } else if (tape.letter(k) == '*') {
                    int first = tape.operandAt[k];
                    int numbers = tape.numbersAt(first);
                    for (int i = 0; why == 0 && i < numbers; i++) {
                        why = call(tape.worthAt(first + i));
                    }
                }
            }
            return why;
        }

        private int call(long p) {
            if (p < 0 || p >= count || called >= named.length) {
                return NO_STEP;
            }
            named[called] = stepAt((int) p);
            called++;
            return 0;
        }

        int axiom() {
            return addFact(look.first);
        }

        private int addFact(Row row) {
            if (names.full(FACT)) {
                return FULL;
            }
            return keepFact(new Step(forms.keep(row), nothing.from, 0, false));
        }

        private int keepFact(Step fact) {
            int index = names.counts[FACT];
            int why = names.tell(FACT, look.fresh, 0, look.row, 0);
            if (why == 0 && index < FACTS_MOST) {
                facts[index] = fact;
            }
            return why;
        }

        int theorem() {
            if (count == 0) {
                return NO_STEP;
            }
            Step last = stepAt(count - 1);
            return last.from.length > 0 ? HYPOTHESES_LEFT : keepFact(last);
        }

        int define() {
            int bound = 0;
            int parts = look.rowLength;
            for (int k = 0; k < parts; k++) {
                bound |= 1 << look.row[k];
            }
            if ((forms.freeIn(look.first.codes, 0, look.first.length) & ~bound) != 0) {
                return FREE_THERE;
            }
            makeDefinition(parts);
            if (forms.tooGreat(made)) {
                return GREAT;
            }
            if (names.full(REL) || names.full(FACT)) {
                return FULL;
            }
            for (int k = 0; k < parts; k++) {
                look.row[k] = names.sort(VARIABLE, look.row[k]);
            }
            names.tell(REL, look.fresh, 0, look.row, parts);
            return addFact(made);
        }

        private void makeDefinition(int parts) {
            made.length = 0;
            for (int k = 0; k < parts; k++) {
                made.add(names.quantifier(ALL, look.row[k]));
            }
            made.add(Thing.code(AND, 2, 0, 0));
            made.add(Thing.code(IMPLIES, 2, 0, 0));
            addDefined(parts);
            made.addRow(look.first);
            made.add(Thing.code(IMPLIES, 2, 0, 0));
            made.addRow(look.first);
            addDefined(parts);
        }

        private void addDefined(int parts) {
            made.add(Thing.code(REL, parts, 0, names.counts[REL]));
            for (int k = 0; k < parts; k++) {
                made.add(names.variable(look.row[k]));
            }
        }

        int prove(int word) {
            keptCount = 0;
            crowded = false;
            leaning = 0;
            induced = false;
            made.length = 0;
            switch (word) {
                case W_ASSUME:
                    return assume();
                case W_BOTH:
                    return both();
                case W_LEFT: case W_RIGHT:
                    return half(word == W_LEFT);
                case W_FIRST: case W_SECOND:
                    return either(word == W_FIRST);
                case W_CASE:
                    return eachCase();
                case W_APPLY:
                    return apply();
                case W_DISCHARGE:
                    return discharge();
                case W_GENERALISE:
                    return generalise();
                case W_SPECIALISE:
                    return specialise();
                case W_WITNESS:
                    return witness();
                case W_OPEN:
                    return open();
                case W_SAME:
                    return itself();
                case W_REPLACE:
                    return replace();
                case W_ABSURD:
                    return absurd();
                case W_INDUCTION:
                    return induct();
                case W_COUNT:
                    return countUp();
                case W_USE:
                    return use();
                default:
                    return searched();
            }
        }

        private void draw(Step step, Row without) {
            leaning |= step.leaning;
            induced |= step.induced;
            for (int k = 0; k < step.from.length; k++) {
                Thing thing = step.from[k];
                if (without == null || !forms.sameRow(thing, without)) {
                    suppose(thing);
                }
            }
        }

        private void suppose(Thing thing) {
            for (int k = 0; k < keptCount; k++) {
                if (forms.same(kept[k].codes, 0, thing.codes, 0)) {
                    return;
                }
            }
            if (keptCount >= HYPOTHESES_MOST) {
                crowded = true;
            } else {
                kept[keptCount] = thing;
                keptCount++;
            }
        }

        private boolean isFull() {
            return crowded || count >= STEPS_MOST;
        }

        private int show(Thing thing) {
            if (isFull()) {
                return FULL;
            }
            Thing[] from = keptCount == 0 ? nothing.from : new Thing[keptCount];
            for (int k = 0; k < keptCount; k++) {
                from[k] = kept[k];
            }
            steps[count] = new Step(thing, from, leaning, induced);
            count++;
            return 0;
        }

        // What is REFUSED is not kept, so that it takes no room.
        private int showRow(Row row) {
            if (forms.tooGreat(row)) {
                return GREAT;
            }
            return isFull() ? FULL : show(forms.keep(row));
        }

        private int assume() {
            if (isFull()) {
                return FULL;
            }
            Thing thing = forms.keep(look.first);
            suppose(thing);
            return show(thing);
        }

        private int both() {
            made.add(Thing.code(AND, 2, 0, 0));
            made.addAll(named[0].shows.codes);
            made.addAll(named[1].shows.codes);
            draw(named[0], null);
            draw(named[1], null);
            return showRow(made);
        }

        private int half(boolean left) {
            int[] codes = named[0].shows.codes;
            if (Thing.headKind(codes) != AND) {
                return FORM;
            }
            int middle = Thing.after(codes, 1);
            if (left) {
                made.addPart(codes, 1, middle - 1);
            } else {
                made.addPart(codes, middle, codes.length - middle);
            }
            draw(named[0], null);
            return showRow(made);
        }

        private int either(boolean shownFirst) {
            made.add(Thing.code(OR, 2, 0, 0));
            if (!shownFirst) {
                made.addRow(look.first);
            }
            made.addAll(named[0].shows.codes);
            if (shownFirst) {
                made.addRow(look.first);
            }
            draw(named[0], null);
            return showRow(made);
        }

        private int eachCase() {
            int[] codes = named[0].shows.codes;
            if (Thing.headKind(codes) != OR) {
                return FORM;
            }
            if (!forms.same(named[1].shows.codes, 0, named[2].shows.codes, 0)) {
                return UNLIKE;
            }
            int middle = Thing.after(codes, 1);
            draw(named[0], null);
            other.length = 0;
            other.addPart(codes, 1, middle - 1);
            draw(named[1], other);
            other.length = 0;
            other.addPart(codes, middle, codes.length - middle);
            draw(named[2], other);
            return show(named[1].shows);
        }

        private int apply() {
            int[] codes = named[0].shows.codes;
            if (Thing.headKind(codes) != IMPLIES) {
                return FORM;
            }
            if (!forms.same(codes, 1, named[1].shows.codes, 0)) {
                return UNLIKE;
            }
            int middle = Thing.after(codes, 1);
            made.addPart(codes, middle, codes.length - middle);
            draw(named[0], null);
            draw(named[1], null);
            return showRow(made);
        }

        private int discharge() {
            made.add(Thing.code(IMPLIES, 2, 0, 0));
            made.addRow(look.first);
            made.addAll(named[0].shows.codes);
            draw(named[0], look.first);
            return showRow(made);
        }

        private int absurd() {
            if (Thing.headKind(named[0].shows.codes) != FALSUM) {
                return FORM;
            }
            other.length = 0;
            other.add(Thing.code(IMPLIES, 2, 0, 0));
            other.addRow(look.first);
            other.add(Thing.code(FALSUM, 0, 0, 0));
            draw(named[0], other);
            return showRow(look.first);
        }

        private int generalise() {
            int v = look.values[1];
            Step step = named[0];
            for (int k = 0; k < step.from.length; k++) {
                if ((step.from[k].free >> v & 1) != 0) {
                    return FREE_THERE;
                }
            }
            made.add(names.quantifier(ALL, v));
            made.addAll(step.shows.codes);
            draw(step, null);
            return showRow(made);
        }

        private int specialise() {
            int[] codes = named[0].shows.codes;
            Row term = look.first;
            if (Thing.headKind(codes) != ALL) {
                return FORM;
            }
            if (Thing.sort(codes[0]) != Thing.sort(term.codes[0])) {
                return OTHER_SORT;
            }
            if (!instance(codes, codes.length, forms.freeIn(term.codes, 0, term.length))) {
                return NONE_LEFT;
            }
            forms.fill(made, term.codes, 0, term.length);
            draw(named[0], null);
            return showRow(made);
        }

        // A[x:=t] for what is ! x A or ? x A, with HOLES for t.
        private boolean instance(int[] codes, int size, int free) {
            forms.load(codes, 1, size - 1);
            return forms.putHoles(Thing.index(codes[0]), free);
        }

        private int witness() {
            Row term = look.first;
            Row some = look.second;
            if (Thing.headKind(some.codes) != SOME) {
                return FORM;
            }
            if (Thing.sort(some.codes[0]) != Thing.sort(term.codes[0])) {
                return OTHER_SORT;
            }
            if (!instance(some.codes, some.length, forms.freeIn(term.codes, 0, term.length))) {
                return NONE_LEFT;
            }
            forms.fill(made, term.codes, 0, term.length);
            if (!forms.sameRow(named[0].shows, made)) {
                return UNLIKE;
            }
            draw(named[0], null);
            return showRow(some);
        }

        private int open() {
            int[] codes = named[0].shows.codes;
            int v = look.values[2];
            if (Thing.headKind(codes) != SOME) {
                return FORM;
            }
            if (Thing.sort(codes[0]) != names.sort(VARIABLE, v)) {
                return OTHER_SORT;
            }
            if (!instance(codes, codes.length, 1 << v)) {
                return NONE_LEFT;
            }
            other.length = 0;
            other.add(names.variable(v));
            forms.fill(made, other.codes, 0, 1);
            if (isFreeOutside(v, made)) {
                return FREE_THERE;
            }
            draw(named[0], null);
            draw(named[1], made);
            return show(named[1].shows);
        }

        private boolean isFreeOutside(int v, Row supposed) {
            Step step = named[1];
            if (((named[0].shows.free | step.shows.free) >> v & 1) != 0) {
                return true;
            }
            for (int k = 0; k < step.from.length; k++) {
                if ((step.from[k].free >> v & 1) != 0 && !forms.sameRow(step.from[k], supposed)) {
                    return true;
                }
            }
            return false;
        }

        private int itself() {
            made.add(Thing.code(EQUAL, 2, 0, 0));
            made.addRow(look.first);
            made.addRow(look.first);
            return showRow(made);
        }

        private int replace() {
            int[] codes = named[0].shows.codes;
            int v = look.values[2];
            if (Thing.headKind(codes) != EQUAL || codes.length < 2) {
                return FORM;
            }
            int middle = Thing.after(codes, 1);
            if (Thing.sort(codes[1]) != names.sort(VARIABLE, v)) {
                return OTHER_SORT;
            }
            other.length = 0;
            if (!exchange(v, codes, 1, middle - 1, other)) {
                return NONE_LEFT;
            }
            if (!forms.sameRow(named[1].shows, other)) {
                return UNLIKE;
            }
            if (!exchange(v, codes, middle, codes.length - middle, made)) {
                return NONE_LEFT;
            }
            draw(named[0], null);
            draw(named[1], null);
            return showRow(made);
        }

        // F[v:=t], F being what the STATEMENT tells.
        private boolean exchange(int v, int[] term, int at, int size, Row into) {
            int free = forms.freeIn(term, at, size);
            forms.load(look.first.codes, 0, look.first.length);
            boolean done = forms.putHoles(v, free);
            if (done) {
                forms.fill(into, term, at, size);
            }
            return done;
        }

        private int induct() {
            int v = look.values[2];
            other.length = 0;
            made.add(Thing.code(NUMERAL, 0, NUM, 0));
            if (!exchange(v, made.codes, 0, 1, other)) {
                return NONE_LEFT;
            }
            if (!forms.sameRow(named[0].shows, other)) {
                return UNLIKE;
            }
            made.length = 0;
            made.add(Thing.code(FUN, 1, NUM, NEXT));
            made.add(names.variable(v));
            other.length = 0;
            other.add(names.quantifier(ALL, v));
            other.add(Thing.code(IMPLIES, 2, 0, 0));
            other.addRow(look.first);
            if (!exchange(v, made.codes, 0, 2, other)) {
                return NONE_LEFT;
            }
            if (!forms.sameRow(named[1].shows, other)) {
                return UNLIKE;
            }
            made.length = 0;
            made.add(names.quantifier(ALL, v));
            made.addRow(look.first);
            draw(named[0], null);
            draw(named[1], null);
            induced = true;
            return showRow(made);
        }

        private int countUp() {
            int k = look.values[0];
            made.add(Thing.code(EQUAL, 2, 0, 0));
            made.add(Thing.code(FUN, 1, NUM, NEXT));
            made.add(Thing.code(NUMERAL, 0, NUM, k));
            made.add(Thing.code(NUMERAL, 0, NUM, k + 1));
            return showRow(made);
        }

        private int use() {
            int index = look.values[0];
            Step fact = factAt(index);
            draw(fact, null);
            leaning |= 1L << index;
            return show(fact.shows);
        }

        private int searched() {
            search.begin();
            int given = Search.EVERY;
            for (int k = 0; k < called; k++) {
                given &= search.table(named[k].shows.codes);
                draw(named[k], null);
            }
            int wanted = search.table(look.first.codes);
            if (search.lost || (given & ~wanted) != 0) {
                return NOT_FOUND;
            }
            return showRow(look.first);
        }
    }

    /** Truth tables over at most four LETTERS: bit c tells whether a FORMULA holds for choice c of LETTERS. */
    private static final class Search {
        static final int EVERY = 0xFFFF;
        private static final int LETTERS_MOST = 4;
        private static final int SIGNS_MOST = 30;
        private static final int[] LETTER_TABLES = {0xAAAA, 0xCCCC, 0xF0F0, 0xFF00};

        private final Forms forms;
        private final Row[] letters = new Row[LETTERS_MOST];
        private int count;
        private int signs;
        private int at;
        boolean lost;

        Search(Forms forms) {
            this.forms = forms;
            for (int k = 0; k < LETTERS_MOST; k++) {
                letters[k] = new Row(PLACES_MOST);
            }
        }

        void begin() {
            count = 0;
            signs = 0;
            lost = false;
        }

        int table(int[] codes) {
            at = 0;
            return truth(codes, 0);
        }

        private int truth(int[] codes, int depth) {
            if (lost || depth > DEEP_MOST || at >= codes.length) {
                return 0;
            }
            int kind = Thing.kind(codes[at]);
            if (kind != AND && kind != OR && kind != IMPLIES && kind != FALSUM) {
                return letter(codes);
            }
            at++;
            signs++;
            if (signs > SIGNS_MOST) {
                lost = true;
            }
            if (kind == FALSUM) {
                return 0;
            }
            int left = truth(codes, depth + 1);
            int right = truth(codes, depth + 1);
            if (kind == AND) {
                return left & right;
            }
            return kind == OR ? left | right : ~left & EVERY | right;
        }

        private int letter(int[] codes) {
            int begin = at;
            at = Thing.after(codes, begin);
            for (int k = 0; k < count; k++) {
                if (forms.same(letters[k].codes, 0, codes, begin)) {
                    return LETTER_TABLES[k];
                }
            }
            if (count >= LETTERS_MOST) {
                lost = true;
                return 0;
            }
            letters[count].length = 0;
            letters[count].addPart(codes, begin, at - begin);
            count++;
            return LETTER_TABLES[count - 1];
        }
    }

    /** The MODEL: how many things a SORT has, what FUNS make of them, which RELS HOLD. */
    private static final class Model {
        static final int SIZE_MOST = 4;
        static final int TABLES_EACH = 20;
        private static final int TABLE = 64;
        private static final int JUDGED_MOST = 5;
        // next is over things 0 to 3 at most: after 4 times it goes round, by 1, 2, 3 or 4, which all divide 12.
        private static final int AHEAD = 4;
        private static final int ROUND = 12;

        private final Names names;
        private final Forms forms;
        private final int[] sizes = new int[SORTS_MOST];
        private final int[] tables = new int[2 * TABLES_EACH * TABLE];
        private final int[] things = new int[VARIABLES_MOST];
        private int zero;

        Model(Names names, Forms forms) {
            this.names = names;
            this.forms = forms;
            Arrays.fill(sizes, 1);
        }

        private int size(int sort) {
            return sort >= 0 && sort < SORTS_MOST ? sizes[sort] : 1;
        }

        boolean has(int sort, int thing) {
            return thing >= 0 && thing < size(sort);
        }

        private static int tableOf(int kind, int index) {
            int table = kind == REL ? TABLES_EACH + index : index;
            return table >= 0 && table < 2 * TABLES_EACH ? table * TABLE : 0;
        }

        int set(int word, Look look) {
            int slot = 0;
            for (int k = 0; k < look.rowLength; k++) {
                slot = slot * SIZE_MOST + look.row[k];
            }
            switch (word) {
                case W_SIZE:
                    resize(look.values[0], look.values[1]);
                    break;
                case W_ZERO:
                    zero = look.values[0];
                    break;
                case W_VALUE:
                    put(tableOf(FUN, look.values[0]) + slot, look.values[2]);
                    break;
                default:
                    put(tableOf(REL, look.values[0]) + slot, word == W_HOLDS ? 1 : 0);
                    break;
            }
            return 0;
        }

        private void put(int at, int worth) {
            if (at >= 0 && at < tables.length) {
                tables[at] = worth;
            }
        }

        private void resize(int sort, int size) {
            if (sort >= 0 && sort < SORTS_MOST) {
                sizes[sort] = size;
            }
            Arrays.fill(tables, 0);
            zero = 0;
        }

        /** 1 or 0; below 0 if there is too much to go through. */
        int judge(Row row) {
            forms.load(row.codes, 0, row.length);
            int free = forms.length > 0 ? forms.frees[0] : 0;
            if (Integer.bitCount(free) + forms.nested() > JUDGED_MOST) {
                return BAD;
            }
            return isSo(free, 0) ? 1 : 0;
        }

        private boolean isSo(int free, int from) {
            int v = from;
            while (v < VARIABLES_MOST && (free >> v & 1) == 0) {
                v++;
            }
            if (v >= VARIABLES_MOST) {
                return worth(0, 0) != 0;
            }
            int size = size(names.sort(VARIABLE, v));
            for (int thing = 0; thing < size; thing++) {
                things[v] = thing;
                if (!isSo(free, v + 1)) {
                    return false;
                }
            }
            return true;
        }

        // The thing that a term is; 1 or 0 for a FORMULA.
        private int worth(int at, int depth) {
            if (depth > DEEP_MOST || at >= forms.length) {
                return 0;
            }
            int code = forms.codes[at];
            int kind = Thing.kind(code);
            switch (kind) {
                case NUMERAL:
                    return numeral(Thing.index(code));
                case VARIABLE:
                    return things[Thing.index(code)];
                case FUN: case REL:
                    return tables[tableOf(kind, Thing.index(code)) + slot(at, depth)];
                case ALL: case SOME:
                    return ranged(at, depth);
                case FALSUM:
                    return 0;
                default:
                    return paired(kind, at + 1, depth);
            }
        }

        private int paired(int kind, int at, int depth) {
            int left = worth(at, depth + 1);
            int next = at < forms.length ? forms.ends[at] : forms.length;
            switch (kind) {
                case EQUAL:
                    return left == worth(next, depth + 1) ? 1 : 0;
                case AND:
                    return left == 0 ? 0 : worth(next, depth + 1);
                case OR:
                    return left != 0 ? 1 : worth(next, depth + 1);
                default:
                    return left == 0 ? 1 : worth(next, depth + 1);
            }
        }

        private int slot(int at, int depth) {
            int slot = 0;
            int part = at + 1;
            for (int k = Thing.arity(forms.codes[at]); k > 0 && part < forms.length; k--) {
                slot = slot * SIZE_MOST + worth(part, depth + 1);
                part = forms.ends[part];
            }
            return slot & TABLE - 1;
        }

        private int ranged(int at, int depth) {
            int code = forms.codes[at];
            int v = Thing.index(code);
            int until = Thing.kind(code) == ALL ? 0 : 1;
            int before = things[v];
            int size = size(Thing.sort(code));
            int found = 1 - until;
            for (int thing = 0; thing < size && found != until; thing++) {
                things[v] = thing;
                found = worth(at + 1, depth + 1);
            }
            things[v] = before;
            return found;
        }

        private int numeral(int k) {
            int times = k < AHEAD ? k : AHEAD + (k - AHEAD) % ROUND;
            int thing = zero;
            for (int i = 0; i < times; i++) {
                thing = tables[tableOf(FUN, NEXT) + (thing & SIZE_MOST - 1)];
            }
            return thing;
        }
    }

    /** The numbers that are OUT, and the text of THINGS there. */
    private static final class Out {
        // Behind the last number that may tell more, a TAPE has room for 800 STATEMENTS at most.
        private static final int ROOM = OUT_MOST + 1000;
        private static final String SIGNS = "=&|>!?#";

        private final Names names;
        private final int[] numbers = new int[ROOM];
        private final int[] lefts = new int[DEEP_MOST];
        private final int[] turned = new int[Tape.NAME_MOST];
        int count;

        Out(Names names) {
            this.names = names;
        }

        int at(int i) {
            return i >= 0 && i < count && i < ROOM ? numbers[i] : 0;
        }

        void put(int number) {
            if (count < ROOM) {
                numbers[count] = number;
            }
            count++;
        }

        int tellNumber(int number) {
            int before = count;
            put(0);
            put(number);
            return seal(before);
        }

        int tellThing(int[] codes, int size) {
            int before = count;
            put(0);
            put(0);
            int begin = count;
            write(codes, size);
            if (begin <= ROOM) {
                numbers[begin - 1] = count - begin;
            }
            return seal(before);
        }

        private int seal(int before) {
            if (count > OUT_MOST) {
                count = before;
                return FULL;
            }
            return 0;
        }

        private void write(int[] codes, int size) {
            int open = 0;
            for (int i = 0; i < size && i < codes.length; i++) {
                int parts = Thing.arity(codes[i]);
                boolean brackets = !Thing.quantifies(codes[i]);
                writeHead(codes[i]);
                if (parts == 0 || open >= DEEP_MOST) {
                    open = close(open);
                } else {
                    if (brackets) {
                        put('(');
                    }
                    lefts[open] = brackets ? parts : 0;
                    open++;
                }
            }
        }

        // A part is over, and with it all that it is the last part of; 0 left is that of ! and ?, without ( ).
        private int close(int open) {
            int still = open;
            while (still > 0) {
                int left = lefts[still - 1];
                if (left > 1) {
                    lefts[still - 1] = left - 1;
                    put(',');
                    return still;
                }
                if (left == 1) {
                    put(')');
                }
                still--;
            }
            return 0;
        }

        private void writeHead(int code) {
            int kind = Thing.kind(code);
            switch (kind) {
                case VARIABLE: case FUN: case REL:
                    writeTurned(names.key(kind, Thing.index(code)), Names.BASE);
                    break;
                case NUMERAL:
                    writeTurned(Thing.index(code), 10);
                    break;
                default:
                    put(SIGNS.charAt(Math.min(Math.max(kind - EQUAL, 0), SIGNS.length() - 1)));
                    if (Thing.quantifies(code)) {
                        writeTurned(names.key(VARIABLE, Thing.index(code)), Names.BASE);
                        put(' ');
                    }
                    break;
            }
        }

        // The digits of a key or of a NUMERAL come from its end.
        private void writeTurned(long number, int base) {
            long rest = number;
            int size = 0;
            do {
                int digit = (int) (rest % base);
                turned[size] = base == Names.BASE ? Names.byteOf(digit) : digit + '0';
                size++;
                rest /= base;
            } while (rest > 0 && size < turned.length);
            for (int k = size - 1; k >= 0; k--) {
                put(turned[k]);
            }
        }
    }
}

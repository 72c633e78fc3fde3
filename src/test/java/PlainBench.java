import java.util.ArrayList;
import java.util.Arrays;
import java.util.HashMap;
import java.util.LinkedHashMap;
import java.util.List;
import java.util.Map;
import java.util.Set;
import java.util.TreeSet;

/** The document once more, written with trees, texts and exceptions, to be held against ProofBench. */
final class PlainBench {
    static final class Refused extends RuntimeException {
        private static final long serialVersionUID = 1L;
        final int why;

        Refused(int why) {
            super(null, null, false, false);
            this.why = why;
        }
    }

    static final class Wrong extends RuntimeException {
        private static final long serialVersionUID = 1L;
        final int at;

        Wrong(int at) {
            super(null, null, false, false);
            this.at = at;
        }
    }

    /** A THING: its sign or NAME, the VARIABLE behind ! or ?, and its parts. */
    record Node(String head, String bound, List<Node> parts) {
        static Node of(String head, Node... parts) {
            return new Node(head, null, List.of(parts));
        }

        static Node quantified(String head, String bound, Node body) {
            return new Node(head, bound, List.of(body));
        }

        int places() {
            int all = 1;
            for (Node part : parts) {
                all += part.places();
            }
            return all;
        }

        int deep() {
            int most = 0;
            for (Node part : parts) {
                most = Math.max(most, part.deep());
            }
            return most + 1;
        }

        String text() {
            if (bound != null) {
                return head + bound + " " + parts.get(0).text();
            }
            if (parts.isEmpty()) {
                return head;
            }
            List<String> texts = new ArrayList<>();
            for (Node part : parts) {
                texts.add(part.text());
            }
            return head + "(" + String.join(",", texts) + ")";
        }
    }

    record Proved(Node shows, List<Node> from, Set<String> leans, boolean induction) { }

    record Token(char kind, String text, int at) { }

    final Set<String> sorts = new java.util.LinkedHashSet<>(List.of("num"));
    final Map<String, String> variables = new LinkedHashMap<>();
    final Map<String, String> funs = new LinkedHashMap<>(Map.of("next", "num"));
    final Map<String, List<String>> funParts = new HashMap<>(Map.of("next", List.of("num")));
    final Map<String, List<String>> rels = new LinkedHashMap<>();
    final Map<String, Proved> facts = new LinkedHashMap<>();
    final List<Proved> steps = new ArrayList<>();
    final Map<String, Integer> sizes = new HashMap<>();
    final Map<String, Integer> values = new HashMap<>();
    int zero = 0;
    final List<Integer> out = new ArrayList<>();
    final int[] refusals = new int[16];
    int wrong = -1;

    private List<Token> tokens;
    private int next;
    private int length;

    // ---- TEXTS

    private static List<Token> cut(String text) {
        List<Token> tokens = new ArrayList<>();
        int at = 0;
        while (at < text.length()) {
            char c = text.charAt(at);
            int to = at;
            if (c == ' ' || c == '\n') {
                at++;
                continue;
            }
            char kind = c;
            if (c >= 'A' && c <= 'Z') {
                while (to < text.length() && text.charAt(to) >= 'A' && text.charAt(to) <= 'Z') {
                    to++;
                }
                kind = 'W';
            } else if (c >= 'a' && c <= 'z') {
                while (to < text.length() && ("" + text.charAt(to)).matches("[a-z0-9]")) {
                    to++;
                }
                kind = to - at > 12 ? 'E' : 'N';
            } else if (c == '-' || c >= '0' && c <= '9') {
                to++;
                while (to < text.length() && text.charAt(to) >= '0' && text.charAt(to) <= '9') {
                    to++;
                }
                String digits = text.substring(at, to).replace("-", "");
                kind = digits.isEmpty() || digits.length() > 6 ? 'E' : 'D';
            } else {
                to++;
                kind = "(),;=&|>!?#".indexOf(c) < 0 ? 'E' : c;
            }
            tokens.add(new Token(kind, text.substring(at, to), at));
            if (kind == 'E') {
                return tokens;
            }
            at = to;
        }
        return tokens;
    }

    private char peek() {
        return next < tokens.size() ? tokens.get(next).kind : '$';
    }

    private int here() {
        return next < tokens.size() ? tokens.get(next).at : length;
    }

    private String eat(char kind) {
        if (peek() != kind) {
            throw new Wrong(here());
        }
        return tokens.get(next++).text;
    }

    /** A THING as it stands in the text: head, and for ! and ? the NAME; numbers keep their text. */
    private Node raw(int within) {
        if (within == 40) {
            throw new Wrong(here());
        }
        char kind = peek();
        switch (kind) {
            case 'D': case '#':
                return Node.of(eat(kind));
            case 'N': {
                String name = eat('N');
                List<Node> parts = new ArrayList<>();
                if (peek() == '(') {
                    do {
                        next++;
                        parts.add(raw(within + 1));
                    } while (peek() == ',');
                    eat(')');
                }
                return new Node(name, null, parts);
            }
            case '!': case '?': {
                eat(kind);
                String bound = eat('N');
                return Node.quantified("" + kind, bound, raw(within + 1));
            }
            case '=': case '&': case '|': case '>': {
                eat(kind);
                eat('(');
                Node left = raw(within + 1);
                eat(',');
                Node right = raw(within + 1);
                eat(')');
                return Node.of("" + kind, left, right);
            }
            default:
                throw new Wrong(here());
        }
    }

    private List<String> rawRow(char kind) {
        List<String> row = new ArrayList<>();
        eat('(');
        if (peek() != ')') {
            row.add(eat(kind));
            while (peek() == ',') {
                next++;
                row.add(eat(kind));
            }
        }
        eat(')');
        return row;
    }

    private static final Map<String, String> FORMS = new HashMap<>();

    static {
        String all = "SORT n.FUN nNn.REL nN.VAR nn.AXIOM nF.DEFINE nNF.PROOF .THEOREM n.SHOW d.FROM dd.TELL n.ALIKE FF."
                + "PUT FnF.SIZE nd.ZERO d.VALUE nDd.HOLDS nD.LACKS nD.JUDGE F.ASSUME F.BOTH dd.LEFT d.RIGHT d.FIRST dF."
                + "SECOND dF.CASE ddd.APPLY dd.DISCHARGE dF.GENERALISE dn.SPECIALISE dF.WITNESS dFF.OPEN ddn.SAME F."
                + "REPLACE ddnF.ABSURD dF.INDUCTION ddnF.COUNT d.USE n.SEARCH F*";
        for (String form : all.split("\\.")) {
            String[] two = form.split(" ");
            FORMS.put(two[0], two.length > 1 ? two[1] : "");
        }
    }

    int run(String text) {
        out.clear();
        tokens = cut(text);
        length = text.length();
        next = 0;
        wrong = -1;
        int whole = 0;
        while (peek() != '$') {
            String word;
            List<Object> operands = new ArrayList<>();
            try {
                word = statement(operands);
            } catch (Wrong e) {
                wrong = e.at;
                return whole;
            }
            whole++;
            try {
                List<Integer> told = obey(word, operands);
                if (!told.isEmpty() && out.size() + 1 + told.size() > 19000) {
                    throw new Refused(8);
                }
                out.add(0);
                out.addAll(told);
                refusals[0]++;
            } catch (Refused e) {
                out.add(e.why);
                refusals[e.why]++;
            }
        }
        return whole;
    }

    private String statement(List<Object> operands) {
        int begin = here();
        String word = eat('W');
        String form = FORMS.get(word);
        if (form == null) {
            throw new Wrong(begin);
        }
        for (char letter : form.toCharArray()) {
            switch (letter) {
                case 'n' -> operands.add(eat('N'));
                case 'd' -> operands.add(Integer.parseInt(eat('D')));
                case 'N' -> operands.add(rawRow('N'));
                case 'D' -> operands.add(rawRow('D'));
                case 'F' -> operands.add(raw(0));
                default -> {
                    List<Integer> numbers = new ArrayList<>();
                    while (peek() == 'D') {
                        numbers.add(Integer.parseInt(eat('D')));
                    }
                    operands.add(numbers);
                }
            }
        }
        eat(';');
        return word;
    }

    // ---- NAMES

    private static void refuse(boolean when, int why) {
        if (when) {
            throw new Refused(why);
        }
    }

    private boolean known(String name) {
        return sorts.contains(name) || variables.containsKey(name) || funs.containsKey(name) || rels.containsKey(name)
                || facts.containsKey(name);
    }

    private void want(String name, boolean kind) {
        refuse(!known(name), 1);
        refuse(!kind, 2);
    }

    private void fresh(String name) {
        refuse(known(name), 1);
    }

    private boolean isFormula(Node thing) {
        return "=&|>!?#".contains(thing.head) || rels.containsKey(thing.head);
    }

    private String sortOf(Node term) {
        if (Character.isDigit(term.head.charAt(0))) {
            return "num";
        }
        return variables.containsKey(term.head) ? variables.get(term.head) : funs.get(term.head);
    }

    /** Looks at a THING of the text; answers it with its NUMERALS in one form. */
    private Node look(Node raw) {
        if (raw.bound != null) {
            want(raw.bound, variables.containsKey(raw.bound));
        }
        List<Node> parts = new ArrayList<>();
        for (Node part : raw.parts) {
            parts.add(look(part));
        }
        char c = raw.head.charAt(0);
        Node thing = new Node(raw.head, raw.bound, parts);
        if (Character.isDigit(c) || c == '-') {
            int number = Integer.parseInt(raw.head);
            refuse(number < 0 || number > 99999, 7);
            return Node.of("" + number);
        }
        if (c >= 'a' && c <= 'z') {
            String n = raw.head;
            want(n, variables.containsKey(n) || funs.containsKey(n) || rels.containsKey(n));
            List<String> wanted = variables.containsKey(n) ? List.of() : funs.containsKey(n) ? funParts.get(n) : rels.get(n);
            refuse(parts.size() != wanted.size(), 3);
            for (int k = 0; k < parts.size(); k++) {
                refuse(isFormula(parts.get(k)), 4);
                refuse(!sortOf(parts.get(k)).equals(wanted.get(k)), 5);
            }
        } else if (c == '=') {
            refuse(isFormula(parts.get(0)) || isFormula(parts.get(1)), 4);
            refuse(!sortOf(parts.get(0)).equals(sortOf(parts.get(1))), 5);
        } else {
            for (Node part : parts) {
                refuse(!isFormula(part), 4);
            }
        }
        great(thing);
        return thing;
    }

    private static void great(Node thing) {
        refuse(thing.places() > 400 || thing.deep() > 40, 6);
    }

    private Node formula(Object raw) {
        Node thing = look((Node) raw);
        refuse(!isFormula(thing), 4);
        return thing;
    }

    private Node term(Object raw) {
        Node thing = look((Node) raw);
        refuse(isFormula(thing), 4);
        return thing;
    }

    private String variable(Object name) {
        want((String) name, variables.containsKey(name));
        return (String) name;
    }

    Set<String> free(Node thing) {
        Set<String> all = new TreeSet<>();
        if (variables.containsKey(thing.head)) {
            all.add(thing.head);
        }
        for (Node part : thing.parts) {
            all.addAll(free(part));
        }
        if (thing.bound != null) {
            all.remove(thing.bound);
        }
        return all;
    }

    boolean alike(Node a, Node b) {
        return alike(a, b, new ArrayList<>(), new ArrayList<>());
    }

    private boolean alike(Node a, Node b, List<String> left, List<String> right) {
        if (variables.containsKey(a.head) && variables.containsKey(b.head)) {
            int i = left.lastIndexOf(a.head);
            int j = right.lastIndexOf(b.head);
            return i == j && (i >= 0 || a.head.equals(b.head));
        }
        if (!a.head.equals(b.head) || a.parts.size() != b.parts.size()) {
            return false;
        }
        if (a.bound != null) {
            if (!variables.get(a.bound).equals(variables.get(b.bound))) {
                return false;
            }
            left.add(a.bound);
            right.add(b.bound);
        }
        boolean all = true;
        for (int k = 0; all && k < a.parts.size(); k++) {
            all = alike(a.parts.get(k), b.parts.get(k), left, right);
        }
        if (a.bound != null) {
            left.remove(left.size() - 1);
            right.remove(right.size() - 1);
        }
        return all;
    }

    Node put(Node a, String v, Node t) {
        if (!free(a).contains(v)) {
            return a;
        }
        if (a.head.equals(v)) {
            return t;
        }
        String y = a.bound;
        Node body = y == null ? null : a.parts.get(0);
        if (y != null && free(t).contains(y)) {
            String other = null;
            for (String z : variables.keySet()) {
                if (other == null && variables.get(z).equals(variables.get(y)) && !z.equals(v) && !free(t).contains(z)
                        && !free(body).contains(z)) {
                    other = z;
                }
            }
            refuse(other == null, 13);
            body = put(body, y, Node.of(other));
            return Node.quantified(a.head, other, put(body, v, t));
        }
        List<Node> parts = new ArrayList<>();
        for (Node part : a.parts) {
            parts.add(put(part, v, t));
        }
        return new Node(a.head, y, parts);
    }

    // ---- STATEMENTS

    private static List<Integer> tell(Node thing) {
        List<Integer> told = new ArrayList<>();
        String text = thing.text();
        told.add(text.length());
        for (char c : text.toCharArray()) {
            told.add((int) c);
        }
        return told;
    }

    private Proved step(Object p) {
        int number = (Integer) p;
        refuse(number < 0 || number >= steps.size(), 9);
        return steps.get(number);
    }

    @SuppressWarnings("unchecked")
    private List<Integer> obey(String word, List<Object> o) {
        List<Integer> nothing = List.of();
        switch (word) {
            case "SORT": {
                fresh((String) o.get(0));
                refuse(sorts.size() >= 6, 8);
                sorts.add((String) o.get(0));
                return nothing;
            }
            case "FUN": case "REL": {
                String n = (String) o.get(0);
                List<String> row = (List<String>) o.get(1);
                fresh(n);
                refuse(row.size() > 3, 3);
                for (String s : row) {
                    want(s, sorts.contains(s));
                }
                if (word.equals("REL")) {
                    refuse(rels.size() >= 20, 8);
                    rels.put(n, row);
                } else {
                    want((String) o.get(2), sorts.contains(o.get(2)));
                    refuse(funs.size() >= 20, 8);
                    funs.put(n, (String) o.get(2));
                    funParts.put(n, row);
                }
                return nothing;
            }
            case "VAR": {
                fresh((String) o.get(0));
                want((String) o.get(1), sorts.contains(o.get(1)));
                refuse(variables.size() >= 30, 8);
                variables.put((String) o.get(0), (String) o.get(1));
                return nothing;
            }
            case "AXIOM": {
                fresh((String) o.get(0));
                Node f = formula(o.get(1));
                refuse(facts.size() >= 40, 8);
                facts.put((String) o.get(0), new Proved(f, List.of(), Set.of(), false));
                return nothing;
            }
            case "DEFINE":
                define((String) o.get(0), (List<String>) o.get(1), o.get(2));
                return nothing;
            case "PROOF":
                steps.clear();
                return nothing;
            case "THEOREM": {
                fresh((String) o.get(0));
                refuse(steps.isEmpty(), 9);
                Proved last = steps.get(steps.size() - 1);
                refuse(!last.from.isEmpty(), 14);
                refuse(facts.size() >= 40, 8);
                facts.put((String) o.get(0), last);
                return nothing;
            }
            case "SHOW":
                return tell(step(o.get(0)).shows);
            case "FROM": {
                Proved p = step(o.get(0));
                int k = (Integer) o.get(1);
                refuse(k < 0 || k >= p.from.size(), 7);
                return tell(p.from.get(k));
            }
            case "TELL":
                want((String) o.get(0), facts.containsKey(o.get(0)));
                return tell(facts.get(o.get(0)).shows);
            case "ALIKE": {
                Node a = look((Node) o.get(0));
                Node b = look((Node) o.get(1));
                return List.of(alike(a, b) ? 1 : 0);
            }
            case "PUT": {
                Node f = formula(o.get(0));
                String v = variable(o.get(1));
                Node t = term(o.get(2));
                refuse(!sortOf(t).equals(variables.get(v)), 5);
                Node made = put(f, v, t);
                great(made);
                return tell(made);
            }
            case "SIZE": case "ZERO": case "VALUE": case "HOLDS": case "LACKS":
                model(word, o);
                return nothing;
            case "JUDGE":
                return List.of(judge(formula(o.get(0))));
            default:
                prove(word, o);
                return nothing;
        }
    }

    private void define(String n, List<String> row, Object raw) {
        fresh(n);
        refuse(row.size() > 3 || new TreeSet<>(row).size() < row.size(), 3);
        for (String v : row) {
            variable(v);
        }
        Node f = formula(raw);
        refuse(!row.containsAll(free(f)), 12);
        List<Node> parts = new ArrayList<>();
        List<String> partSorts = new ArrayList<>();
        for (String v : row) {
            parts.add(Node.of(v));
            partSorts.add(variables.get(v));
        }
        Node a = new Node(n, null, parts);
        Node all = Node.of("&", Node.of(">", a, f), Node.of(">", f, a));
        for (int k = row.size() - 1; k >= 0; k--) {
            all = Node.quantified("!", row.get(k), all);
        }
        great(all);
        refuse(rels.size() >= 20 || facts.size() >= 40, 8);
        rels.put(n, partSorts);
        facts.put(n, new Proved(all, List.of(), Set.of(), false));
    }

    // ---- STEPS

    private final List<Node> from = new ArrayList<>();
    private final Set<String> leaning = new TreeSet<>();
    private boolean induction;

    private boolean among(List<Node> nodes, Node node) {
        for (Node one : nodes) {
            if (alike(one, node)) {
                return true;
            }
        }
        return false;
    }

    private void draw(Proved p, Node without) {
        for (Node h : p.from) {
            if ((without == null || !alike(h, without)) && !among(from, h)) {
                from.add(h);
            }
        }
        leaning.addAll(p.leans);
        induction |= p.induction;
    }

    private void prove(String word, List<Object> o) {
        from.clear();
        leaning.clear();
        induction = false;
        Node shows = rule(word, o);
        great(shows);
        refuse(steps.size() >= 300 || from.size() > 20, 8);
        steps.add(new Proved(shows, List.copyOf(from), Set.copyOf(leaning), induction));
    }

    private static Node form(Node shown, String head) {
        refuse(!shown.head.equals(head), 10);
        return shown;
    }

    private void unlike(Node a, Node b) {
        refuse(!alike(a, b), 11);
    }

    @SuppressWarnings("unchecked")
    private Node rule(String word, List<Object> o) {
        switch (word) {
            case "ASSUME": {
                Node f = formula(o.get(0));
                from.add(f);
                return f;
            }
            case "BOTH": {
                Proved p = step(o.get(0));
                Proved q = step(o.get(1));
                draw(p, null);
                draw(q, null);
                return Node.of("&", p.shows, q.shows);
            }
            case "LEFT": case "RIGHT": {
                Proved p = step(o.get(0));
                draw(p, null);
                return form(p.shows, "&").parts.get(word.equals("LEFT") ? 0 : 1);
            }
            case "FIRST": case "SECOND": {
                Node f = formula(o.get(1));
                Proved p = step(o.get(0));
                draw(p, null);
                return word.equals("FIRST") ? Node.of("|", p.shows, f) : Node.of("|", f, p.shows);
            }
            case "CASE": {
                Proved p = step(o.get(0));
                Proved q = step(o.get(1));
                Proved w = step(o.get(2));
                Node or = form(p.shows, "|");
                unlike(q.shows, w.shows);
                draw(p, null);
                draw(q, or.parts.get(0));
                draw(w, or.parts.get(1));
                return q.shows;
            }
            case "APPLY": {
                Proved p = step(o.get(0));
                Proved q = step(o.get(1));
                Node implies = form(p.shows, ">");
                unlike(implies.parts.get(0), q.shows);
                draw(p, null);
                draw(q, null);
                return implies.parts.get(1);
            }
            case "DISCHARGE": {
                Node f = formula(o.get(1));
                Proved p = step(o.get(0));
                draw(p, f);
                return Node.of(">", f, p.shows);
            }
            case "ABSURD": {
                Node f = formula(o.get(1));
                Proved p = step(o.get(0));
                form(p.shows, "#");
                draw(p, Node.of(">", f, Node.of("#")));
                return f;
            }
            case "SAME": {
                Node t = term(o.get(0));
                return Node.of("=", t, t);
            }
            case "COUNT": {
                int k = (Integer) o.get(0);
                refuse(k < 0 || k > 99998, 7);
                return Node.of("=", Node.of("next", Node.of("" + k)), Node.of("" + (k + 1)));
            }
            case "USE": {
                String n = (String) o.get(0);
                want(n, facts.containsKey(n));
                draw(facts.get(n), null);
                leaning.add(n);
                return facts.get(n).shows;
            }
            case "SEARCH":
                return search(formula(o.get(0)), (List<Integer>) o.get(1));
            default:
                return ruleOfVariables(word, o);
        }
    }

    private Node ruleOfVariables(String word, List<Object> o) {
        switch (word) {
            case "GENERALISE": {
                String v = variable(o.get(1));
                Proved p = step(o.get(0));
                for (Node h : p.from) {
                    refuse(free(h).contains(v), 12);
                }
                draw(p, null);
                return Node.quantified("!", v, p.shows);
            }
            case "SPECIALISE": {
                Node t = term(o.get(1));
                Proved p = step(o.get(0));
                Node all = form(p.shows, "!");
                refuse(!sortOf(t).equals(variables.get(all.bound)), 5);
                draw(p, null);
                return put(all.parts.get(0), all.bound, t);
            }
            case "WITNESS": {
                Node t = term(o.get(1));
                Node f = formula(o.get(2));
                Proved p = step(o.get(0));
                form(f, "?");
                refuse(!sortOf(t).equals(variables.get(f.bound)), 5);
                unlike(put(f.parts.get(0), f.bound, t), p.shows);
                draw(p, null);
                return f;
            }
            case "OPEN": {
                String v = variable(o.get(2));
                Proved p = step(o.get(0));
                Proved q = step(o.get(1));
                Node some = form(p.shows, "?");
                refuse(!variables.get(v).equals(variables.get(some.bound)), 5);
                Node h = put(some.parts.get(0), some.bound, Node.of(v));
                refuse(free(some).contains(v) || free(q.shows).contains(v), 12);
                for (Node one : q.from) {
                    refuse(free(one).contains(v) && !alike(one, h), 12);
                }
                draw(p, null);
                draw(q, h);
                return q.shows;
            }
            case "REPLACE": {
                String v = variable(o.get(2));
                Node f = formula(o.get(3));
                Proved p = step(o.get(0));
                Proved q = step(o.get(1));
                Node equal = form(p.shows, "=");
                refuse(!sortOf(equal.parts.get(0)).equals(variables.get(v)), 5);
                unlike(put(f, v, equal.parts.get(0)), q.shows);
                draw(p, null);
                draw(q, null);
                return put(f, v, equal.parts.get(1));
            }
            case "INDUCTION": {
                String v = variable(o.get(2));
                refuse(!variables.get(v).equals("num"), 5);
                Node f = formula(o.get(3));
                Proved p = step(o.get(0));
                Proved q = step(o.get(1));
                unlike(put(f, v, Node.of("0")), p.shows);
                Node onwards = Node.of(">", f, put(f, v, Node.of("next", Node.of(v))));
                unlike(Node.quantified("!", v, onwards), q.shows);
                draw(p, null);
                draw(q, null);
                induction = true;
                return Node.quantified("!", v, f);
            }
            default:
                throw new IllegalStateException(word);
        }
    }

    private Node search(Node f, List<Integer> numbers) {
        refuse(numbers.size() > 4, 3);
        List<Node> given = new ArrayList<>();
        for (Integer p : numbers) {
            Proved one = step(p);
            given.add(one.shows);
            draw(one, null);
        }
        List<Node> letters = new ArrayList<>();
        int signs = collect(f, letters);
        for (Node one : given) {
            signs += collect(one, letters);
        }
        refuse(letters.size() > 4 || signs > 30, 15);
        for (int choice = 0; choice < 1 << letters.size(); choice++) {
            boolean all = true;
            for (Node one : given) {
                all = all && holds(one, letters, choice);
            }
            refuse(all && !holds(f, letters, choice), 15);
        }
        return f;
    }

    private int collect(Node f, List<Node> letters) {
        if (!"&|>#".contains(f.head)) {
            if (!among(letters, f)) {
                letters.add(f);
            }
            return 0;
        }
        int signs = 1;
        for (Node part : f.parts) {
            signs += collect(part, letters);
        }
        return signs;
    }

    private boolean holds(Node f, List<Node> letters, int choice) {
        switch (f.head) {
            case "#":
                return false;
            case "&":
                return holds(f.parts.get(0), letters, choice) && holds(f.parts.get(1), letters, choice);
            case "|":
                return holds(f.parts.get(0), letters, choice) || holds(f.parts.get(1), letters, choice);
            case ">":
                return !holds(f.parts.get(0), letters, choice) || holds(f.parts.get(1), letters, choice);
            default:
                for (int k = 0; k < letters.size(); k++) {
                    if (alike(letters.get(k), f)) {
                        return (choice >> k & 1) != 0;
                    }
                }
                throw new IllegalStateException();
        }
    }

    // ---- MODELS

    private int size(String sort) {
        return sizes.getOrDefault(sort, 1);
    }

    @SuppressWarnings("unchecked")
    private void model(String word, List<Object> o) {
        if (word.equals("SIZE")) {
            want((String) o.get(0), sorts.contains(o.get(0)));
            int k = (Integer) o.get(1);
            refuse(k < 1 || k > 4, 7);
            sizes.put((String) o.get(0), k);
            values.clear();
            zero = 0;
            return;
        }
        if (word.equals("ZERO")) {
            int k = (Integer) o.get(0);
            refuse(k < 0 || k >= size("num"), 7);
            zero = k;
            return;
        }
        String n = (String) o.get(0);
        boolean fun = word.equals("VALUE");
        want(n, fun ? funs.containsKey(n) : rels.containsKey(n));
        List<String> row = (List<String>) o.get(1);
        List<String> wanted = fun ? funParts.get(n) : rels.get(n);
        refuse(row.size() != wanted.size(), 3);
        List<Integer> numbers = new ArrayList<>();
        for (int k = 0; k < row.size(); k++) {
            int number = Integer.parseInt(row.get(k));
            refuse(number < 0 || number >= size(wanted.get(k)), 7);
            numbers.add(number);
        }
        int worth = word.equals("HOLDS") ? 1 : 0;
        if (fun) {
            worth = (Integer) o.get(2);
            refuse(worth < 0 || worth >= size(funs.get(n)), 7);
        }
        values.put(n + numbers, worth);
    }

    private int nested(Node f) {
        int most = 0;
        for (Node part : f.parts) {
            most = Math.max(most, nested(part));
        }
        return most + (f.bound != null ? 1 : 0);
    }

    private int judge(Node f) {
        Set<String> free = free(f);
        refuse(free.size() + nested(f) > 5, 6);
        Node closed = f;
        for (String v : free) {
            closed = Node.quantified("!", v, closed);
        }
        return worth(closed, new HashMap<>());
    }

    private int worth(Node f, Map<String, Integer> things) {
        if (f.bound != null) {
            boolean all = true;
            boolean some = false;
            for (int k = 0; k < size(variables.get(f.bound)); k++) {
                Map<String, Integer> more = new HashMap<>(things);
                more.put(f.bound, k);
                boolean so = worth(f.parts.get(0), more) == 1;
                all &= so;
                some |= so;
            }
            return (f.head.equals("!") ? all : some) ? 1 : 0;
        }
        if (variables.containsKey(f.head)) {
            return things.get(f.head);
        }
        if (Character.isDigit(f.head.charAt(0))) {
            int thing = zero;
            for (int k = Integer.parseInt(f.head); k > 0; k--) {
                thing = values.getOrDefault("next" + Arrays.asList(thing), 0);
            }
            return thing;
        }
        List<Integer> parts = new ArrayList<>();
        for (Node part : f.parts) {
            parts.add(worth(part, things));
        }
        boolean so;
        switch (f.head) {
            case "#":
                return 0;
            case "=":
                so = parts.get(0).equals(parts.get(1));
                break;
            case "&":
                so = parts.get(0) + parts.get(1) == 2;
                break;
            case "|":
                so = parts.get(0) + parts.get(1) > 0;
                break;
            case ">":
                so = parts.get(0) <= parts.get(1);
                break;
            default:
                return values.getOrDefault(f.head + parts, 0);
        }
        return so ? 1 : 0;
    }
}

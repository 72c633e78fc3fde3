import java.util.ArrayList;
import java.util.List;
import java.util.Random;

/** Writes STATEMENTS at random, such that many of them can be done in the state of a PlainBench. */
final class Scribe {
    private final Random random;
    private final PlainBench plain;
    private final List<String> waiting = new ArrayList<>();
    private int told = 0;

    Scribe(Random random, PlainBench plain) {
        this.random = random;
        this.plain = plain;
        List<String> start = new ArrayList<>(List.of("SORT box;"));
        List<String> names = new ArrayList<>(List.of("VAR x num;", "VAR y num;", "VAR z num;", "VAR u num;", "VAR a box;",
                "VAR b box;", "VAR d box;"));
        java.util.Collections.shuffle(names, random);
        start.addAll(names.subList(0, 2 + random.nextInt(6)));
        start.addAll(List.of("FUN f(num) num;", "FUN g(num,box) num;", "FUN c() box;", "FUN h(box,box,box) box;",
                "REL p(num);", "REL q();", "REL r(num,box);", "REL s(box,box,box);", "REL e(num,num);", "REL o();"));
        waiting.addAll(start);
    }

    private int pick(int most) {
        return random.nextInt(most);
    }

    private <T> T pick(List<T> list) {
        return list.get(pick(list.size()));
    }

    private List<String> variablesOf(String sort) {
        List<String> all = new ArrayList<>();
        for (String v : plain.variables.keySet()) {
            if (sort == null || plain.variables.get(v).equals(sort)) {
                all.add(v);
            }
        }
        return all.isEmpty() ? List.of("x") : all;
    }

    PlainBench.Node term(String sort, int depth) {
        boolean num = sort.equals("num");
        if (depth == 0 || pick(3) == 0) {
            if (pick(3) > 0) {
                return PlainBench.Node.of(pick(variablesOf(sort)));
            }
            return PlainBench.Node.of(num ? "" + pick(pick(5) == 0 ? 100001 : 4) : "c");
        }
        if (!num) {
            return PlainBench.Node.of("h", term("box", depth - 1), term("box", depth - 1), term("box", depth - 1));
        }
        switch (pick(3)) {
            case 0:
                return PlainBench.Node.of("f", term("num", depth - 1));
            case 1:
                return PlainBench.Node.of("g", term("num", depth - 1), term("box", depth - 1));
            default:
                return PlainBench.Node.of("next", term("num", depth - 1));
        }
    }

    private PlainBench.Node atom(int depth) {
        switch (pick(8)) {
            case 0:
                return PlainBench.Node.of("q");
            case 1:
                return PlainBench.Node.of("o");
            case 2:
                return PlainBench.Node.of("r", term("num", depth), term("box", depth));
            case 3:
                return PlainBench.Node.of("s", term("box", depth), term("box", depth), term("box", depth));
            case 4:
                return PlainBench.Node.of("#");
            case 5:
                return PlainBench.Node.of("e", term("num", depth), term("num", depth));
            case 6: {
                String sort = pick(3) == 0 ? "box" : "num";
                return PlainBench.Node.of("=", term(sort, depth), term(sort, depth));
            }
            default:
                return PlainBench.Node.of("p", term("num", depth));
        }
    }

    PlainBench.Node formula(int depth) {
        if (depth == 0 || pick(4) == 0) {
            return atom(Math.min(depth, 2));
        }
        switch (pick(5)) {
            case 0:
                return PlainBench.Node.of("&", formula(depth - 1), formula(depth - 1));
            case 1:
                return PlainBench.Node.of("|", formula(depth - 1), formula(depth - 1));
            case 2:
                return PlainBench.Node.of(">", formula(depth - 1), formula(depth - 1));
            default:
                return PlainBench.Node.quantified(pick(2) == 0 ? "!" : "?", pick(variablesOf(null)), formula(depth - 1));
        }
    }

    private int stepWith(String head) {
        List<Integer> all = new ArrayList<>();
        for (int k = 0; k < plain.steps.size(); k++) {
            if (head == null || plain.steps.get(k).shows().head().equals(head)) {
                all.add(k);
            }
        }
        if (all.isEmpty() || pick(30) == 0) {
            return pick(plain.steps.size() + 2) - 1;
        }
        return pick(2) == 0 ? all.get(all.size() - 1) : pick(all);
    }

    private int stepAlike(PlainBench.Node f) {
        List<Integer> all = new ArrayList<>();
        for (int k = 0; k < plain.steps.size(); k++) {
            if (plain.alike(plain.steps.get(k).shows(), f)) {
                all.add(k);
            }
        }
        return all.isEmpty() ? -1 : pick(all);
    }

    private PlainBench.Node shown(int p) {
        return p >= 0 && p < plain.steps.size() ? plain.steps.get(p).shows() : PlainBench.Node.of("q");
    }

    /** The same THING with other VARIABLES behind ! and ?. */
    PlainBench.Node renamed(PlainBench.Node f) {
        List<PlainBench.Node> parts = new ArrayList<>();
        for (PlainBench.Node part : f.parts()) {
            parts.add(renamed(part));
        }
        PlainBench.Node same = new PlainBench.Node(f.head(), f.bound(), parts);
        if (f.bound() == null || pick(2) == 0) {
            return same;
        }
        String other = pick(variablesOf(plain.variables.get(f.bound())));
        PlainBench.Node body = parts.get(0);
        if (plain.free(body).contains(other)) {
            return same;
        }
        try {
            return PlainBench.Node.quantified(f.head(), other, plain.put(body, f.bound(), PlainBench.Node.of(other)));
        } catch (PlainBench.Refused e) {
            return same;
        }
    }

    private List<PlainBench.Node> partsOf(PlainBench.Node f) {
        List<PlainBench.Node> all = new ArrayList<>(List.of(f));
        for (PlainBench.Node part : f.parts()) {
            all.addAll(partsOf(part));
        }
        return all;
    }

    private PlainBench.Node exchanged(PlainBench.Node f, PlainBench.Node part, PlainBench.Node other) {
        if (f.equals(part) && pick(4) > 0) {
            return other;
        }
        List<PlainBench.Node> parts = new ArrayList<>();
        for (PlainBench.Node one : f.parts()) {
            parts.add(exchanged(one, part, other));
        }
        return new PlainBench.Node(f.head(), f.bound(), parts);
    }

    /** A FORMULA that is near at hand, or a new one. */
    private PlainBench.Node near() {
        if (plain.steps.isEmpty() || pick(3) == 0) {
            return formula(pick(4));
        }
        PlainBench.Proved step = pick(plain.steps);
        PlainBench.Node f = step.from().isEmpty() || pick(2) == 0 ? step.shows() : pick(step.from());
        switch (pick(4)) {
            case 0:
                return renamed(f);
            case 1:
                return pick(partsOf(f));
            case 2:
                return exchanged(f, pick(partsOf(f)), pick(partsOf(f)));
            default:
                return f;
        }
    }

    private String name() {
        told++;
        return "n" + told;
    }

    private String anyName() {
        List<String> all = new ArrayList<>(List.of("num", "box", "next", "f", "c", "p", "q", "nosuch", "x", "a"));
        all.addAll(plain.facts.keySet());
        all.addAll(plain.variables.keySet());
        return pick(all);
    }

    String statement() {
        if (!waiting.isEmpty()) {
            return noisy(waiting.remove(0), 200);
        }
        return noisy(pick(4) > 0 ? step() : other(), 12);
    }

    // One TOKEN in some STATEMENTS is another one of the same kind, so that the text can still be read.
    private String noisy(String text, int seldom) {
        if (pick(seldom) > 0) {
            return text;
        }
        java.util.regex.Matcher m = java.util.regex.Pattern.compile("[a-z][a-z0-9]*|-?[0-9]+").matcher(text);
        List<int[]> spots = new ArrayList<>();
        while (m.find()) {
            spots.add(new int[] {m.start(), m.end()});
        }
        if (spots.isEmpty()) {
            return text;
        }
        int[] spot = pick(spots);
        boolean number = !Character.isLowerCase(text.charAt(spot[0]));
        String with = number ? "" + (pick(6) - 1) : anyName();
        return text.substring(0, spot[0]) + with + text.substring(spot[1]);
    }

    private String other() {
        switch (pick(16)) {
            case 0:
                return "AXIOM " + name() + " " + formula(3).text() + ";";
            case 1: {
                List<String> vars = new ArrayList<>(variablesOf(null));
                java.util.Collections.shuffle(vars, random);
                vars = vars.subList(0, Math.min(pick(4), vars.size()));
                return "DEFINE " + name() + "(" + String.join(",", vars) + ") " + formula(pick(3)).text() + ";";
            }
            case 2: case 3:
                return "THEOREM " + name() + ";";
            case 4:
                return pick(8) == 0 ? "PROOF;" : "SHOW " + stepWith(null) + ";";
            case 5:
                return "FROM " + stepWith(null) + " " + (pick(4) - 1) + ";";
            case 6:
                return "TELL " + (plain.facts.isEmpty() ? "nosuch" : pick(new ArrayList<>(plain.facts.keySet()))) + ";";
            case 7: {
                PlainBench.Node f = near();
                return "ALIKE " + f.text() + " " + (pick(3) == 0 ? near() : renamed(f)).text() + ";";
            }
            case 8: case 9: {
                String v = pick(variablesOf(null));
                String sort = plain.variables.getOrDefault(v, "num");
                return "PUT " + (pick(2) == 0 ? near() : formula(5)).text() + " " + v + " " + term(sort, 2).text() + ";";
            }
            case 10:
                return "SIZE " + (pick(2) == 0 ? "num " : "box ") + (1 + pick(4)) + ";";
            case 11:
                return pick(5) == 0 ? "ZERO " + pick(4) + ";" : value();
            case 12: case 13:
                return holds();
            default:
                return "JUDGE " + (pick(2) == 0 ? near() : formula(3)).text() + ";";
        }
    }

    private String value() {
        String[] of = {"next(" + pick(4) + ") ", "f(" + pick(4) + ") ", "g(" + pick(4) + "," + pick(4) + ") ", "c() ",
            "h(" + pick(4) + "," + pick(4) + "," + pick(3) + ") "};
        return "VALUE " + of[pick(of.length)] + pick(4) + ";";
    }

    private String holds() {
        String[] of = {"p(" + pick(4) + ");", "q();", "r(" + pick(4) + "," + pick(4) + ");", "e(" + pick(4) + "," + pick(4) + ");",
            "s(" + pick(4) + "," + pick(4) + "," + pick(3) + ");"};
        return (pick(3) == 0 ? "LACKS " : "HOLDS ") + of[pick(of.length)];
    }

    private String step() {
        switch (pick(20)) {
            case 0:
                return "ASSUME " + near().text() + ";";
            case 1:
                return "BOTH " + stepWith(null) + " " + stepWith(null) + ";";
            case 2:
                return (pick(2) == 0 ? "LEFT " : "RIGHT ") + stepWith("&") + ";";
            case 3:
                return (pick(2) == 0 ? "FIRST " : "SECOND ") + stepWith(null) + " " + near().text() + ";";
            case 4: case 5:
                return cases();
            case 6:
                return applied();
            case 7: case 8: {
                int p = stepWith(null);
                PlainBench.Node f = near();
                if (p >= 0 && p < plain.steps.size() && !plain.steps.get(p).from().isEmpty() && pick(5) > 0) {
                    f = renamed(pick(plain.steps.get(p).from()));
                }
                return "DISCHARGE " + p + " " + f.text() + ";";
            }
            case 9:
                return "GENERALISE " + stepWith(null) + " " + pick(variablesOf(null)) + ";";
            case 10: case 11: {
                int p = stepWith("!");
                String v = shown(p).bound();
                String sort = v == null || pick(20) == 0 ? "num" : plain.variables.get(v);
                return "SPECIALISE " + p + " " + term(sort, 2).text() + ";";
            }
            case 12:
                return witness();
            case 13: case 14:
                return opened();
            case 15:
                return pick(3) == 0 ? "SAME " + term(pick(2) == 0 ? "num" : "box", 3).text() + ";" : replaced();
            case 16:
                return absurd();
            case 17:
                return induction();
            case 18:
                return pick(3) == 0 ? "COUNT " + (pick(100002) - 1) + ";"
                        : "USE " + (plain.facts.isEmpty() ? "nosuch" : pick(new ArrayList<>(plain.facts.keySet()))) + ";";
            default:
                return searched();
        }
    }

    private String cases() {
        int p = stepWith("|");
        PlainBench.Node or = shown(p);
        int q = stepWith(null);
        int w = stepAlike(shown(q));
        if (or.head().equals("|") && pick(2) == 0) {
            PlainBench.Node goal = formula(1);
            int n = plain.steps.size();
            waiting.add("ASSUME " + renamed(or.parts().get(0)).text() + ";");
            waiting.add("SECOND " + n + " " + goal.text() + ";");
            waiting.add("ASSUME " + renamed(or.parts().get(1)).text() + ";");
            waiting.add("ASSUME " + PlainBench.Node.of(">", or.parts().get(1), PlainBench.Node.of("|", goal,
                    or.parts().get(0))).text() + ";");
            waiting.add("APPLY " + (n + 3) + " " + (n + 2) + ";");
            waiting.add("CASE " + p + " " + (n + 1) + " " + (n + 4) + ";");
            waiting.add("FROM " + (n + 5) + " 0;");
            waiting.add("FROM " + (n + 5) + " 1;");
            return waiting.remove(0);
        }
        return "CASE " + p + " " + q + " " + w + ";";
    }

    private String applied() {
        int p = stepWith(">");
        PlainBench.Node implies = shown(p);
        if (!implies.head().equals(">")) {
            return "ASSUME " + PlainBench.Node.of(">", near(), near()).text() + ";";
        }
        int q = stepAlike(implies.parts().get(0));
        return q < 0 ? "ASSUME " + renamed(implies.parts().get(0)).text() + ";" : "APPLY " + p + " " + q + ";";
    }

    private String witness() {
        int p = stepWith(null);
        PlainBench.Node f = shown(p);
        List<PlainBench.Node> terms = new ArrayList<>();
        for (PlainBench.Node part : partsOf(f)) {
            if (part.head().matches("[a-z0-9]+") && !plain.rels.containsKey(part.head())) {
                terms.add(part);
            }
        }
        PlainBench.Node t = terms.isEmpty() || pick(6) == 0 ? term("num", 1) : pick(terms);
        boolean box = t.head().equals("c") || t.head().equals("h") || "box".equals(plain.variables.get(t.head()));
        String v = pick(variablesOf(box ? "box" : "num"));
        PlainBench.Node some = PlainBench.Node.quantified("?", v, exchanged(f, t, PlainBench.Node.of(v)));
        return "WITNESS " + p + " " + t.text() + " " + renamed(some).text() + ";";
    }

    private String opened() {
        int p = stepWith("?");
        PlainBench.Node some = shown(p);
        if (!some.head().equals("?")) {
            return "ASSUME " + PlainBench.Node.quantified("?", pick(variablesOf(null)), formula(2)).text() + ";";
        }
        String v = pick(variablesOf(plain.variables.get(some.bound())));
        if (pick(2) == 0) {
            try {
                PlainBench.Node h = plain.put(some.parts().get(0), some.bound(), PlainBench.Node.of(v));
                int n = plain.steps.size();
                waiting.add("ASSUME " + renamed(h).text() + ";");
                waiting.add("WITNESS " + n + " " + v + " " + renamed(some).text() + ";");
                waiting.add("OPEN " + p + " " + (n + 1) + " " + v + ";");
                return waiting.remove(0);
            } catch (PlainBench.Refused e) {
                return "OPEN " + p + " " + stepWith(null) + " " + v + ";";
            }
        }
        return "OPEN " + p + " " + stepWith(null) + " " + v + ";";
    }

    private String replaced() {
        int p = stepWith("=");
        PlainBench.Node equal = shown(p);
        if (!equal.head().equals("=")) {
            String sort = pick(3) == 0 ? "box" : "num";
            return "ASSUME " + PlainBench.Node.of("=", term(sort, 1), term(sort, 1)).text() + ";";
        }
        PlainBench.Node t = equal.parts().get(0);
        boolean box = t.head().equals("c") || t.head().equals("h") || "box".equals(plain.variables.get(t.head()));
        String v = pick(variablesOf(box ? "box" : "num"));
        List<Integer> with = new ArrayList<>();
        for (int k = 0; k < plain.steps.size(); k++) {
            if (partsOf(shown(k)).contains(t)) {
                with.add(k);
            }
        }
        int q = with.isEmpty() ? stepWith(null) : pick(with);
        return "REPLACE " + p + " " + q + " " + v + " " + renamed(exchanged(shown(q), t, PlainBench.Node.of(v))).text() + ";";
    }

    private String absurd() {
        int p = stepWith("#");
        if (!shown(p).head().equals("#")) {
            PlainBench.Node f = near();
            int n = plain.steps.size();
            waiting.add("ASSUME " + f.text() + ";");
            waiting.add("ASSUME " + PlainBench.Node.of(">", f, PlainBench.Node.of("#")).text() + ";");
            waiting.add("APPLY " + (n + 1) + " " + n + ";");
            waiting.add("ABSURD " + (n + 2) + " " + renamed(f).text() + ";");
            return waiting.remove(0);
        }
        return "ABSURD " + p + " " + near().text() + ";";
    }

    private String induction() {
        String v = pick(variablesOf("num"));
        PlainBench.Node f = formula(2);
        PlainBench.Node zero = plain.put(f, v, PlainBench.Node.of("0"));
        PlainBench.Node onwards = PlainBench.Node.of(">", f, plain.put(f, v, PlainBench.Node.of("next", PlainBench.Node.of(v))));
        int n = plain.steps.size();
        waiting.add((pick(2) == 0 ? "ASSUME " : "AXIOM " + name() + " ") + renamed(zero).text() + ";");
        waiting.add("ASSUME " + renamed(PlainBench.Node.quantified("!", v, onwards)).text() + ";");
        waiting.add("INDUCTION " + n + " " + (n + 1) + " " + v + " " + renamed(f).text() + ";");
        return waiting.remove(0);
    }

    private PlainBench.Node sentence(int depth, List<PlainBench.Node> letters) {
        if (depth == 0 || pick(4) == 0) {
            return pick(6) == 0 ? PlainBench.Node.of("#") : renamed(pick(letters));
        }
        return PlainBench.Node.of("&|>".substring(pick(3)).substring(0, 1), sentence(depth - 1, letters),
                sentence(depth - 1, letters));
    }

    private String searched() {
        List<PlainBench.Node> letters = new ArrayList<>();
        for (int k = 0; k < 2 + pick(3); k++) {
            letters.add(pick(2) == 0 ? near() : formula(1));
        }
        StringBuilder text = new StringBuilder("SEARCH ");
        PlainBench.Node f = sentence(pick(5), letters);
        if (pick(2) == 0) {
            f = PlainBench.Node.of("|", f, PlainBench.Node.of(">", renamed(f), PlainBench.Node.of("#")));
        }
        text.append(f.text());
        for (int k = pick(7) - 2; k > 0; k--) {
            text.append(' ').append(stepWith(null));
        }
        return text.append(';').toString();
    }
}

import java.nio.charset.StandardCharsets;
import java.util.ArrayList;
import java.util.List;
import java.util.Random;

/** Texts at random, done by ProofBench and by PlainBench: all that can be asked must be answered alike. */
public final class FuzzTest {
    private static final int[] DONE = new int[16];

    public static void main(String[] args) {
        int sessions = args.length > 0 ? Integer.parseInt(args[0]) : 150;
        int first = args.length > 1 ? Integer.parseInt(args[1]) : 1;
        for (int seed = first; seed < first + sessions; seed++) {
            if (!session(seed)) {
                break;
            }
            if (!garbage(seed)) {
                break;
            }
        }
        System.out.println("done, and REFUSED by why: " + java.util.Arrays.toString(DONE));
        Bench.done();
    }

    private static boolean session(int seed) {
        Random random = new Random(seed);
        PlainBench plain = new PlainBench();
        Bench bench = new Bench();
        Scribe scribe = new Scribe(random, plain);
        boolean same = true;
        for (int k = 0; same && k < 12; k++) {
            StringBuilder text = new StringBuilder();
            List<Integer> due = new ArrayList<>();
            int whole = 0;
            while (whole < 40) {
                String statement = scribe.statement();
                if (text.length() + statement.length() > 3900) {
                    break;
                }
                text.append(statement);
                whole += plain.run(statement);
                due.addAll(plain.out);
                if (plain.wrong >= 0) {
                    Bench.due(seed + ": " + statement, plain.wrong, -1);
                    return false;
                }
            }
            bench.feed(text.toString());
            same = compare(seed + ": " + text, bench, plain, whole, due);
        }
        for (int why = 0; why < 16; why++) {
            DONE[why] += plain.refusals[why];
        }
        return same;
    }

    private static boolean compare(String what, Bench bench, PlainBench plain, int whole, List<Integer> due) {
        ProofBench x = bench.object;
        List<Object> got = new ArrayList<>();
        List<Object> want = new ArrayList<>();
        got.add(x.run());
        want.add(whole);
        got.add(x.wrong());
        want.add(plain.wrong);
        List<Integer> out = new ArrayList<>();
        for (int i = 0; i < x.outputs(); i++) {
            out.add(x.out(i));
        }
        got.add(out);
        want.add(due);
        got.add(x.steps());
        want.add(plain.steps.size());
        for (int p = -1; p <= plain.steps.size(); p++) {
            boolean is = p >= 0 && p < plain.steps.size();
            got.add(x.hypotheses(p));
            want.add(is ? plain.steps.get(p).from().size() : -1);
        }
        List<String> names = new ArrayList<>(plain.facts.keySet());
        got.add(x.facts());
        want.add(names.size());
        for (int i = -1; i <= names.size(); i++) {
            boolean is = i >= 0 && i < names.size();
            got.add(x.inductive(i));
            want.add(!is ? -1 : inductive(plain, names.get(i)) ? 1 : 0);
            for (int j = -1; j <= names.size(); j++) {
                boolean both = is && j >= 0 && j < names.size();
                got.add(x.leans(i, j));
                want.add(!both ? -1 : plain.facts.get(names.get(i)).leans().contains(names.get(j)) ? 1 : 0);
            }
        }
        for (int why = 0; why < 16; why++) {
            got.add(x.refusals(why));
            want.add(plain.refusals[why]);
        }
        Bench.due(what, got, want);
        return got.equals(want);
    }

    // In the document's own words: a FACT, or one on which it LEANS, comes from an INDUCTION.
    private static boolean inductive(PlainBench plain, String name) {
        boolean is = plain.facts.get(name).induction();
        for (String other : plain.facts.get(name).leans()) {
            is |= plain.facts.get(other).induction();
        }
        return is;
    }

    /** Texts with bytes and TOKENS changed, so that most are WRONG somewhere. */
    private static boolean garbage(int seed) {
        Random random = new Random(seed);
        PlainBench plain = new PlainBench();
        Scribe scribe = new Scribe(random, plain);
        Bench bench = new Bench();
        PlainBench other = new PlainBench();
        boolean same = true;
        for (int k = 0; same && k < 20; k++) {
            StringBuilder text = new StringBuilder();
            for (int i = 0; i < 20; i++) {
                String statement = scribe.statement();
                plain.run(statement);
                if (text.length() + statement.length() < 3900) {
                    text.append(statement).append(random.nextInt(3) == 0 ? "\n" : "");
                }
            }
            int changes = k == 0 ? 0 : random.nextInt(3);
            for (int i = 0; i < changes; i++) {
                String signs = "(),;=&|>!?# \n-09azAZx*\u00e9\u0000[SORT";
                int at = random.nextInt(text.length());
                String with = random.nextInt(8) == 0 ? Bench.repeat("1a".substring(random.nextInt(2)), 5 + random.nextInt(9))
                        : "" + signs.charAt(random.nextInt(signs.length()));
                text.replace(at, at + random.nextInt(3), with);
            }
            int cut = random.nextInt(4) == 0 ? random.nextInt(text.length() + 1) : text.length();
            String all = text.substring(0, cut);
            if (all.getBytes(StandardCharsets.ISO_8859_1).length > 4000) {
                continue;
            }
            int whole = other.run(all);
            bench.feed(all);
            same = compare(seed + " garbage: " + all, bench, other, whole, new ArrayList<>(other.out));
        }
        return same;
    }
}

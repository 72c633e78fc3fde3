/** Promise 9: hypotheses. */
public final class Promise09HypothesesTest {
    public static void main(String[] args) {
        noneSuch();
        howMany();
        toTwenty();
        Bench.done();
    }

    private static void noneSuch() {
        Bench.sentence("BAD if there is none such");
        Bench bench = new Bench();
        for (int steps = 0; steps <= 4; steps++) {
            Bench.due("steps", bench.object.steps(), steps);
            for (int p : new int[] {-1, steps, steps + 1, 299, 300, 301, Integer.MAX_VALUE, Integer.MIN_VALUE}) {
                Bench.due("hypotheses(" + p + ")", bench.object.hypotheses(p), -1);
            }
            for (int p = 0; p < steps; p++) {
                Bench.due("hypotheses(" + p + ")", bench.object.hypotheses(p), 1);
            }
            bench.run("ASSUME #;");
        }
        bench.run("PROOF;");
        Bench.due("hypotheses(0) behind PROOF", bench.object.hypotheses(0), -1);
        bench.run("COUNT 0;");
        Bench.due("hypotheses(0)", bench.object.hypotheses(0), 0);
        Bench.due("hypotheses(1), that was one of the old proof", bench.object.hypotheses(1), -1);
        bench.run("ASSUME no;LEFT 0;");
        Bench.due("hypotheses(1) of what was REFUSED", bench.object.hypotheses(1), -1);
        Bench full = new Bench();
        full.run(Bench.repeat("ASSUME#;", 305));
        Bench.due("hypotheses(299)", full.object.hypotheses(299), 1);
        Bench.due("hypotheses(300)", full.object.hypotheses(300), -1);
    }

    private static void howMany() {
        Bench.sentence("How many HYPOTHESES a step has");
        Bench bench = new Bench();
        bench.run("VAR x num;REL p(num);REL q();AXIOM a p(0);");
        String[] all = {"ASSUME q:1", "BOTH 0 0:1", "LEFT 1:1", "FIRST 0 #:1", "ASSUME |(q,q):1", "CASE 4 0 0:1", "CASE 4 4 4:1", "DISCHARGE 0 q:0", "DISCHARGE 4 q:1", "APPLY 7 0:1", "GENERALISE 0 x:1",
            "SPECIALISE 10 0:1", "WITNESS 7 0 ?x >(q,q):0", "OPEN 12 4 x:1", "OPEN 12 7 x:0", "SAME 0:0", "USE a:0", "REPLACE 15 16 x p(x):0", "ASSUME !x >(p(x),p(next(x))):1", "INDUCTION 16 18 x p(x):1",
            "COUNT 3:0", "ASSUME #:1", "ABSURD 21 q:1", "BOTH 0 4:2", "BOTH 23 18:3", "BOTH 24 21:4", "SEARCH q 25:4", "SEARCH >(q,q):0", "SEARCH q 0 23:2", "DISCHARGE 25 |(q,q):3", "RIGHT 25:4", "ABSURD 30 >(q,q):4",
            "ASSUME >(q,#):1", "APPLY 32 0:2", "ABSURD 33 q:1", "ABSURD 33 #:2"};
        for (int k = 0; k < all.length; k++) {
            String[] two = all[k].split(":");
            bench.check(two[0] + ";", "0");
            Bench.due("hypotheses(" + k + ") of " + all[k], bench.object.hypotheses(k), Integer.parseInt(two[1]));
        }
        // Once made, a step stays as it is.
        for (int k = 0; k < all.length; k++) {
            Bench.due("hypotheses(" + k + ") of " + all[k], bench.object.hypotheses(k), Integer.parseInt(all[k].split(":")[1]));
        }
    }

    private static void toTwenty() {
        Bench.sentence("a step 20 HYPOTHESES at most (8)");
        Bench bench = new Bench();
        bench.run("REL p(num);ASSUME p(0);");
        for (int k = 1; k <= 20; k++) {
            // Steps 2 k - 1: p(k), 2 k: all so far.
            bench.check("ASSUME p(" + k + ");BOTH " + (2 * k - 2) + " " + (2 * k - 1) + ";", k < 20 ? "0 0" : "0 8");
            Bench.due("hypotheses(" + 2 * k + ")", bench.object.hypotheses(2 * k), k < 20 ? k + 1 : -1);
        }
        Bench.due("hypotheses(38)", bench.object.hypotheses(38), 20);
        Bench.due("steps", bench.object.steps(), 40);
        bench.check("BOTH 38 38;BOTH 39 38;BOTH 38 0;", "0 8 0");
        Bench.due("hypotheses(40)", bench.object.hypotheses(40), 20);
        Bench.due("hypotheses(41)", bench.object.hypotheses(41), 20);
        Bench.due("hypotheses(42)", bench.object.hypotheses(42), -1);
    }
}

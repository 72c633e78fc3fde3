/** Promise 12: inductive. */
public final class Promise12InductiveTest {
    public static void main(String[] args) {
        inductive();
        noneSuch();
        everyStep();
        farAway();
        Bench.done();
    }

    private static void inductive() {
        Bench bench = new Bench();
        bench.check("VAR x num;REL p(num);AXIOM a p(0);AXIOM b !x >(p(x),p(next(x)));USE a;USE b;INDUCTION 0 1 x p(x);THEOREM t;"
                + "SPECIALISE 2 7;THEOREM u;USE a;THEOREM v;PROOF;USE u;THEOREM w;FIRST 0 #;THEOREM z;USE a;THEOREM y;BOTH 0 2;THEOREM k;",
                "0 0 0 0 0 0 0 0 0 0 0 0 0 0 0 0 0 0 0 0 0");
        int[] due = {0, 0, 1, 1, 0, 1, 1, 0, 1};
        for (int i = 0; i < due.length; i++) {
            Bench.due("inductive(" + i + ")", bench.object.inductive(i), due[i]);
        }
        Bench.due("inductive(-1)", bench.object.inductive(-1), -1);
        Bench.due("inductive(9)", bench.object.inductive(9), -1);
        Bench.due("inductive(MAX)", bench.object.inductive(Integer.MAX_VALUE), -1);
        Bench.due("w leans on t", bench.object.leans(5, 2), 0);
        Bench.due("w leans on u", bench.object.leans(5, 3), 1);
        Bench.due("w leans on b", bench.object.leans(5, 1), 1);
    }

    private static void noneSuch() {
        Bench.sentence("BAD if there is none such");
        Bench bench = new Bench();
        for (int facts = 0; facts <= 40; facts++) {
            if (facts > 0) {
                bench.run("AXIOM a" + facts + " #;");
                Bench.due("inductive(" + (facts - 1) + ")", bench.object.inductive(facts - 1), 0);
            }
            Bench.due("inductive(" + facts + ")", bench.object.inductive(facts), -1);
        }
        for (int i : new int[] {-1, 40, 41, Integer.MAX_VALUE, Integer.MIN_VALUE}) {
            Bench.due("inductive(" + i + ")", bench.object.inductive(i), -1);
        }
    }

    private static final String START = "VAR x num;REL p(num);REL q();AXIOM a p(0);AXIOM b !x >(p(x),p(next(x)));AXIOM c q;"
            + "USE a;USE b;INDUCTION 0 1 x p(x);SPECIALISE 2 0;USE c;";

    // Steps 2 and 3 come from an INDUCTION, 0, 1 and 4 do not.
    private static void everyStep() {
        Bench.sentence("of a step that has an INDUCTION among those from which it comes");
        String[] rules = {"BOTH 0 4:0", "BOTH 3 4:1", "BOTH 4 3:1", "FIRST 3 q:1", "FIRST 4 q:0", "SECOND 3 q:1", "GENERALISE 3 x:1", "GENERALISE 0 x:0", "SPECIALISE 2 7:1", "SPECIALISE 1 7:0",
            "WITNESS 3 0 ?x p(x):1", "WITNESS 0 0 ?x p(x):0", "DISCHARGE 3 q:1", "DISCHARGE 0 q:0", "SEARCH q 4:0", "SEARCH q 4 3:1", "SEARCH q 2 4:1", "INDUCTION 0 1 x p(x):1", "INDUCTION 3 1 x p(x):1",
            "SAME 0:0", "COUNT 0:0", "USE c:0"};
        for (String rule : rules) {
            String[] two = rule.split(":");
            Bench bench = new Bench();
            bench.run(START);
            bench.check(two[0] + ";THEOREM t;", "0 0");
            Bench.due("inductive of " + rule, bench.object.inductive(3), Integer.parseInt(two[1]));
            Bench.due("inductive(2)", bench.object.inductive(2), 0);
        }
        // CASE, APPLY, OPEN, REPLACE, ABSURD, LEFT and RIGHT of what they name, be it needed or not.
        String[] more = {"FIRST 3 q;CASE 5 4 4:1", "FIRST 4 q;CASE 5 3 3:1", "FIRST 4 q;CASE 5 4 4:0", "FIRST 4 q;CASE 5 0 3:1", "FIRST 4 q;CASE 5 3 0:1", "BOTH 3 4;RIGHT 5:1", "BOTH 0 4;LEFT 5:0", "DISCHARGE 4 p(0);APPLY 5 3:1",
            "DISCHARGE 4 p(0);APPLY 5 0:0", "WITNESS 3 0 ?x p(x);OPEN 5 4 x:1", "WITNESS 0 0 ?x p(x);OPEN 5 4 x:0", "WITNESS 0 0 ?x p(x);OPEN 5 3 x:1", "SAME 0;REPLACE 5 3 x p(x):1", "SAME 0;REPLACE 5 0 x p(x):0"};
        for (String rule : more) {
            String[] two = rule.split(":");
            Bench bench = new Bench();
            bench.run(START);
            bench.check(two[0] + ";THEOREM t;", "0 0 0");
            Bench.due("inductive of " + rule, bench.object.inductive(3), Integer.parseInt(two[1]));
        }
        // A step that is REFUSED leaves nothing of itself in the next one.
        Bench bench = new Bench();
        bench.run(START);
        bench.check("INDUCTION 0 4 x p(x);LEFT 3;USE c;THEOREM t;BOTH 2 9;SEARCH # 2;USE c;THEOREM u;", "11 10 0 0 9 15 0 0");
        Bench.due("inductive(3)", bench.object.inductive(3), 0);
        Bench.due("inductive(4)", bench.object.inductive(4), 0);
        Bench.due("leans(4, 0)", bench.object.leans(4, 0), 0);
    }

    private static void farAway() {
        Bench.sentence("A FACT is INDUCTIVE if it, or one on which it LEANS, is");
        Bench bench = new Bench();
        bench.run(START);
        bench.check("THEOREM no;", "0");
        bench.run("SPECIALISE 2 0;THEOREM t0;");
        for (int k = 1; k < 30; k++) {
            bench.check("PROOF;USE t" + (k - 1) + ";FIRST 0 #;USE t" + (k - 1) + ";THEOREM t" + k + ";", "0 0 0 0 0");
        }
        Bench.due("facts", bench.object.facts(), 34);
        for (int i = 0; i < 34; i++) {
            Bench.due("inductive(" + i + ")", bench.object.inductive(i), i < 4 ? 0 : 1);
        }
        bench.check("PROOF;USE no;THEOREM n1;AXIOM z =(0,0);", "0 0 0 0");
        Bench.due("inductive(34)", bench.object.inductive(34), 0);
        Bench.due("inductive(35)", bench.object.inductive(35), 0);
    }
}

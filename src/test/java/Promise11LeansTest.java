/** Promise 11: leans. */
public final class Promise11LeansTest {
    public static void main(String[] args) {
        leans();
        noneSuch();
        notOnItself();
        everyStep();
        Bench.done();
    }

    private static void leans() {
        Bench bench = new Bench();
        bench.check("REL p();REL q();AXIOM a p;AXIOM b q;DEFINE d() p;USE a;USE b;BOTH 0 1;THEOREM t;LEFT 2;THEOREM u;",
                "0 0 0 0 0 0 0 0 0 0 0");
        bench.check("PROOF;USE t;FIRST 0 q;THEOREM v;COUNT 0;THEOREM w;ASSUME p;DISCHARGE 3 p;THEOREM x;USE d;LEFT 5;SEARCH p 1 2;THEOREM y;",
                "0 0 0 0 0 0 0 0 0 0 0 15 0");
        ProofBench x = bench.object;
        Bench.due("facts", x.facts(), 9);
        // a b d t u v w x y
        int[] due = {0, 0, 0, 0b11, 0b11, 0b1011, 0, 0, 0b100};
        for (int i = 0; i < 9; i++) {
            for (int j = 0; j < 9; j++) {
                Bench.due("leans(" + i + ", " + j + ")", x.leans(i, j), due[i] >> j & 1);
            }
            Bench.due("inductive(" + i + ")", x.inductive(i), 0);
        }
        int[][] none = {{-1, 0}, {0, -1}, {9, 0}, {0, 9}, {Integer.MAX_VALUE, 0}, {0, Integer.MIN_VALUE}, {9, 9}};
        for (int[] pair : none) {
            Bench.due("leans(" + pair[0] + ", " + pair[1] + ")", x.leans(pair[0], pair[1]), -1);
        }
        // All steps that are named are leant on, be they needed or not.
        Bench each = new Bench();
        each.check("REL p();REL q();AXIOM a p;AXIOM b |(q,q);AXIOM c >(q,p);USE a;USE b;CASE 1 0 0;THEOREM t;USE c;SEARCH >(#,#) 3;THEOREM u;",
                "0 0 0 0 0 0 0 0 0 0 0 0");
        Bench.due("t leans on a", each.object.leans(3, 0), 1);
        Bench.due("t leans on b", each.object.leans(3, 1), 1);
        Bench.due("t leans on c", each.object.leans(3, 2), 0);
        Bench.due("u leans on c", each.object.leans(4, 2), 1);
        Bench.due("u leans on a", each.object.leans(4, 0), 0);
        farApart();
    }

    // The last of forty FACTS, too, can be leant on.
    private static void farApart() {
        StringBuilder text = new StringBuilder();
        for (int k = 0; k < 38; k++) {
            text.append("AXIOM a").append(k).append(" #;");
        }
        text.append("USE a37;THEOREM t;USE t;THEOREM u;");
        Bench bench = new Bench();
        bench.run(text.toString());
        Bench.due("facts", bench.object.facts(), 40);
        for (int j = 0; j < 40; j++) {
            Bench.due("leans(38, " + j + ")", bench.object.leans(38, j), j == 37 ? 1 : 0);
            Bench.due("leans(39, " + j + ")", bench.object.leans(39, j), j >= 37 && j < 39 ? 1 : 0);
        }
    }

    private static void noneSuch() {
        Bench.sentence("BAD if there is none such");
        Bench bench = new Bench();
        int[] far = {-1, Integer.MIN_VALUE, Integer.MAX_VALUE, 40, 64, -64, 63};
        for (int facts = 0; facts <= 40; facts++) {
            if (facts > 0) {
                bench.run("AXIOM a" + facts + " #;");
            }
            Bench.due("leans(" + facts + ", " + facts + ")", bench.object.leans(facts, facts), -1);
            for (int k = 0; k < facts; k++) {
                Bench.due("leans(" + k + ", " + facts + ")", bench.object.leans(k, facts), -1);
                Bench.due("leans(" + facts + ", " + k + ")", bench.object.leans(facts, k), -1);
                Bench.due("leans(" + k + ", " + (facts - 1) + ")", bench.object.leans(k, facts - 1), 0);
                Bench.due("leans(" + (facts - 1) + ", " + k + ")", bench.object.leans(facts - 1, k), 0);
            }
            for (int one : far) {
                Bench.due("leans(" + one + ", 0)", bench.object.leans(one, 0), one == 40 && facts > 40 ? 0 : -1);
                Bench.due("leans(0, " + one + ")", bench.object.leans(0, one), -1);
            }
        }
    }

    private static void notOnItself() {
        Bench.sentence("None LEANS on itself");
        Bench bench = new Bench();
        bench.check("AXIOM a #;USE a;THEOREM b;USE b;THEOREM c;USE c;THEOREM d;", "0 0 0 0 0 0 0");
        for (int i = 0; i < 4; i++) {
            for (int j = 0; j < 4; j++) {
                Bench.due("leans(" + i + ", " + j + ")", bench.object.leans(i, j), j < i ? 1 : 0);
            }
        }
    }

    // Each rule hands on what the steps lean on that it names, first and last.
    private static void everyStep() {
        Bench.sentence("It LEANS on what they do");
        String start = "VAR x num;REL p(num);REL q();AXIOM a q;AXIOM b q;AXIOM c q;USE a;USE b;USE c;ASSUME &(q,q);ASSUME |(q,q);ASSUME >(q,q);ASSUME #;ASSUME !x p(x);ASSUME ?x p(x);"
                + "ASSUME =(0,0);ASSUME p(0);ASSUME !x >(p(x),p(next(x)));";
        int[] shown = {3, 4, 5, 6, 7, 8, 9, 10, 11};
        StringBuilder more = new StringBuilder(start);
        // Steps 12 + 2 k and 13 + 2 k: the same as step 3 + k, and leaning on a.
        for (int k = 0; k < shown.length; k++) {
            more.append("BOTH 0 ").append(shown[k]).append(";RIGHT ").append(12 + 2 * k).append(';');
        }
        String[] rules = {"BOTH 0 1:3", "BOTH 2 1:6", "LEFT 13:1", "RIGHT 13:1", "FIRST 0 q:1", "SECOND 1 q:2", "CASE 15 1 2:7", "CASE 4 1 2:6", "APPLY 17 1:3", "APPLY 5 2:4", "DISCHARGE 0 #:1",
            "GENERALISE 1 x:2", "SPECIALISE 21 0:1", "WITNESS 27 0 ?x p(x):1", "OPEN 23 1 x:3", "OPEN 8 2 x:4", "REPLACE 25 27 x p(x):1", "REPLACE 9 27 x p(x):1", "REPLACE 25 10 x p(x):1",
            "ABSURD 19 q:1", "INDUCTION 27 11 x p(x):1", "INDUCTION 10 29 x p(x):1", "SEARCH q 0 1 2:7", "SEARCH q 2:4", "SEARCH >(q,q):0", "SAME 0:0", "COUNT 5:0", "USE b:2", "ASSUME q:0"};
        for (String rule : rules) {
            String[] two = rule.split(":");
            Bench bench = new Bench();
            bench.run(more.toString());
            Bench.due("steps", bench.object.steps(), 30);
            bench.check(two[0] + ";", "0");
            // What is left of HYPOTHESES is discharged, so that a THEOREM can tell on what it leans.
            String all = "";
            int at = 30;
            for (String one : new String[] {"&(q,q)", "|(q,q)", ">(q,q)", "#", "!x p(x)", "?x p(x)", "=(0,0)", "p(0)", "!x >(p(x),p(next(x)))", "q"}) {
                all += "DISCHARGE " + at++ + " " + one + ";";
            }
            bench.run(all + "THEOREM t;");
            Bench.due("facts behind " + rule, bench.object.facts(), 4);
            int leans = bench.object.leans(3, 0) + 2 * bench.object.leans(3, 1) + 4 * bench.object.leans(3, 2);
            Bench.due("what " + rule + " leans on", leans, Integer.parseInt(two[1]));
        }
    }
}

/** Promises 10, 11 and 12: AXIOM, DEFINE, THEOREM, USE, and on what FACTS lean. */
public final class FactsTest {
    public static void main(String[] args) {
        facts();
        definitions();
        leans();
        inductive();
        Bench.done();
    }

    private static void facts() {
        Bench bench = new Bench();
        bench.check("THEOREM t;VAR x num;REL p(num);AXIOM a p(x);TELL a;USE a;SHOW 0;FROM 0 0;THEOREM t;TELL t;",
                "9 0 0 0 [p(x)] 0 [p(x)] 7 0 [p(x)]");
        Bench.due("facts", bench.object.facts(), 2);
        // The proof goes on; a step with HYPOTHESES is none.
        bench.check("ASSUME p(0);THEOREM u;USE t;THEOREM u;THEOREM u;PROOF;USE u;SHOW 0;PROOF;THEOREM v;",
                "0 14 0 0 1 0 0 [p(x)] 0 9");
        Bench.due("facts", bench.object.facts(), 3);
        // The NAME is looked at ahead of the proof.
        bench.check("THEOREM p;ASSUME #;THEOREM p;THEOREM x;THEOREM w;", "1 0 1 1 14");
        // USE generalises nothing: a VARIABLE FREE in a FACT is in no HYPOTHESIS.
        bench.check("PROOF;USE a;GENERALISE 0 x;SPECIALISE 1 5;THEOREM w;TELL w;", "0 0 0 0 0 [p(5)]");
    }

    private static void definitions() {
        Bench bench = new Bench();
        bench.check("SORT box;VAR x num;VAR b box;VAR y num;REL r(num,box);DEFINE d(b,x) ?y &(r(x,b),r(y,b));TELL d;",
                "0 0 0 0 0 0 [!b !x &(>(d(b,x),?y &(r(x,b),r(y,b))),>(?y &(r(x,b),r(y,b)),d(b,x)))]");
        bench.check("ASSUME d(b,0);ASSUME d(0,b);ASSUME d(b);ASSUME !b ?x d(b,x);USE d;SPECIALISE 2 b;", "0 5 3 0 0 0");
        bench.check("DEFINE nil() #;TELL nil;ASSUME nil;USE nil;DEFINE all(x) !x =(x,x);TELL all;",
                "0 [&(>(nil,#),>(#,nil))] 0 0 0 [!x &(>(all(x),!x =(x,x)),>(!x =(x,x),all(x)))]");
        bench.check("DEFINE three(x,b,y) &(r(x,b),r(y,b));ASSUME three(0,b,x);ASSUME three(0,0,b);TELL three;",
                "0 0 5 [!x !b !y &(>(three(x,b,y),&(r(x,b),r(y,b))),>(&(r(x,b),r(y,b)),three(x,b,y)))]");
        Bench.due("facts", bench.object.facts(), 4);
        // In a MODEL a defined REL is one as others are.
        bench.check("JUDGE nil;HOLDS nil();JUDGE nil;JUDGE &(>(nil,#),>(#,nil));", "[0] 0 [1] [0]");
        // The FACT has 3 + 2 * (1 + 1 + m + F) PLACES, m less 2 of them: with F of 196 it is too GREAT.
        String four = "e(0,0,0)";
        String fact = Bench.repeat("&(" + four + ",", 32) + four + Bench.repeat(")", 32);
        Bench.due("F has 164 PLACES", 33 * 4 + 32, 164);
        String more = Bench.repeat("&(#,", 15) + "#" + Bench.repeat(")", 15);
        String start = "VAR x num;VAR y num;VAR z num;REL e(num,num,num);";
        String f = "&(" + fact + "," + more + ")";
        Bench.due("F has 196 PLACES", 1 + 164 + 31, 196);
        // 1 + 2 * (1 + 1 + 196) = 397, with x 400, with x and y 403.
        new Bench().check(start + "DEFINE d() " + f + ";DEFINE c(x) " + f + ";DEFINE b(x,y) " + f + ";USE b;", "0 0 0 0 0 0 6 1");
        // 38 DEEP is 40 with & and > around, 41 with one ! more.
        String deep = Bench.repeat("&(#,", 37) + "#" + Bench.repeat(")", 37);
        new Bench().check("VAR x num;DEFINE d() " + deep + ";DEFINE c(x) " + deep + ";DEFINE b() &(#," + deep + ");", "0 0 6 6");
    }

    private static void leans() {
        Bench bench = new Bench();
        bench.check("REL p();REL q();AXIOM a p;AXIOM b q;DEFINE d() p;USE a;USE b;BOTH 0 1;THEOREM t;LEFT 2;THEOREM u;",
                "0 0 0 0 0 0 0 0 0 0 0");
        bench.check("PROOF;USE t;FIRST 0 q;THEOREM v;COUNT 0;THEOREM w;ASSUME p;DISCHARGE 3 p;THEOREM x;USE d;LEFT 5;SEARCH p 1 2;THEOREM y;",
                "0 0 0 0 0 0 0 0 0 0 0 15 0");
        ProofBench x = bench.object;
        Bench.due("facts", x.facts(), 9);
        // a b d t u v w x y
        int[] due = {0, 0, 0, 0b11, 0b11, 0b1011, 0, 0, 0b100};
        for (int i = 0; i < 9; i++) {
            for (int j = 0; j < 9; j++) {
                Bench.due("leans(" + i + ", " + j + ")", x.leans(i, j), due[i] >> j & 1);
            }
            Bench.due("inductive(" + i + ")", x.inductive(i), 0);
        }
        int[][] none = {{-1, 0}, {0, -1}, {9, 0}, {0, 9}, {Integer.MAX_VALUE, 0}, {0, Integer.MIN_VALUE}, {9, 9}};
        for (int[] pair : none) {
            Bench.due("leans(" + pair[0] + ", " + pair[1] + ")", x.leans(pair[0], pair[1]), -1);
        }
        // All steps that are named are leant on, be they needed or not.
        Bench each = new Bench();
        each.check("REL p();REL q();AXIOM a p;AXIOM b |(q,q);AXIOM c >(q,p);USE a;USE b;CASE 1 0 0;THEOREM t;USE c;SEARCH >(#,#) 3;THEOREM u;",
                "0 0 0 0 0 0 0 0 0 0 0 0");
        Bench.due("t leans on a", each.object.leans(3, 0), 1);
        Bench.due("t leans on b", each.object.leans(3, 1), 1);
        Bench.due("t leans on c", each.object.leans(3, 2), 0);
        Bench.due("u leans on c", each.object.leans(4, 2), 1);
        Bench.due("u leans on a", each.object.leans(4, 0), 0);
        farApart();
    }

    // The last of forty FACTS, too, can be leant on.
    private static void farApart() {
        StringBuilder text = new StringBuilder();
        for (int k = 0; k < 38; k++) {
            text.append("AXIOM a").append(k).append(" #;");
        }
        text.append("USE a37;THEOREM t;USE t;THEOREM u;");
        Bench bench = new Bench();
        bench.run(text.toString());
        Bench.due("facts", bench.object.facts(), 40);
        for (int j = 0; j < 40; j++) {
            Bench.due("leans(38, " + j + ")", bench.object.leans(38, j), j == 37 ? 1 : 0);
            Bench.due("leans(39, " + j + ")", bench.object.leans(39, j), j >= 37 && j < 39 ? 1 : 0);
        }
    }

    private static void inductive() {
        Bench bench = new Bench();
        bench.check("VAR x num;REL p(num);AXIOM a p(0);AXIOM b !x >(p(x),p(next(x)));USE a;USE b;INDUCTION 0 1 x p(x);THEOREM t;"
                + "SPECIALISE 2 7;THEOREM u;USE a;THEOREM v;PROOF;USE u;THEOREM w;FIRST 0 #;THEOREM z;USE a;THEOREM y;BOTH 0 2;THEOREM k;",
                "0 0 0 0 0 0 0 0 0 0 0 0 0 0 0 0 0 0 0 0 0");
        int[] due = {0, 0, 1, 1, 0, 1, 1, 0, 1};
        for (int i = 0; i < due.length; i++) {
            Bench.due("inductive(" + i + ")", bench.object.inductive(i), due[i]);
        }
        Bench.due("inductive(-1)", bench.object.inductive(-1), -1);
        Bench.due("inductive(9)", bench.object.inductive(9), -1);
        Bench.due("inductive(MAX)", bench.object.inductive(Integer.MAX_VALUE), -1);
        Bench.due("w leans on t", bench.object.leans(5, 2), 0);
        Bench.due("w leans on u", bench.object.leans(5, 3), 1);
        Bench.due("w leans on b", bench.object.leans(5, 1), 1);
    }
}

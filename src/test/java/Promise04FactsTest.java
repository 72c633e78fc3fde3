/** Promise 4, STEPS: AXIOM, DEFINE, THEOREM, USE, PROOF. */
public final class Promise04FactsTest {
    public static void main(String[] args) {
        facts();
        definitions();
        noStep();
        hypothesesAreLeft();
        otherVariables();
        aNewProof();
        Bench.done();
    }

    private static void facts() {
        Bench bench = new Bench();
        bench.check("THEOREM t;VAR x num;REL p(num);AXIOM a p(x);TELL a;USE a;SHOW 0;FROM 0 0;THEOREM t;TELL t;",
                "9 0 0 0 [p(x)] 0 [p(x)] 7 0 [p(x)]");
        Bench.due("facts", bench.object.facts(), 2);
        // The proof goes on; a step with HYPOTHESES is none.
        bench.check("ASSUME p(0);THEOREM u;USE t;THEOREM u;THEOREM u;PROOF;USE u;SHOW 0;PROOF;THEOREM v;",
                "0 14 0 0 1 0 0 [p(x)] 0 9");
        Bench.due("facts", bench.object.facts(), 3);
        // The NAME is looked at ahead of the proof.
        bench.check("THEOREM p;ASSUME #;THEOREM p;THEOREM x;THEOREM w;", "1 0 1 1 14");
        // USE generalises nothing: a VARIABLE FREE in a FACT is in no HYPOTHESIS.
        bench.check("PROOF;USE a;GENERALISE 0 x;SPECIALISE 1 5;THEOREM w;TELL w;", "0 0 0 0 0 [p(5)]");
    }

    private static void definitions() {
        Bench bench = new Bench();
        bench.check("SORT box;VAR x num;VAR b box;VAR y num;REL r(num,box);DEFINE d(b,x) ?y &(r(x,b),r(y,b));TELL d;",
                "0 0 0 0 0 0 [!b !x &(>(d(b,x),?y &(r(x,b),r(y,b))),>(?y &(r(x,b),r(y,b)),d(b,x)))]");
        bench.check("ASSUME d(b,0);ASSUME d(0,b);ASSUME d(b);ASSUME !b ?x d(b,x);USE d;SPECIALISE 2 b;", "0 5 3 0 0 0");
        bench.check("DEFINE nil() #;TELL nil;ASSUME nil;USE nil;DEFINE all(x) !x =(x,x);TELL all;",
                "0 [&(>(nil,#),>(#,nil))] 0 0 0 [!x &(>(all(x),!x =(x,x)),>(!x =(x,x),all(x)))]");
        bench.check("DEFINE three(x,b,y) &(r(x,b),r(y,b));ASSUME three(0,b,x);ASSUME three(0,0,b);TELL three;",
                "0 0 5 [!x !b !y &(>(three(x,b,y),&(r(x,b),r(y,b))),>(&(r(x,b),r(y,b)),three(x,b,y)))]");
        Bench.due("facts", bench.object.facts(), 4);
        // In a MODEL a defined REL is one as others are.
        bench.check("JUDGE nil;HOLDS nil();JUDGE nil;JUDGE &(>(nil,#),>(#,nil));", "[0] 0 [1] [0]");
        // The FACT has 3 + 2 * (1 + 1 + m + F) PLACES, m less 2 of them: with F of 196 it is too GREAT.
        String four = "e(0,0,0)";
        String fact = Bench.repeat("&(" + four + ",", 32) + four + Bench.repeat(")", 32);
        Bench.due("F has 164 PLACES", 33 * 4 + 32, 164);
        String more = Bench.repeat("&(#,", 15) + "#" + Bench.repeat(")", 15);
        String start = "VAR x num;VAR y num;VAR z num;REL e(num,num,num);";
        String f = "&(" + fact + "," + more + ")";
        Bench.due("F has 196 PLACES", 1 + 164 + 31, 196);
        // 1 + 2 * (1 + 1 + 196) = 397, with x 400, with x and y 403.
        new Bench().check(start + "DEFINE d() " + f + ";DEFINE c(x) " + f + ";DEFINE b(x,y) " + f + ";USE b;", "0 0 0 0 0 0 6 1");
        // 38 DEEP is 40 with & and > around, 41 with one ! more.
        String deep = Bench.repeat("&(#,", 37) + "#" + Bench.repeat(")", 37);
        new Bench().check("VAR x num;DEFINE d() " + deep + ";DEFINE c(x) " + deep + ";DEFINE b() &(#," + deep + ");", "0 0 6 6");
    }

    private static void noStep() {
        Bench.sentence("THEOREM n: the last step of the proof shows something (9: there is none)");
        Bench bench = new Bench();
        bench.check("THEOREM t;PROOF;THEOREM t;COUNT 0;THEOREM t;PROOF;THEOREM u;", "9 0 9 0 0 0 9");
        Bench.due("facts", bench.object.facts(), 1);
        // The last one, not any other.
        bench.check("COUNT 1;COUNT 2;THEOREM u;TELL u;COUNT 3;THEOREM v;TELL v;TELL u;", "0 0 0 [=(next(2),3)] 0 0 [=(next(3),4)] [=(next(2),3)]");
    }

    private static void hypothesesAreLeft() {
        Bench.sentence("from no HYPOTHESES (14)");
        Bench bench = new Bench();
        bench.check("REL p();ASSUME p;THEOREM t;DISCHARGE 0 p;THEOREM t;ASSUME p;THEOREM u;DISCHARGE 2 #;THEOREM u;DISCHARGE 3 p;THEOREM u;TELL u;",
                "0 0 14 0 0 0 14 0 14 0 0 [>(p,>(#,p))]");
        Bench.due("facts", bench.object.facts(), 2);
        Bench.due("the proof goes on", bench.object.steps(), 5);
    }

    private static void otherVariables() {
        Bench.sentence("DEFINE n NAMES F: other VARIABLES are not FREE in F (12)");
        String start = "VAR x num;VAR y num;VAR z num;REL e(num,num);";
        new Bench().check(start + "DEFINE d() e(x,y);DEFINE d(x) e(x,y);DEFINE d(y) e(x,y);DEFINE d(z) e(x,y);DEFINE d(x,z) e(x,y);DEFINE d(y,x) e(x,y);TELL d;",
                "0 0 0 0 12 12 12 12 12 0 [!y !x &(>(d(y,x),e(x,y)),>(e(x,y),d(y,x)))]");
        // What is bound is not FREE; what is told and not there is no fault.
        new Bench().check(start + "DEFINE d() !x ?y e(x,y);DEFINE c(z) !x e(x,z);DEFINE b(x) &(!x e(x,x),e(x,x));DEFINE a(x) &(!y e(y,y),e(y,x));DEFINE a(x,y,z) #;",
                "0 0 0 0 0 0 0 12 0");
        Bench.sentence("its FACT says .. (6 of it)");
        // ! & > A F > F A: with F of 196 PLACES and m parts 2 (1 + m) + 3 + m + 392; with F 38 DEEP m + 40.
        for (int places = 193; places <= 198; places++) {
            for (int m = 0; m <= 3; m++) {
                String row = "(" + "x,y,z".substring(0, m == 0 ? 0 : 2 * m - 1) + ")";
                boolean fits = 3 + m + 2 * (1 + m) + 2 * places <= 400;
                new Bench().check(start + "REL p(num);DEFINE d" + row + " " + Bench.wide(places) + ";USE d;", "0 0 0 0 0 " + (fits ? "0 0" : "6 1"));
            }
        }
        for (int deep = 34; deep <= 40; deep++) {
            for (int m = 0; m <= 3; m++) {
                String row = "(" + "x,y,z".substring(0, m == 0 ? 0 : 2 * m - 1) + ")";
                new Bench().check(start + "DEFINE d" + row + " " + Bench.deep(deep) + ";USE d;", "0 0 0 0 " + (deep + 2 + m <= 40 ? "0 0" : "6 1"));
            }
        }
    }

    private static void aNewProof() {
        Bench.sentence("PROOF: a new one, without steps");
        Bench bench = new Bench();
        bench.check("ASSUME #;ASSUME #;PROOF;SHOW 0;LEFT 0;BOTH 0 0;PROOF;PROOF;COUNT 0;SHOW 0;SHOW 1;", "0 0 0 9 9 9 0 0 0 [=(next(0),1)] 9");
        Bench.due("steps", bench.object.steps(), 1);
        Bench.sentence("USE n: what it says, from nothing");
        bench.check("PROOF;AXIOM a #;USE a;SHOW 0;FROM 0 0;THEOREM b;USE b;SHOW 1;", "0 0 0 [#] 7 0 0 [#]");
        Bench.due("hypotheses(0)", bench.object.hypotheses(0), 0);
        // A FACT stays what it is, whatever becomes of its proof.
        bench.check("ASSUME >(#,#);DISCHARGE 2 #;PROOF;ASSUME =(0,0);TELL b;TELL a;USE b;SHOW 1;", "0 0 0 0 [#] [#] 0 [#]");
    }
}

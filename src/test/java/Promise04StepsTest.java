/** Promise 4, STEPS: the rules of steps, what they show, and from what. */
public final class Promise04StepsTest {
    private static final String START = "SORT box;VAR x num;VAR y num;VAR z num;VAR b box;FUN f(num) num;"
            + "REL p(num);REL e(num,num);REL r(box);REL q();REL o();REL s();";
    private static final String STARTED = "0 0 0 0 0 0 0 0 0 0 0 0";

    public static void main(String[] args) {
        signs();
        cases();
        discharged();
        all();
        some();
        equal();
        induction();
        counts();
        numbersThatAreCounted();
        noSuchStep();
        noSuchHypothesis();
        leftOut();
        notAmongThem();
        whatIsFree();
        Bench.done();
    }

    private static Bench told(String statements, String due) {
        return new Bench().check(START + statements, STARTED + " " + due);
    }

    private static void signs() {
        Bench bench = told("ASSUME q;SHOW 0;FROM 0 0;FROM 0 1;FROM 0 -1;", "0 [q] [q] 7 7");
        Bench.due("steps", bench.object.steps(), 1);
        told("ASSUME q;ASSUME o;BOTH 0 1;SHOW 2;FROM 2 0;FROM 2 1;BOTH 1 0;FROM 3 0;BOTH 0 4;BOTH 0 -1;", "0 0 0 [&(q,o)] [q] [o] 0 [o] 9 9");
        told("ASSUME &(q,|(o,s));LEFT 0;RIGHT 0;SHOW 1;SHOW 2;FROM 2 0;LEFT 1;RIGHT 2;LEFT 9;", "0 0 0 [q] [|(o,s)] [&(q,|(o,s))] 10 10 9");
        told("ASSUME q;FIRST 0 o;SECOND 0 o;SHOW 1;SHOW 2;FROM 1 0;FROM 2 0;", "0 0 0 [|(q,o)] [|(o,q)] [q] [q]");
        told("ASSUME >(!x p(x),o);ASSUME !y p(y);APPLY 0 1;SHOW 2;FROM 2 0;FROM 2 1;APPLY 1 0;APPLY 0 0;", 
                "0 0 0 [o] [>(!x p(x),o)] [!y p(y)] 10 11");
        // 9 of p, then of q, then of w; then what p shows.
        told("ASSUME q;APPLY 0 1;APPLY 1 0;CASE 0 0 1;CASE 0 1 0;CASE 0 0 0;", "0 9 9 9 9 10");
    }

    private static void cases() {
        String some = "ASSUME |(q,o);ASSUME q;ASSUME o;SECOND 1 s;ASSUME >(o,|(s,q));APPLY 4 2;";
        Bench bench = told(some + "CASE 0 3 5;SHOW 6;FROM 6 0;FROM 6 1;FROM 6 2;", "0 0 0 0 0 0 0 [|(s,q)] [|(q,o)] [>(o,|(s,q))] 7");
        Bench.due("hypotheses(6)", bench.object.hypotheses(6), 2);
        // Only q is without A, and only w without B.
        told(some + "CASE 0 5 3;FROM 6 0;FROM 6 1;FROM 6 2;FROM 6 3;", "0 0 0 0 0 0 0 [|(q,o)] [>(o,|(s,q))] [o] [q]");
        told(some + "CASE 0 1 2;CASE 1 1 2;CASE 0 3 3;FROM 6 1;", "0 0 0 0 0 0 11 10 0 [q]");
        // That of q is shown, if that of w is ALIKE.
        told("ASSUME |(q,o);ASSUME !x p(x);ASSUME !y p(y);CASE 0 1 2;SHOW 3;FROM 3 1;FROM 3 2;CASE 0 2 1;SHOW 4;FROM 4 1;",
                "0 0 0 0 [!x p(x)] [!x p(x)] 7 0 [!y p(y)] [!y p(y)]");
    }

    private static void discharged() {
        Bench bench = told("ASSUME !x p(x);ASSUME q;BOTH 0 1;DISCHARGE 2 !y p(y);SHOW 3;FROM 3 0;DISCHARGE 3 o;SHOW 4;DISCHARGE 4 q;",
                "0 0 0 0 [>(!y p(y),&(!x p(x),q))] [q] 0 [>(o,>(!y p(y),&(!x p(x),q)))] 0");
        Bench.due("hypotheses(3)", bench.object.hypotheses(3), 1);
        Bench.due("hypotheses(4)", bench.object.hypotheses(4), 1);
        Bench.due("hypotheses(5)", bench.object.hypotheses(5), 0);
        Bench.due("hypotheses(6)", bench.object.hypotheses(6), -1);
        Bench.due("hypotheses(-1)", bench.object.hypotheses(-1), -1);
        bench = told("ASSUME >(!x p(x),#);ASSUME !x p(x);APPLY 0 1;ABSURD 2 !y p(y);SHOW 3;FROM 3 0;ABSURD 2 q;ABSURD 0 q;ABSURD 9 q;",
                "0 0 0 0 [!y p(y)] [!x p(x)] 0 10 9");
        Bench.due("hypotheses(3)", bench.object.hypotheses(3), 1);
        Bench.due("hypotheses(4)", bench.object.hypotheses(4), 2);
        // F is left, only >(F,#) is not.
        bench = told("ASSUME #;ABSURD 0 #;ASSUME >(#,#);BOTH 0 2;LEFT 3;ABSURD 4 #;FROM 5 0;", "0 0 0 0 0 0 [#]");
        Bench.due("hypotheses(5)", bench.object.hypotheses(5), 1);
    }

    private static void all() {
        told("ASSUME p(x);GENERALISE 0 x;GENERALISE 0 y;SHOW 1;FROM 1 0;", "0 12 0 [!y p(x)] [p(x)]");
        told("SAME f(x);GENERALISE 0 x;SHOW 1;GENERALISE 1 x;SHOW 2;GENERALISE 1 b;SHOW 3;", "0 0 [!x =(f(x),f(x))] 0 [!x !x =(f(x),f(x))] 0 [!b !x =(f(x),f(x))]");
        // A VARIABLE that is bound in a HYPOTHESIS is not FREE there.
        told("ASSUME !x p(x);SPECIALISE 0 x;GENERALISE 1 x;SHOW 2;", "0 0 0 [!x p(x)]");
        told("ASSUME !x !y e(x,y);SPECIALISE 0 f(y);SHOW 1;SPECIALISE 0 b;SPECIALISE 1 0;SHOW 2;SPECIALISE 2 0;SPECIALISE 7 0;",
                "0 0 [!z e(f(y),z)] 5 0 [e(f(y),0)] 10 9");
        told("ASSUME !b r(b);SPECIALISE 0 x;SPECIALISE 0 b;ASSUME q;SPECIALISE 2 b;SPECIALISE 2 x;", "0 5 0 0 10 10");
        // 13, and T may be what it likes where x is not FREE.
        new Bench().check("VAR x num;VAR y num;REL e(num,num);ASSUME !x !y e(x,y);SPECIALISE 0 y;ASSUME !x !y e(y,y);SPECIALISE 1 y;SHOW 2;",
                "0 0 0 0 13 0 0 [!y e(y,y)]");
    }

    private static void some() {
        told("ASSUME e(f(x),y);WITNESS 0 f(x) ?z e(z,y);SHOW 1;FROM 1 0;WITNESS 0 y ?y e(f(x),y);WITNESS 0 x ?x e(f(x),x);",
                "0 0 [?z e(z,y)] [e(f(x),y)] 0 11");
        told("ASSUME e(0,0);WITNESS 0 0 ?x e(x,0);WITNESS 0 0 ?x e(x,x);WITNESS 0 0 ?x e(0,0);WITNESS 0 1 ?x e(0,0);WITNESS 0 1 ?x e(x,0);",
                "0 0 0 0 0 11");
        told("ASSUME q;WITNESS 0 0 q;WITNESS 0 0 !x q;WITNESS 0 0 ?b q;WITNESS 0 b ?x q;WITNESS 0 0 ?x o;WITNESS 3 0 q;", "0 10 10 5 5 11 9");
        told("ASSUME !z e(y,z);WITNESS 0 y ?x !y e(x,y);SHOW 1;", "0 0 [?x !y e(x,y)]");
        new Bench().check("VAR x num;VAR y num;REL e(num,num);ASSUME #;WITNESS 0 y ?x !y e(x,y);WITNESS 0 y ?x !y #;", "0 0 0 0 13 11");
        // OPEN: ? x A, and q from A[x:=v].
        String open = "ASSUME ?x p(x);ASSUME p(y);ASSUME !z >(p(z),q);SPECIALISE 2 y;APPLY 3 1;";
        Bench bench = told(open + "OPEN 0 4 y;SHOW 5;FROM 5 0;FROM 5 1;", "0 0 0 0 0 0 [q] [?x p(x)] [!z >(p(z),q)]");
        Bench.due("hypotheses(5)", bench.object.hypotheses(5), 2);
        told(open + "OPEN 0 4 x;OPEN 0 4 b;OPEN 1 4 b;OPEN 0 9 b;OPEN 9 0 b;OPEN 0 1 y;OPEN 0 3 y;", "0 0 0 0 0 0 5 10 9 9 12 12");
        // 12 of ? x A, of what q shows, of another HYPOTHESIS of q; not of p's own.
        told("ASSUME ?x e(x,y);ASSUME q;OPEN 0 1 y;OPEN 0 1 x;OPEN 0 1 z;", "0 0 12 0 0");
        told("ASSUME ?x p(x);ASSUME q;ASSUME p(f(y));BOTH 1 2;LEFT 3;OPEN 0 4 y;OPEN 0 4 z;OPEN 0 4 x;", "0 0 0 0 0 12 0 0");
        told("ASSUME &(p(y),?x p(x));RIGHT 0;ASSUME q;OPEN 1 2 y;FROM 3 0;FROM 3 1;", "0 0 0 0 [&(p(y),?x p(x))] [q]");
        // H is taken from q alone, even if p has it.
        bench = told("ASSUME p(y);WITNESS 0 y ?x p(x);ASSUME q;BOTH 0 2;RIGHT 3;OPEN 1 4 y;FROM 5 0;FROM 5 1;", "0 0 0 0 0 0 [p(y)] [q]");
        Bench.due("hypotheses(5)", bench.object.hypotheses(5), 2);
        new Bench().check("VAR x num;VAR y num;REL e(num,num);ASSUME ?x !y e(x,y);ASSUME #;OPEN 0 1 y;VAR z num;OPEN 0 1 y;", "0 0 0 0 0 13 0 0");
    }

    private static void equal() {
        told("SAME x;SHOW 0;SAME b;SHOW 1;FROM 0 0;", "0 [=(x,x)] 0 [=(b,b)] 7");
        told("ASSUME =(x,f(y));ASSUME e(x,x);REPLACE 0 1 z e(z,z);SHOW 2;REPLACE 0 1 z e(x,z);SHOW 3;REPLACE 0 1 x e(x,x);SHOW 4;FROM 4 0;FROM 4 1;",
                "0 0 0 [e(f(y),f(y))] 0 [e(x,f(y))] 0 [e(f(y),f(y))] [=(x,f(y))] [e(x,x)]");
        told("ASSUME =(x,y);ASSUME p(x);REPLACE 0 1 b p(x);REPLACE 1 0 b p(x);REPLACE 0 1 z p(y);REPLACE 0 1 z q;REPLACE 0 2 z q;REPLACE 2 0 z q;",
                "0 0 5 10 11 11 9 9");
        // 13 of F[v:=t], then 11, then 13 of F[v:=u].
        String two = "VAR x num;VAR y num;REL e(num,num);";
        new Bench().check(two + "ASSUME =(y,0);ASSUME #;REPLACE 0 1 x !y e(x,y);SAME 0;REPLACE 2 1 x !y e(x,y);ASSUME =(0,y);ASSUME !y e(0,y);"
                + "REPLACE 3 4 x !y e(x,y);REPLACE 3 1 x !y e(x,y);", "0 0 0 0 0 13 0 11 0 0 13 11");
    }

    private static void induction() {
        String steps = "ASSUME p(0);ASSUME !x >(p(x),p(next(x)));";
        Bench bench = told(steps + "INDUCTION 0 1 y p(y);SHOW 2;FROM 2 0;FROM 2 1;", "0 0 0 [!y p(y)] [p(0)] [!x >(p(x),p(next(x)))]");
        Bench.due("hypotheses(2)", bench.object.hypotheses(2), 2);
        told(steps + "INDUCTION 0 1 x p(0);INDUCTION 1 1 x p(x);INDUCTION 0 0 x p(x);INDUCTION 0 2 x p(x);INDUCTION 2 0 x p(x);INDUCTION 0 1 b p(x);",
                "0 0 11 11 11 9 9 5");
        told("ASSUME q;ASSUME !x >(q,q);INDUCTION 0 1 z q;SHOW 2;ASSUME !b >(q,q);INDUCTION 0 3 z q;", "0 0 0 [!z q] 0 11");
        told("ASSUME !y e(0,y);ASSUME !z >(!x e(z,x),!y e(next(z),y));INDUCTION 0 1 x !y e(x,y);SHOW 2;", "0 0 0 [!x !y e(x,y)]");
        told("ASSUME p(0);ASSUME !x >(p(x),p(f(x)));INDUCTION 0 1 x p(x);", "0 0 11");
    }

    private static void counts() {
        Bench bench = new Bench();
        bench.check("ASSUME #;ASSUME #;PROOF;", "0 0 0");
        Bench.due("steps", bench.object.steps(), 0);
        Bench.due("hypotheses(0)", bench.object.hypotheses(0), -1);
        bench.check("SHOW 0;COUNT 4;SHOW 0;LEFT 0;", "9 0 [=(next(4),5)] 10");
        Bench.due("steps", bench.object.steps(), 1);
        Bench.due("hypotheses(0)", bench.object.hypotheses(0), 0);
        Bench.due("hypotheses(1)", bench.object.hypotheses(1), -1);
        Bench.due("hypotheses(MIN)", bench.object.hypotheses(Integer.MIN_VALUE), -1);
    }

    private static void numbersThatAreCounted() {
        Bench.sentence("COUNT k: k is 0 to 99998 (7): =(next(k),k+1), k and k + 1 being NUMERALS");
        Bench bench = told("COUNT -1;COUNT 0;SHOW 0;COUNT 1;SHOW 1;COUNT 99998;SHOW 2;COUNT 99999;COUNT 100000;COUNT 999999;COUNT -999999;COUNT 99997;SHOW 3;COUNT 9;SHOW 4;",
                "7 0 [=(next(0),1)] 0 [=(next(1),2)] 0 [=(next(99998),99999)] 7 7 7 7 0 [=(next(99997),99998)] 0 [=(next(9),10)]");
        Bench.due("hypotheses(0)", bench.object.hypotheses(0), 0);
        Bench.due("steps", bench.object.steps(), 5);
    }

    private static void noSuchStep() {
        Bench.sentence("9 no such step: p, q, w by 9");
        String[] one = {"SHOW @", "FROM @ 0", "LEFT @", "RIGHT @", "FIRST @ q", "SECOND @ q", "DISCHARGE @ q", "GENERALISE @ x", "SPECIALISE @ 0", "WITNESS @ 0 ?x q",
            "ABSURD @ q", "SEARCH q @", "BOTH @ @", "CASE @ @ @", "APPLY @ @", "OPEN @ @ x", "REPLACE @ @ x q", "INDUCTION @ @ x q", "BOTH 0 @", "BOTH @ 0", "CASE 0 @ 0",
            "CASE 0 0 @", "APPLY 0 @", "OPEN 0 @ x", "REPLACE 0 @ x q", "INDUCTION 0 @ x q", "INDUCTION @ 0 x q"};
        for (String statement : one) {
            for (String p : new String[] {"-1", "2", "3", "300", "999999", "-999999"}) {
                told("ASSUME q;ASSUME q;" + statement.replace("@", p) + ";", "0 0 9");
            }
            // The last step is one: 9 is no answer then.
            Bench bench = new Bench();
            bench.run(START + "ASSUME q;ASSUME q;");
            Bench.due(statement, bench.run(statement.replace("@", "1") + ";").equals("9"), false);
            // In a new proof there is none.
            Bench fresh = new Bench();
            fresh.run(START + "ASSUME q;PROOF;");
            fresh.check(statement.replace("@", "0") + ";", "9");
        }
    }

    private static void noSuchHypothesis() {
        Bench.sentence("FROM p k its k-th HYPOTHESIS (from 0; 7 behind 9: there is none such)");
        told("ASSUME q;ASSUME o;BOTH 0 1;FROM 2 0;FROM 2 1;FROM 2 2;FROM 2 -1;FROM 2 999999;FROM 3 0;FROM 3 9;FROM -1 -1;FROM 0 0;FROM 0 1;", 
                "0 0 0 [q] [o] 7 7 7 9 9 9 [q] 7");
        told("SAME 0;FROM 0 0;FROM 0 -1;FROM 1 0;", "0 7 7 9");
    }

    private static void leftOut() {
        Bench.sentence("without F: those that are not ALIKE F");
        Bench bench = told("ASSUME !x p(x);ASSUME p(x);ASSUME q;BOTH 0 1;BOTH 3 2;DISCHARGE 4 !z p(z);DISCHARGE 4 p(y);DISCHARGE 4 p(x);DISCHARGE 7 !y p(y);DISCHARGE 8 q;",
                "0 0 0 0 0 0 0 0 0 0");
        int[] due = {1, 1, 1, 2, 3, 2, 3, 2, 1, 0};
        for (int p = 0; p < due.length; p++) {
            Bench.due("hypotheses(" + p + ")", bench.object.hypotheses(p), due[p]);
        }
        bench.check("FROM 5 0;FROM 5 1;FROM 7 0;FROM 7 1;FROM 8 0;", "[p(x)] [q] [!x p(x)] [q] [q]");
        // ABSURD leaves >(F,#) out, neither F nor >(#,F).
        bench = told("ASSUME q;ASSUME >(q,#);ASSUME >(#,q);APPLY 1 0;BOTH 3 2;LEFT 4;ABSURD 5 q;FROM 6 0;FROM 6 1;", "0 0 0 0 0 0 0 [q] [>(#,q)]");
        Bench.due("hypotheses(6)", bench.object.hypotheses(6), 2);
        Bench.sentence("CASE: from p, q without A, w without B");
        // p's own A and B stay.
        bench = told("ASSUME q;FIRST 0 o;ASSUME o;ASSUME s;BOTH 0 3;RIGHT 4;BOTH 2 3;RIGHT 6;CASE 1 5 7;FROM 8 0;FROM 8 1;CASE 1 7 5;", "0 0 0 0 0 0 0 0 0 [q] [s] 0");
        Bench.due("hypotheses(8)", bench.object.hypotheses(8), 2);
        Bench.due("hypotheses(9)", bench.object.hypotheses(9), 3);
        // One CASE leaves nothing to the next, nor do OPEN, ABSURD, REPLACE.
        bench = told("ASSUME |(q,o);ASSUME q;ASSUME o;ASSUME s;BOTH 1 3;RIGHT 4;BOTH 2 3;RIGHT 6;CASE 0 5 7;CASE 0 5 7;ASSUME #;BOTH 10 10;LEFT 11;ABSURD 12 s;CASE 0 5 7;SAME 0;REPLACE 15 5 x s;CASE 0 5 7;",
                "0 0 0 0 0 0 0 0 0 0 0 0 0 0 0 0 0 0");
        for (int p : new int[] {8, 9, 14, 17}) {
            Bench.due("hypotheses(" + p + ")", bench.object.hypotheses(p), 2);
        }
        Bench.sentence("OPEN: what q shows, from p, q without H");
        bench = told("ASSUME ?x p(x);ASSUME p(y);ASSUME q;BOTH 1 2;RIGHT 3;OPEN 0 4 y;OPEN 0 4 z;OPEN 0 4 x;FROM 5 0;FROM 5 1;FROM 6 1;", "0 0 0 0 0 0 0 0 [?x p(x)] [q] [p(y)]");
        Bench.due("hypotheses(5)", bench.object.hypotheses(5), 2);
    }

    private static void notAmongThem() {
        Bench.sentence("from the HYPOTHESES of p, then those of q that are not among them");
        Bench bench = told("ASSUME !x p(x);ASSUME !y p(y);BOTH 0 1;FROM 2 0;FROM 2 1;BOTH 1 0;FROM 3 0;ASSUME !x p(y);BOTH 0 4;ASSUME q;BOTH 5 6;BOTH 6 5;FROM 8 0;FROM 8 1;FROM 8 2;FROM 7 2;",
                "0 0 0 [!x p(x)] 7 0 [!y p(y)] 0 0 0 0 0 [q] [!x p(x)] [!x p(y)] [q]");
        Bench.due("hypotheses(2)", bench.object.hypotheses(2), 1);
        Bench.due("hypotheses(7)", bench.object.hypotheses(7), 3);
    }

    private static void whatIsFree() {
        Bench.sentence("GENERALISE p v: v is FREE in no HYPOTHESIS of p (12)");
        told("ASSUME p(x);GENERALISE 0 x;ASSUME !x p(x);GENERALISE 1 x;ASSUME &(!x p(x),p(x));GENERALISE 3 x;GENERALISE 3 y;ASSUME q;BOTH 5 0;GENERALISE 6 x;BOTH 0 5;GENERALISE 7 x;",
                "0 12 0 0 0 12 0 0 0 12 0 12");
        told("ASSUME p(x);RIGHT 0;ASSUME q;BOTH 0 1;LEFT 2;RIGHT 2;GENERALISE 4 x;DISCHARGE 4 p(x);GENERALISE 5 x;SHOW 6;", "0 10 0 0 0 0 12 0 0 [!x >(p(x),q)]");
        Bench.sentence("OPEN: v is FREE neither in ? x A, nor in what q shows, nor in a HYPOTHESIS of q that is not ALIKE H (12)");
        told("ASSUME ?x e(x,y);ASSUME q;OPEN 0 1 y;OPEN 0 1 x;OPEN 0 1 z;", "0 0 12 0 0");
        told("ASSUME ?x p(x);ASSUME p(z);OPEN 0 1 z;OPEN 0 1 y;OPEN 0 1 x;", "0 0 12 0 0");
        told("ASSUME ?x p(x);ASSUME p(z);ASSUME e(z,z);BOTH 1 2;ASSUME q;BOTH 3 4;RIGHT 5;OPEN 0 6 z;DISCHARGE 6 e(z,z);OPEN 0 7 z;OPEN 0 6 y;", "0 0 0 0 0 0 0 12 0 12 0");
        told("ASSUME ?x p(x);ASSUME p(z);ASSUME q;BOTH 1 2;RIGHT 3;OPEN 0 4 z;", "0 0 0 0 0 0");
    }
}

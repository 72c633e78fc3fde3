/** Promises 4 and 5: what a STATEMENT is, and where a TAPE is WRONG. */
public final class TextTest {
    public static void main(String[] args) {
        tokens();
        statements();
        things();
        depth();
        whatIsWrongDoesNothing();
        Bench.done();
    }

    private static void wrong(String text, int whole, int at) {
        new Bench().checkWrong(text, whole, at);
    }

    private static void tokens() {
        new Bench().check("  \n SORT\n\nbox ; \n", "0").check("SORTbag;VARx num;", "0 0").check("COUNT0;COUNT -0;COUNT000007;SHOW 2;",
                "0 0 0 [=(next(7),8)]");
        new Bench().check("SORT a23456789012;SORT a;SORT a2;", "0 0 0");
        wrong("SORT a234567890123;", 0, 5);
        new Bench().check("COUNT 999999;COUNT -999999;COUNT 000001;", "7 7 0");
        wrong("COUNT 1234567;", 0, 6);
        wrong("COUNT -1234567;", 0, 6);
        wrong("COUNT -;", 0, 6);
        wrong("COUNT - 1;", 0, 6);
        wrong("COUNT --1;", 0, 6);
        wrong("COUNT 1 2;", 0, 8);
        wrong("COUNT 1-2;", 0, 7);
        wrong("COUNT 1a;", 0, 7);
        wrong("SORT 1a;", 0, 5);
        wrong("SORT Box;", 0, 5);
        wrong("SORTA a;", 0, 0);
        wrong("SOR a;", 0, 0);
        wrong("sort a;", 0, 0);
        wrong("SORT a;\tSORT b;", 1, 7);
        wrong("SORT a;SORT b;*", 2, 14);
        wrong("SORT a\r;", 0, 6);
        wrong("SORT a;\0", 1, 7);
        wrong("SORT a;\u00ff", 1, 7);
        // The first TOKEN with which nothing can go on is WRONG, not a later byte that is none.
        wrong("SORT a b 1234567;", 0, 7);
        wrong("SORT a;;", 1, 7);
        wrong(";", 0, 0);
    }

    private static void statements() {
        wrong("SORT", 0, 4);
        wrong("SORT a", 0, 6);
        wrong("SORT a  \n", 0, 9);
        wrong("SORT a;SORT b;SORT ", 2, 19);
        wrong("FUN f num;", 0, 6);
        wrong("FUN f() ;", 0, 8);
        wrong("FUN f(num,) num;", 0, 10);
        wrong("FUN f(,) num;", 0, 6);
        wrong("FUN f(num num) num;", 0, 10);
        wrong("FUN f(1) num;", 0, 6);
        wrong("REL p;", 0, 5);
        wrong("REL p(num) num;", 0, 11);
        wrong("VAR x;", 0, 5);
        wrong("VALUE f(x) 1;", 0, 8);
        wrong("VALUE f(1);", 0, 10);
        wrong("HOLDS p;", 0, 7);
        wrong("HOLDS p() 1;", 0, 10);
        wrong("PROOF 1;", 0, 6);
        wrong("SHOW x;", 0, 5);
        wrong("FROM 0;", 0, 6);
        wrong("CASE 0 0;", 0, 8);
        wrong("SEARCH 1 2 x;", 0, 11);
        wrong("SEARCH;", 0, 6);
        wrong("AXIOM # #;", 0, 6);
        new Bench().check("SEARCH 1 2;SEARCH #;SEARCH # 1 2 3 4;", "4 15 9");
        new Bench().check("PROOF;PROOF ;THEOREM a;", "0 0 9");
    }

    private static void things() {
        wrong("ASSUME;", 0, 6);
        wrong("ASSUME p();", 0, 9);
        wrong("ASSUME p(,);", 0, 9);
        wrong("ASSUME p(x,);", 0, 11);
        wrong("ASSUME p(x;", 0, 10);
        wrong("ASSUME p(x y);", 0, 11);
        wrong("ASSUME =(x);", 0, 10);
        wrong("ASSUME =(x,y,z);", 0, 12);
        wrong("ASSUME = x y;", 0, 9);
        wrong("ASSUME ! (x);", 0, 9);
        wrong("ASSUME !x;", 0, 9);
        wrong("ASSUME !1 x;", 0, 8);
        wrong("ASSUME (x);", 0, 7);
        wrong("ASSUME #(x);", 0, 8);
        wrong("ASSUME 1(x);", 0, 8);
        wrong("ASSUME #,;", 0, 8);
        wrong("ASSUME SORT;", 0, 7);
        // The ( behind a NAME is that NAME's.
        wrong("ALIKE a (b);", 0, 11);
        new Bench().check("REL p(num,num);VAR x num;ASSUME p ( x\n, 0 ) ;SHOW 0;ASSUME!x?x>(p(x,x),#);SHOW1;",
                "0 0 0 [p(x,0)] 0 [!x ?x >(p(x,x),#)]");
    }

    private static void depth() {
        String nexts = Bench.repeat("next(", 39);
        String closes = Bench.repeat(")", 39);
        // =(T,T) of a T that is 39 DEEP is 40 DEEP, of one that is 40 DEEP too GREAT; 41 cannot be told.
        new Bench().check("SAME next(" + nexts.substring(10) + "0" + closes.substring(1) + ";", "0");
        new Bench().check("SAME " + nexts + "0" + closes + ";", "6");
        wrong("SAME next(" + nexts + "0)" + closes + ";", 0, 5 + 40 * 5);
        wrong("SAME " + nexts + "next(0)" + closes + ";", 0, 5 + 40 * 5);
        // What is no THING there, or the end of the TAPE, is WRONG at the same place.
        wrong("SAME next(" + nexts + ");", 0, 5 + 40 * 5);
        wrong("SAME next(" + nexts, 0, 5 + 40 * 5);
        String alls = Bench.repeat("!x", 39);
        new Bench().check("VAR x num;ASSUME " + alls + "#;GENERALISE 0 x;", "0 0 6");
        wrong("VAR x num;ASSUME " + alls + "!x#;", 1, 17 + 80);
        wrong("VAR x num;ASSUME " + alls + "&(#,#);", 1, 17 + 80);
        String ands = Bench.repeat("&(#,", 39);
        new Bench().check("ASSUME " + ands + "#" + closes + ";", "0");
        wrong("ASSUME &(#," + ands + "#)" + closes + ";", 0, 7 + 39 * 4 + 2);
    }

    private static void whatIsWrongDoesNothing() {
        Bench bench = new Bench();
        bench.checkWrong("SORT a;SORT b", 1, 13);
        bench.check("SORT b;SORT a;", "0 1");
        Bench.due("refusals(0)", bench.object.refusals(0), 2);
        Bench.due("refusals(1)", bench.object.refusals(1), 1);
        bench.checkWrong("ASSUME #;ASSUME # #;ASSUME #;", 1, 18);
        Bench.due("steps", bench.object.steps(), 1);
        Bench.due("run() of nothing", bench.object.run(), 0);
        Bench.due("wrong() is of the latest run()", bench.object.wrong(), -1);
        Bench.due("outputs() is of the latest run()", bench.object.outputs(), 0);
        Bench.due("steps stay", bench.object.steps(), 1);
    }
}

/** Promises 6, 7 and 13: what is OUT, and how often STATEMENTS were REFUSED. */
public final class OutTest {
    public static void main(String[] args) {
        numbers();
        texts();
        full();
        refusals();
        Bench.done();
    }

    private static void numbers() {
        Bench bench = new Bench();
        bench.feed("SORT a;SORT a;ASSUME #;SHOW 0;JUDGE #;ALIKE # #;SHOW 1;");
        ProofBench x = bench.object;
        Bench.due("run", x.run(), 7);
        int[] due = {0, 1, 0, 0, 1, '#', 0, 0, 0, 1, 9};
        Bench.due("outputs", x.outputs(), due.length);
        for (int i = 0; i < due.length; i++) {
            Bench.due("out(" + i + ")", x.out(i), due[i]);
        }
        for (int i : new int[] {-1, due.length, 19000, 20000, 100000, Integer.MAX_VALUE, Integer.MIN_VALUE}) {
            Bench.due("out(" + i + ")", x.out(i), 0);
        }
        // feed and end leave OUT as it is, run does not.
        bench.feed("SORT a;");
        Bench.due("outputs", x.outputs(), due.length);
        x.end(0);
        Bench.due("out(1)", x.out(1), 1);
        x.run();
        Bench.due("outputs", x.outputs(), 0);
        Bench.due("out(1)", x.out(1), 0);
    }

    private static void texts() {
        new Bench().check("VAR x1 num;VAR zyxwvutsrq90 num;FUN f0() num;FUN ggg(num,num,num) num;REL rel(num,num);"
                + "ASSUME ! x1 ? zyxwvutsrq90 > ( & (rel(x1,f0), |(#,=(99999,0))), rel( ggg(10,f0,zyxwvutsrq90) , 100)) ;SHOW 0;",
                "0 0 0 0 0 0 [!x1 ?zyxwvutsrq90 >(&(rel(x1,f0),|(#,=(99999,0))),rel(ggg(10,f0,zyxwvutsrq90),100))]");
        new Bench().check("VAR x num;ASSUME &(!x #,?x !x &(#,!x #));SHOW 0;", "0 0 [&(!x #,?x !x &(#,!x #))]");
        new Bench().check("VAR a num;VAR z num;VAR a0 num;VAR a9 num;SAME a;SHOW 0;SAME z;SHOW 1;SAME a0;SHOW 2;SAME a9;SHOW 3;",
                "0 0 0 0 0 [=(a,a)] 0 [=(z,z)] 0 [=(a0,a0)] 0 [=(a9,a9)]");
    }

    private static void full() {
        // =(T,T) is of 68 bytes: a SHOW of it takes 70 numbers. 19000 are not too many, 19001 are.
        String term = "g(11111,g(11111,g(11111,11111)))";
        for (int extra = 0; extra < 3; extra++) {
            Bench bench = new Bench();
            bench.check("FUN g(num,num) num;SAME " + term + ";", "0 0");
            bench.feed(Bench.repeat("SHOW0;", 271) + Bench.repeat("USEg;", extra) + Bench.repeat("JUDGE#;", 15));
            Bench.due("run", bench.object.run(), 271 + extra + 15);
            Bench.due("outputs", bench.object.outputs(), 19000 + (extra == 2 ? 1 : 0));
            Bench.due("out(1)", bench.object.out(1), 68);
            Bench.due("out(18998)", bench.object.out(18998), 0);
            Bench.due("out(18999)", bench.object.out(18999), extra == 1 ? 8 : 0);
            Bench.due("out(19000)", bench.object.out(19000), extra == 2 ? 8 : 0);
            Bench.due("refusals(8)", bench.object.refusals(8), extra == 0 ? 0 : 1);
        }
        // A text that does not fit leaves room for one that does; what tells one number only is never FULL.
        Bench bench = new Bench();
        bench.check("FUN g(num,num) num;SAME " + term + ";COUNT 1;", "0 0 0");
        String text = Bench.repeat("SHOW0;", 272) + "SHOW 1;TELL g;PUT # x 0;PROOF;" + Bench.repeat("USEg;", 400);
        bench.feed(text);
        Bench.due("run", bench.object.run(), 676);
        int[] due = {8, 0, 12, '=', '(', 'n', 'e', 'x', 't', '(', '1', ')', ',', '2', ')', 2, 1, 0, 2, 2};
        for (int k = 0; k < due.length; k++) {
            Bench.due("out(18970 + " + k + ")", bench.object.out(18970 + k), due[k]);
        }
        Bench.due("outputs", bench.object.outputs(), 18970 + 18 + 400);
        Bench.due("the last one", bench.object.out(18970 + 18 + 399), 2);
        Bench.due("none behind it", bench.object.out(18970 + 18 + 400), 0);
        // The next run's OUT is empty at first.
        bench.check("COUNT 1;SHOW 0;JUDGE #;", "0 [=(next(1),2)] [0]");
    }

    private static void refusals() {
        Bench bench = new Bench();
        bench.run("SORT num;VAR x q;USE next;ASSUME next(0,0);ASSUME 0;VAR x num;SORT a;ASSUME =(x,a);COUNT -1;LEFT 0;");
        ProofBench x = bench.object;
        int[] due = {2, 2, 2, 1, 1, 0, 0, 1, 0, 1, 0, 0, 0, 0, 0, 0};
        for (int why = 0; why < 16; why++) {
            Bench.due("refusals(" + why + ")", x.refusals(why), due[why]);
        }
        bench.run("SORT num;ASSUME #;LEFT 0;THEOREM t;SEARCH >(x,x);SEARCH |(#,#);LEFT 0");
        due[1]++;
        due[0]++;
        due[10]++;
        due[14]++;
        due[4]++;
        due[15]++;
        for (int why = 0; why < 16; why++) {
            Bench.due("refusals(" + why + ") of all runs", x.refusals(why), due[why]);
        }
        for (int why : new int[] {-1, 16, 17, Integer.MAX_VALUE, Integer.MIN_VALUE}) {
            Bench.due("refusals(" + why + ")", x.refusals(why), 0);
        }
    }
}

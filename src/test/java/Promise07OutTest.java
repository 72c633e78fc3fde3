/** Promise 7: out. */
public final class Promise07OutTest {
    public static void main(String[] args) {
        numbers();
        texts();
        full();
        another();
        eachThatTells();
        Bench.done();
    }

    private static void numbers() {
        Bench bench = new Bench();
        bench.feed("SORT a;SORT a;ASSUME #;SHOW 0;JUDGE #;ALIKE # #;SHOW 1;");
        ProofBench x = bench.object;
        Bench.due("run", x.run(), 7);
        int[] due = {0, 1, 0, 0, 1, '#', 0, 0, 0, 1, 9};
        Bench.due("outputs", x.outputs(), due.length);
        for (int i = 0; i < due.length; i++) {
            Bench.due("out(" + i + ")", x.out(i), due[i]);
        }
        for (int i : new int[] {-1, due.length, 19000, 20000, 100000, Integer.MAX_VALUE, Integer.MIN_VALUE}) {
            Bench.due("out(" + i + ")", x.out(i), 0);
        }
        // feed and end leave OUT as it is, run does not.
        bench.feed("SORT a;");
        Bench.due("outputs", x.outputs(), due.length);
        x.end(0);
        Bench.due("out(1)", x.out(1), 1);
        x.run();
        Bench.due("outputs", x.outputs(), 0);
        Bench.due("out(1)", x.out(1), 0);
    }

    private static void texts() {
        new Bench().check("VAR x1 num;VAR zyxwvutsrq90 num;FUN f0() num;FUN ggg(num,num,num) num;REL rel(num,num);"
                + "ASSUME ! x1 ? zyxwvutsrq90 > ( & (rel(x1,f0), |(#,=(99999,0))), rel( ggg(10,f0,zyxwvutsrq90) , 100)) ;SHOW 0;",
                "0 0 0 0 0 0 [!x1 ?zyxwvutsrq90 >(&(rel(x1,f0),|(#,=(99999,0))),rel(ggg(10,f0,zyxwvutsrq90),100))]");
        new Bench().check("VAR x num;ASSUME &(!x #,?x !x &(#,!x #));SHOW 0;", "0 0 [&(!x #,?x !x &(#,!x #))]");
        new Bench().check("VAR a num;VAR z num;VAR a0 num;VAR a9 num;SAME a;SHOW 0;SAME z;SHOW 1;SAME a0;SHOW 2;SAME a9;SHOW 3;",
                "0 0 0 0 0 [=(a,a)] 0 [=(z,z)] 0 [=(a0,a0)] 0 [=(a9,a9)]");
    }

    private static void full() {
        // =(T,T) is of 68 bytes: a SHOW of it takes 70 numbers. 19000 are not too many, 19001 are.
        String term = "g(11111,g(11111,g(11111,11111)))";
        for (int extra = 0; extra < 3; extra++) {
            Bench bench = new Bench();
            bench.check("FUN g(num,num) num;SAME " + term + ";", "0 0");
            bench.feed(Bench.repeat("SHOW0;", 271) + Bench.repeat("USEg;", extra) + Bench.repeat("JUDGE#;", 15));
            Bench.due("run", bench.object.run(), 271 + extra + 15);
            Bench.due("outputs", bench.object.outputs(), 19000 + (extra == 2 ? 1 : 0));
            Bench.due("out(1)", bench.object.out(1), 68);
            Bench.due("out(18998)", bench.object.out(18998), 0);
            Bench.due("out(18999)", bench.object.out(18999), extra == 1 ? 8 : 0);
            Bench.due("out(19000)", bench.object.out(19000), extra == 2 ? 8 : 0);
            Bench.due("refusals(8)", bench.object.refusals(8), extra == 0 ? 0 : 1);
        }
        // A text that does not fit leaves room for one that does; what tells one number only is never FULL.
        Bench bench = new Bench();
        bench.check("FUN g(num,num) num;SAME " + term + ";COUNT 1;", "0 0 0");
        String text = Bench.repeat("SHOW0;", 272) + "SHOW 1;TELL g;PUT # x 0;PROOF;" + Bench.repeat("USEg;", 400);
        bench.feed(text);
        Bench.due("run", bench.object.run(), 676);
        int[] due = {8, 0, 12, '=', '(', 'n', 'e', 'x', 't', '(', '1', ')', ',', '2', ')', 2, 1, 0, 2, 2};
        for (int k = 0; k < due.length; k++) {
            Bench.due("out(18970 + " + k + ")", bench.object.out(18970 + k), due[k]);
        }
        Bench.due("outputs", bench.object.outputs(), 18970 + 18 + 400);
        Bench.due("the last one", bench.object.out(18970 + 18 + 399), 2);
        Bench.due("none behind it", bench.object.out(18970 + 18 + 400), 0);
        // The next run's OUT is empty at first.
        bench.check("COUNT 1;SHOW 0;JUDGE #;", "0 [=(next(1),2)] [0]");
    }

    private static void another() {
        Bench.sentence("The i-th number that is OUT; 0 for another");
        // The numbers are whys, so that none of them is 0.
        for (int size = 0; size <= 800; size += size < 5 ? 1 : 53) {
            Bench bench = new Bench().feed(Bench.repeat("USEa;", size));
            bench.object.run();
            Bench.due("outputs", bench.object.outputs(), size);
            Bench.due("out(-1)", bench.object.out(-1), 0);
            Bench.due("out(0)", bench.object.out(0), size > 0 ? 1 : 0);
            Bench.due("out of the last one", bench.object.out(size - 1), size > 0 ? 1 : 0);
            Bench.due("out of one more", bench.object.out(size), 0);
            Bench.due("out of two more", bench.object.out(size + 1), 0);
            for (int i : new int[] {Integer.MAX_VALUE, Integer.MIN_VALUE, 4000, 19000, 19001, 20000, 1 << 20}) {
                Bench.due("out(" + i + ")", bench.object.out(i), 0);
            }
            // What an earlier run() has left is no number that is OUT.
            bench.feed("USEa;");
            bench.object.run();
            Bench.due("out(1) of a later run", bench.object.out(1), 0);
            bench.object.run();
            Bench.due("out(0) of an empty run", bench.object.out(0), 0);
        }
    }

    private static String filled(int numbers) {
        // A SHOW of step 0 is 70 numbers, what is REFUSED is one.
        return Bench.repeat("SHOW0;", numbers / 70) + Bench.repeat("USEg;", numbers % 70);
    }

    private static void eachThatTells() {
        Bench.sentence("8: OUT would have more than 19000 numbers (of those that tell more than 0)");
        String start = "FUN g(num,num) num;SAME g(11111,g(11111,g(11111,11111)));VAR x num;AXIOM ax =(x,0);ASSUME =(0,1);";
        String[] tells = {"SHOW 1;", "FROM 1 0;", "TELL ax;", "PUT =(x,0) x 1;", "ALIKE 0 0;", "JUDGE =(x,x);"};
        int[] sizes = {8, 8, 8, 8, 2, 2};
        for (int k = 0; k < tells.length; k++) {
            for (int over = -1; over <= 2; over++) {
                int before = 19000 - sizes[k] + over;
                Bench bench = new Bench();
                bench.check(start, "0 0 0 0 0");
                bench.feed(filled(before) + tells[k] + "PROOF;USEg;" + tells[k]);
                bench.object.run();
                ProofBench x = bench.object;
                Bench.due(tells[k] + " behind " + before, x.out(before), over > 0 ? 8 : 0);
                int then = before + (over > 0 ? 1 : sizes[k]);
                Bench.due("PROOF", x.out(then), 0);
                Bench.due("USE", x.out(then + 1), 2);
                // The second one is beyond 19000, whatever the first one was.
                Bench.due("the last one", x.out(then + 2), k < 2 ? 9 : 8);
                Bench.due("outputs", x.outputs(), then + 3);
                Bench.due("refusals(8)", x.refusals(8), (over > 0 ? 1 : 0) + (k < 2 ? 0 : 1));
            }
        }
        // What is REFUSED for another reason tells so.
        Bench bench = new Bench();
        bench.check(start, "0 0 0 0 0");
        bench.feed(filled(19000) + "SHOW 1;SHOW 2;FROM 1 1;FROM 1 0;TELL g;TELL ax;PUT # x #;PUT # x 0;ALIKE no 0;ALIKE 0 0;JUDGE 0;JUDGE #;COUNT 0;SORT s;SHOW 2;");
        bench.object.run();
        int[] due = {8, 9, 7, 8, 2, 8, 4, 8, 1, 8, 4, 8, 0, 0, 8};
        for (int k = 0; k < due.length; k++) {
            Bench.due("number " + k + " beyond 19000", bench.object.out(19000 + k), due[k]);
        }
        Bench.due("outputs", bench.object.outputs(), 19000 + due.length);
        Bench.due("COUNT was done", bench.object.steps(), 3);
        // PUT: 6 and 13 come ahead of 8; a JUDGE that is too GREAT, too.
        Bench great = new Bench();
        great.check(start + "VAR y num;", "0 0 0 0 0 0");
        great.feed(filled(18999) + "PUT =(" + Bench.nexts(30, "x") + ",0) x " + Bench.nexts(30, "0") + ";PUT !y =(x,y) x y;JUDGE !x!x!x!x!x!x#;PUT =(x,0) x 0;");
        great.object.run();
        Bench.due("6", great.object.out(18999), 6);
        Bench.due("13", great.object.out(19000), 13);
        Bench.due("6", great.object.out(19001), 6);
        Bench.due("8", great.object.out(19002), 8);
        // The next run() has room again.
        great.check("SHOW 1;", "[=(0,1)]");
    }
}

/** Promise 13: refusals. */
public final class Promise13RefusalsTest {
    public static void main(String[] args) {
        refusals();
        another();
        ofAllRuns();
        notWhole();
        Bench.done();
    }

    private static void refusals() {
        Bench bench = new Bench();
        bench.run("SORT num;VAR x q;USE next;ASSUME next(0,0);ASSUME 0;VAR x num;SORT a;ASSUME =(x,a);COUNT -1;LEFT 0;");
        ProofBench x = bench.object;
        int[] due = {2, 2, 2, 1, 1, 0, 0, 1, 0, 1, 0, 0, 0, 0, 0, 0};
        for (int why = 0; why < 16; why++) {
            Bench.due("refusals(" + why + ")", x.refusals(why), due[why]);
        }
        bench.run("SORT num;ASSUME #;LEFT 0;THEOREM t;SEARCH >(x,x);SEARCH |(#,#);LEFT 0");
        due[1]++;
        due[0]++;
        due[10]++;
        due[14]++;
        due[4]++;
        due[15]++;
        for (int why = 0; why < 16; why++) {
            Bench.due("refusals(" + why + ") of all runs", x.refusals(why), due[why]);
        }
        for (int why : new int[] {-1, 16, 17, Integer.MAX_VALUE, Integer.MIN_VALUE}) {
            Bench.due("refusals(" + why + ")", x.refusals(why), 0);
        }
    }

    private static void another() {
        Bench.sentence("0 for another");
        Bench bench = new Bench();
        bench.run("VAR x num;SEARCH #;USE no;USE num;SAME next;");
        int[] due = {1, 1, 1, 1, 0, 0, 0, 0, 0, 0, 0, 0, 0, 0, 0, 1};
        for (int why = 0; why < 16; why++) {
            Bench.due("refusals(" + why + ")", bench.object.refusals(why), due[why]);
        }
        for (int why : new int[] {-1, 16, 17, 31, 32, 255, 256, -16, Integer.MAX_VALUE, Integer.MIN_VALUE}) {
            Bench.due("refusals(" + why + ")", bench.object.refusals(why), 0);
        }
    }

    private static void ofAllRuns() {
        Bench.sentence("How many of all STATEMENTS of all runs were REFUSED by this; 0: how many were not");
        Bench bench = new Bench();
        int done = 0;
        int refused = 0;
        int full = 0;
        for (int k = 0; k < 6; k++) {
            int whole = bench.feed(Bench.repeat("USEa;", 500) + Bench.repeat("PROOF;", 100)).object.run();
            Bench.due("run", whole, 600);
            refused += 500;
            done += 100;
            bench.run("ASSUME#;SORT s" + k + ";");
            done += k < 5 ? 2 : 1;
            full += k < 5 ? 0 : 1;
            Bench.due("refusals(0)", bench.object.refusals(0), done);
            Bench.due("refusals(1)", bench.object.refusals(1), refused);
            Bench.due("refusals(8)", bench.object.refusals(8), full);
            Bench.due("refusals(2)", bench.object.refusals(2), 0);
        }
        // All together they are as many as were whole.
        int all = 0;
        for (int why = 0; why < 16; why++) {
            all += bench.object.refusals(why);
        }
        Bench.due("all", all, 6 * 602);
        // Asking changes nothing, nor does PROOF.
        bench.run("PROOF;");
        Bench.due("refusals(1)", bench.object.refusals(1), refused);
        Bench.due("refusals(0)", bench.object.refusals(0), done + 1);
    }

    private static void notWhole() {
        Bench.sentence("a STATEMENT that is not whole does nothing");
        Bench bench = new Bench();
        bench.checkWrong("PROOF;USE a;USE a", 2, 17);
        bench.checkWrong("USE", 0, 3);
        bench.checkWrong("*USE a;", 0, 0);
        bench.checkWrong("", 0, -1);
        Bench.due("refusals(0)", bench.object.refusals(0), 1);
        Bench.due("refusals(1)", bench.object.refusals(1), 1);
    }
}

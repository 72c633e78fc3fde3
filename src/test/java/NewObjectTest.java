/** Promise 1, and what every question answers before a run(). */
public final class NewObjectTest {
    public static void main(String[] args) {
        ProofBench x = new ProofBench();
        Bench.due("BAD", ProofBench.BAD, -1);
        Bench.due("steps()", x.steps(), 0);
        Bench.due("facts()", x.facts(), 0);
        Bench.due("wrong()", x.wrong(), -1);
        Bench.due("outputs()", x.outputs(), 0);
        Bench.due("out(0)", x.out(0), 0);
        Bench.due("hypotheses(0)", x.hypotheses(0), -1);
        Bench.due("leans(0, 0)", x.leans(0, 0), -1);
        Bench.due("inductive(0)", x.inductive(0), -1);
        for (int why = -1; why < 18; why++) {
            Bench.due("refusals(" + why + ")", x.refusals(why), 0);
        }
        Bench.due("end(0)", x.end(0), 0);
        Bench.due("run()", x.run(), 0);
        Bench.due("wrong()", x.wrong(), -1);

        new Bench().check("SORT num;SORT next;VAR next num;VAR num num;", "1 1 1 1");
        new Bench().check("VAR x num;SAME next(x);SHOW 0;SORT box;VAR y box;SAME next(y);SAME next;", "0 0 [=(next(x),next(x))] 0 0 5 3");
        // One object knows nothing of what another was told.
        new Bench().check("SORT box;", "0");
        new Bench().check("SORT box;", "0");
        Bench.done();
    }
}

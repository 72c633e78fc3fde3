/** Promise 1, and what every question answers before a run(). */
public final class Promise01NewObjectTest {
    public static void main(String[] args) {
        everyQuestion();
        nothingButNumAndNext();
        noProof();
        calls();
        Bench.done();
    }

    private static void everyQuestion() {
        Bench.sentence("Nothing; no proof, no step");
        ProofBench x = new ProofBench();
        Bench.due("BAD", ProofBench.BAD, -1);
        Bench.due("steps()", x.steps(), 0);
        Bench.due("facts()", x.facts(), 0);
        Bench.due("wrong()", x.wrong(), -1);
        Bench.due("outputs()", x.outputs(), 0);
        Bench.due("out(0)", x.out(0), 0);
        Bench.due("hypotheses(0)", x.hypotheses(0), -1);
        Bench.due("leans(0, 0)", x.leans(0, 0), -1);
        Bench.due("inductive(0)", x.inductive(0), -1);
        for (int why = -1; why < 18; why++) {
            Bench.due("refusals(" + why + ")", x.refusals(why), 0);
        }
        Bench.due("end(1)", x.end(1), -1);
        Bench.due("end(0)", x.end(0), 0);
        Bench.due("run()", x.run(), 0);
        Bench.due("wrong()", x.wrong(), -1);
    }

    private static void nothingButNumAndNext() {
        Bench.sentence("Nothing but num and next");
        new Bench().check("SORT num;SORT next;VAR next num;VAR num num;AXIOM num #;REL next();", "1 1 1 1 1 1");
        new Bench().check("VAR x num;SAME next(x);SHOW 0;SORT box;VAR y box;SAME next(y);SAME next;SAME next(x,x);",
                "0 0 [=(next(x),next(x))] 0 0 5 3 3");
        new Bench().check("SORT nu;SORT numb;SORT nex;SORT nexts;", "0 0 0 0");
        // One object knows nothing of what another was told.
        new Bench().check("SORT box;", "0");
        new Bench().check("SORT box;", "0");
    }

    private static void noProof() {
        Bench.sentence("no proof, no step");
        Bench bench = new Bench();
        bench.check("SHOW 0;FROM 0 0;LEFT 0;THEOREM t;SEARCH # 0;", "9 9 9 9 9");
        // No PROOF need be told ahead of the first step.
        bench.check("COUNT 0;SHOW 0;THEOREM t;", "0 [=(next(0),1)] 0");
    }

    private static void calls() {
        Bench.sentence("at most 512 calls after it has been made");
        // Five TAPES of a hundred feeds with a run each, and seven questions: steps of 400 PLACES, as many as can be.
        Bench bench = new Bench();
        String text = "REL p(num);PROOF;ASSUME " + Bench.wide(398) + ";" + Bench.repeat("DISCHARGE0#;SHOW0;", 130);
        text += Bench.repeat(" ", 4000 - text.length());
        for (int k = 0; k < 5; k++) {
            bench.feed(text);
            Bench.due("run() number " + k, bench.object.run(), 263);
        }
        int told = 2 + Bench.wide(398).length();
        int shown = (19000 - 3) / (told + 1);
        Bench.due("wrong()", bench.object.wrong(), -1);
        Bench.due("steps()", bench.object.steps(), 131);
        Bench.due("hypotheses(130)", bench.object.hypotheses(130), 1);
        Bench.due("refusals(0)", bench.object.refusals(0), 1 + 5 * (2 + 130 + shown));
        Bench.due("refusals(1)", bench.object.refusals(1), 4);
        Bench.due("refusals(8)", bench.object.refusals(8), 5 * (130 - shown));
        Bench.due("outputs()", bench.object.outputs(), 263 + shown * (told - 1));
    }
}

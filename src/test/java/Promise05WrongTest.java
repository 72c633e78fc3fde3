/** Promise 5: wrong. */
public final class Promise05WrongTest {
    public static void main(String[] args) {
        beforeOne();
        ofTheLatest();
        fromTheFirstByte();
        Bench.done();
    }

    private static void beforeOne() {
        Bench.sentence("BAD if it did not, and before one");
        ProofBench x = new ProofBench();
        Bench.due("wrong()", x.wrong(), -1);
        x.feed(0, 0, 0, 0, 0);
        Bench.due("wrong() of a TAPE that is not done", x.wrong(), -1);
        x.end(0);
        Bench.due("wrong()", x.wrong(), -1);
        x.run();
        Bench.due("wrong() of an empty TAPE", x.wrong(), -1);
    }

    private static void ofTheLatest() {
        Bench.sentence("Where the latest run() found its TAPE WRONG; BAD if it did not");
        Bench bench = new Bench();
        bench.checkWrong("SORT a;*", 1, 7);
        bench.feed("PROOF;");
        Bench.due("feed leaves it", bench.object.wrong(), 7);
        bench.object.end(3);
        Bench.due("end leaves it", bench.object.wrong(), 7);
        Bench.due("run", bench.object.run(), 0);
        Bench.due("PRO is no WORD", bench.object.wrong(), 0);
        bench.checkWrong("PROOF;", 1, -1);
        bench.checkWrong("PROOF", 0, 5);
        bench.object.outputs();
        bench.object.out(0);
        bench.object.steps();
        bench.object.refusals(0);
        Bench.due("asking leaves it", bench.object.wrong(), 5);
        Bench.due("run of nothing", bench.object.run(), 0);
        Bench.due("wrong", bench.object.wrong(), -1);
        // What is REFUSED is not WRONG.
        bench.checkWrong("USE no;SHOW 9;COUNT -1;", 3, -1);
    }

    private static void fromTheFirstByte() {
        Bench.sentence("the place is counted from the TAPE's first byte, 0, and its last one is 3999");
        for (int at : new int[] {0, 1, 39, 40, 41, 79, 80, 3959, 3960, 3998, 3999}) {
            new Bench().checkWrong(Bench.repeat(" ", at) + "*" + Bench.repeat(" ", 3999 - at), 0, at);
            new Bench().checkWrong(Bench.repeat("\n", at) + ";", 0, at);
        }
        new Bench().checkWrong(Bench.repeat(" ", 3995) + "PROOF", 0, 4000);
        new Bench().checkWrong(Bench.repeat(" ", 3994) + "PROOF ", 0, 4000);
        new Bench().checkWrong(Bench.repeat(" ", 3994) + "PROOF;", 1, -1);
        new Bench().checkWrong(Bench.repeat(" ", 3996) + "PROO", 0, 3996);
    }
}

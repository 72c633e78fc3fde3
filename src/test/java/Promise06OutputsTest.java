/** Promise 6: outputs. */
public final class Promise06OutputsTest {
    public static void main(String[] args) {
        howMany();
        emptyAtFirst();
        toTheEnd();
        Bench.done();
    }

    private static void outputs(String text, int due) {
        Bench bench = new Bench();
        bench.run("SORT s;VAR x num;AXIOM ax #;ASSUME =(0,10);");
        bench.feed(text);
        bench.object.run();
        Bench.due("outputs of " + text, bench.object.outputs(), due);
        for (int i = due; i < due + 50; i++) {
            Bench.due("out(" + i + ") of " + text, bench.object.out(i), 0);
        }
    }

    private static void howMany() {
        Bench.sentence("For each STATEMENT OUT gets 0, and what it tells; or, if it is REFUSED, why, alone");
        outputs("", 0);
        outputs(" \n", 0);
        outputs("PROOF;", 1);
        outputs("SORT t;", 1);
        outputs("SORT s;", 1);
        outputs("COUNT 1;", 1);
        outputs("COUNT -1;", 1);
        outputs("SHOW 0;", 9);
        outputs("SHOW 1;", 1);
        outputs("FROM 0 0;", 9);
        outputs("FROM 0 1;", 1);
        outputs("TELL ax;", 3);
        outputs("TELL x;", 1);
        outputs("PUT # x 0;", 3);
        outputs("PUT # x #;", 1);
        outputs("ALIKE 0 #;", 2);
        outputs("ALIKE 0 0;", 2);
        outputs("ALIKE 0 no;", 1);
        outputs("JUDGE #;", 2);
        outputs("JUDGE =(x,x);", 2);
        outputs("JUDGE x;", 1);
        outputs("SHOW 0;SHOW 1;TELL ax;JUDGE #;PROOF;SORT s;", 9 + 1 + 3 + 2 + 1 + 1);
        outputs("SHOW 0;SHOW 0", 9);
        outputs("*SHOW 0;", 0);
    }

    private static void emptyAtFirst() {
        Bench.sentence("run(): OUT is empty");
        Bench bench = new Bench();
        Bench.due("outputs of a new object", bench.object.outputs(), 0);
        bench.feed("PROOF;PROOF;PROOF;");
        Bench.due("outputs ahead of run", bench.object.outputs(), 0);
        bench.object.run();
        Bench.due("outputs", bench.object.outputs(), 3);
        bench.feed("PROOF;");
        bench.object.end(6);
        Bench.due("outputs stay until run", bench.object.outputs(), 3);
        bench.object.run();
        Bench.due("outputs", bench.object.outputs(), 1);
        bench.object.run();
        Bench.due("outputs of an empty run", bench.object.outputs(), 0);
        bench.run("PROOF;");
        bench.feed("*");
        bench.object.run();
        Bench.due("outputs of a WRONG run", bench.object.outputs(), 0);
    }

    private static void toTheEnd() {
        Bench.sentence("what tells 0 alone is never FULL");
        // 12 bytes a NAME: a SHOW of 1200 bytes and more fills OUT with few STATEMENTS.
        String name = "abcdefghijkl";
        Bench bench = new Bench();
        bench.check("FUN f(num,num) num;FUN " + name + "() num;SAME f(" + name + ",f(" + name + ",f(" + name + ",f(" + name + "," + name + "))));", "0 0 0");
        int told = 2 + "=(,)".length() + 2 * ("f(,)".length() * 4 + 12 * 5);
        int fits = 19000 / told;
        String text = Bench.repeat("SHOW0;", fits + 10) + Bench.repeat("USEa;", (4000 - 6 * (fits + 10)) / 5);
        bench.feed(text);
        int whole = bench.object.run();
        Bench.due("run", whole, fits + 10 + (4000 - 6 * (fits + 10)) / 5);
        Bench.due("outputs", bench.object.outputs(), fits * told + whole - fits);
        Bench.due("it is more than 19000", bench.object.outputs() > 19000, true);
        Bench.due("the last number", bench.object.out(bench.object.outputs() - 1), 1);
        Bench.due("none behind it", bench.object.out(bench.object.outputs()), 0);
    }
}

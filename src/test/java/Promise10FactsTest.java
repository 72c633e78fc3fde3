/** Promise 10: facts. */
public final class Promise10FactsTest {
    public static void main(String[] args) {
        howMany();
        toForty();
        Bench.done();
    }

    private static void howMany() {
        Bench.sentence("How many FACTS there are");
        Bench bench = new Bench();
        Bench.due("facts of a new object", bench.object.facts(), 0);
        int[] due = {0, 0, 1, 1, 2, 2, 2, 3, 3, 3, 4};
        String[] all = {"THEOREM t;", "VAR x num;", "AXIOM a =(x,x);", "AXIOM a #;", "DEFINE d(x) =(x,0);", "DEFINE e() =(x,0);", "SAME 0;", "THEOREM t;", "THEOREM t;", "PROOF;", 
            "AXIOM z #;"};
        for (int k = 0; k < all.length; k++) {
            bench.run(all[k]);
            Bench.due("facts behind " + all[k], bench.object.facts(), due[k]);
        }
        // A REL that is told, and not defined, is no FACT.
        bench.check("REL r();SORT s;FUN f() num;USE r;TELL d;", "0 0 0 2 [!x &(>(d(x),=(x,0)),>(=(x,0),d(x)))]");
        Bench.due("facts", bench.object.facts(), 4);
        // Neither feed nor end change it, nor a STATEMENT that is not whole.
        bench.feed("AXIOM y #;");
        Bench.due("facts", bench.object.facts(), 4);
        bench.object.end(9);
        bench.object.run();
        Bench.due("facts", bench.object.facts(), 4);
    }

    private static void toForty() {
        Bench.sentence("How many FACTS there are, in the order in which they were told; 40 at most");
        Bench bench = new Bench();
        for (int k = 0; k < 40; k++) {
            bench.check(k % 2 == 0 ? "AXIOM a" + k + " =(" + k + ",0);" : "PROOF;USE a" + (k - 1) + ";THEOREM a" + k + ";", k % 2 == 0 ? "0" : "0 0 0");
            Bench.due("facts", bench.object.facts(), k + 1);
        }
        bench.check("AXIOM b #;THEOREM b;DEFINE b() #;", "8 8 8");
        Bench.due("facts", bench.object.facts(), 40);
        for (int k = 1; k < 40; k += 2) {
            Bench.due("leans(" + k + ", " + (k - 1) + ")", bench.object.leans(k, k - 1), 1);
            bench.check("TELL a" + k + ";", "[=(" + (k - 1) + ",0)]");
        }
    }
}

/** Promise 8: steps. */
public final class Promise08StepsTest {
    public static void main(String[] args) {
        howMany();
        anew();
        toThreeHundred();
        Bench.done();
    }

    private static void steps(Bench bench, String text, int due) {
        bench.run(text);
        Bench.due("steps behind " + text, bench.object.steps(), due);
    }

    private static void howMany() {
        Bench.sentence("How many steps the proof at hand has");
        Bench bench = new Bench();
        Bench.due("steps of a new object", bench.object.steps(), 0);
        steps(bench, "VAR x num;REL p(num);REL q();AXIOM a p(0);SHOW 0;", 0);
        String[] all = {"ASSUME q", "BOTH 0 0", "LEFT 1", "RIGHT 1", "FIRST 0 #", "SECOND 0 #", "ASSUME |(q,q)", "CASE 6 0 0", "DISCHARGE 0 q", "APPLY 8 0", "GENERALISE 0 x", "SPECIALISE 10 0",
            "WITNESS 0 0 ?x q", "OPEN 12 0 x", "SAME 0", "USE a", "REPLACE 14 15 x p(x)", "ASSUME !x >(p(x),p(next(x)))", "INDUCTION 15 17 x p(x)", "COUNT 3", "ASSUME #", "ABSURD 20 q", "SEARCH q 0"};
        for (int k = 0; k < all.length; k++) {
            steps(bench, all[k] + ";", k + 1);
            // What is no step, and what is REFUSED or not whole, makes none.
            steps(bench, "SHOW 0;LEFT 0;ASSUME no;THEOREM num;JUDGE #;ALIKE # #;" + all[k], k + 1);
        }
        steps(bench, "THEOREM t;", all.length);
        steps(bench, "SORT s;SIZE s 2;DEFINE d() #;", all.length);
        bench.feed("ASSUME q;");
        Bench.due("steps ahead of run", bench.object.steps(), all.length);
    }

    private static void anew() {
        Bench.sentence("PROOF: a new one, without steps");
        Bench bench = new Bench();
        steps(bench, "ASSUME #;ASSUME #;", 2);
        steps(bench, "ASSUME #;", 3);
        steps(bench, "PROOF;", 0);
        steps(bench, "PROOF", 0);
        steps(bench, "ASSUME #;", 1);
        steps(bench, "PROOF", 1);
        steps(bench, "PROOF;ASSUME #;ASSUME #;", 2);
        steps(bench, "DISCHARGE 1 #;THEOREM t;", 3);
    }

    private static void toThreeHundred() {
        Bench.sentence("A proof has 300 steps at most (8)");
        Bench bench = new Bench();
        for (int k = 1; k <= 300; k += 23) {
            steps(bench, Bench.repeat("ASSUME#;", 23), Math.min(300, k + 22));
        }
        Bench.due("steps", bench.object.steps(), 300);
        Bench.due("refusals(8)", bench.object.refusals(8), 14 * 23 - 300);
        steps(bench, "ASSUME#;SHOW 299;SHOW 300;", 300);
        steps(bench, "PROOF;ASSUME#;", 1);
    }
}

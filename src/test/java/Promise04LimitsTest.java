/** Promise 4, STEPS: 300 steps, 20 HYPOTHESES, and what is made too GREAT. */
public final class Promise04LimitsTest {
    public static void main(String[] args) {
        steps();
        hypotheses();
        great();
        compared();
        most();
        threeHundred();
        twenty();
        fourHundred();
        forty();
        anySize();
        Bench.done();
    }

    private static void steps() {
        Bench bench = new Bench();
        bench.run(Bench.repeat("ASSUME#;", 299));
        Bench.due("steps", bench.object.steps(), 299);
        bench.check("COUNT 1;COUNT 1;ASSUME #;ASSUME no;LEFT 300;LEFT 0;BOTH 299 299;THEOREM t;", "0 8 8 1 9 10 8 0");
        Bench.due("steps", bench.object.steps(), 300);
        Bench.due("hypotheses(299)", bench.object.hypotheses(299), 0);
        bench.check("DISCHARGE 0 #;SAME 1;USE t;SEARCH >(#,#);SHOW 299;PROOF;USE t;SHOW 0;", "8 8 8 8 [=(next(1),2)] 0 0 [=(next(1),2)]");
        Bench.due("steps", bench.object.steps(), 1);
    }

    private static void hypotheses() {
        StringBuilder text = new StringBuilder("REL p(num);VAR x num;");
        for (int k = 0; k < 22; k++) {
            text.append("ASSUME p(").append(k).append(");");
        }
        text.append("BOTH 0 1;");
        for (int k = 2; k < 20; k++) {
            text.append("BOTH ").append(20 + k).append(' ').append(k).append(";");
        }
        Bench bench = new Bench();
        bench.run(text.toString());
        Bench.due("steps", bench.object.steps(), 41);
        Bench.due("hypotheses(40)", bench.object.hypotheses(40), 20);
        bench.check("BOTH 40 20;BOTH 20 40;BOTH 40 40;BOTH 0 40;BOTH 40 19;FROM 43 0;FROM 43 19;FROM 43 20;", "8 8 0 0 0 [p(0)] [p(19)] 7");
        // Those that go make room for others.
        bench.check("ASSUME |(p(0),p(20));FIRST 40 p(0);FIRST 20 p(0);DISCHARGE 40 p(7);BOTH 47 20;BOTH 48 21;DISCHARGE 40 p(30);",
                "0 0 0 0 0 8 0");
        Bench.due("hypotheses(48)", bench.object.hypotheses(48), 20);
        bench.check("SEARCH #;SEARCH >(#,#) 40 20;SEARCH >(#,#) 40 19;SEARCH #  40 20;", "15 15 15 15");
        bench.check("SEARCH >(#,#) 0 1 2 3;SHOW 50;FROM 50 3;FROM 50 4;", "0 [>(#,#)] [p(3)] 7");
        // 6 comes ahead of 8.
        String deep = Bench.repeat("&(#,", 38) + "#" + Bench.repeat(")", 38);
        bench.check("PROOF;ASSUME " + deep + ";BOTH 0 0;BOTH 1 1;", "0 0 0 6");
        many();
    }

    // q without A and w without B may have 20 each that are left together.
    private static void many() {
        StringBuilder text = new StringBuilder("REL p(num);REL q();ASSUME |(p(98),p(99));ASSUME p(98);ASSUME p(99);");
        for (int k = 0; k < 19; k++) {
            text.append("ASSUME p(").append(k).append(");");
        }
        // Steps 3 .. 21 are p(0) .. p(18); 22 .. 40 gather them onto 1; then onto 2.
        for (int k = 0; k < 19; k++) {
            text.append("BOTH ").append(k == 0 ? 1 : 21 + k).append(' ').append(3 + k).append(';');
        }
        for (int k = 0; k < 19; k++) {
            text.append("BOTH ").append(k == 0 ? 2 : 40 + k).append(' ').append(3 + k).append(';');
        }
        text.append("SAME 0;ASSUME q;BOTH 40 60;BOTH 40 61;BOTH 59 60;");
        Bench bench = new Bench();
        bench.run(text.toString());
        Bench.due("hypotheses(40)", bench.object.hypotheses(40), 20);
        Bench.due("hypotheses(59)", bench.object.hypotheses(59), 20);
        Bench.due("steps", bench.object.steps(), 64);
        bench.check("RIGHT 62;RIGHT 63;CASE 0 64 65;FROM 66 0;FROM 66 19;FROM 66 20;", "0 0 0 [|(p(98),p(99))] [p(18)] 7");
        bench.check("CASE 0 65 64;ASSUME p(50);BOTH 67 64;RIGHT 62;", "8 0 8 0");
    }

    private static void great() {
        // 199 PLACES and 10 DEEP: BOTH of two are 399, and one more is too GREAT.
        String t = "f(0,0,f(0,0,f(0,0,0)))";
        String start = "FUN f(num,num,num) num;REL u(num,num,num);VAR x num;VAR y num;";
        String thirtyOne = "u(" + t + "," + t + "," + t + ")";
        String six = "&(" + thirtyOne + ",&(" + thirtyOne + ",&(" + thirtyOne + ",&(" + thirtyOne + ",&(" + thirtyOne + "," + thirtyOne + ")))))";
        Bench.due("191 PLACES", 6 * 31 + 5, 191);
        String base = "&(#,&(#,&(#,&(#," + six + "))))";
        Bench bench = new Bench();
        bench.check(start + "ASSUME " + base + ";BOTH 0 0;GENERALISE 1 x;GENERALISE 2 x;BOTH 1 1;FIRST 1 #;SECOND 1 #;DISCHARGE 1 #;DISCHARGE 2 #;",
                "0 0 0 0 0 0 0 6 6 6 6 6 6");
        Bench.due("hypotheses(2)", bench.object.hypotheses(2), 1);
        bench.check("DISCHARGE 0 #;LEFT 1;RIGHT 1;BOTH 5 5;SAME " + t + ";", "0 0 0 0 0");
        Bench.due("steps", bench.object.steps(), 8);
        // SPECIALISE and REPLACE: 13 and 5 are told first, then 6.
        String nine = "u(f(x,x,x),f(x,x,x),f(x,x,x))";
        String forty = Bench.repeat("f(0,0,", 15) + "0" + Bench.repeat(")", 15);
        String less = Bench.repeat("f(0,0,", 14) + "0" + Bench.repeat(")", 14);
        Bench.due("418 and 391 PLACES", 4 + 9 * 46 + "/" + (4 + 9 * 43), "418/391");
        new Bench().check(start + "ASSUME !x " + nine + ";SPECIALISE 0 " + forty + ";SPECIALISE 0 " + less + ";SHOW 1;",
                "0 0 0 0 0 6 0 [" + nine.replace("x", less) + "]");
        new Bench().check(start + "ASSUME =(0," + forty + ");ASSUME =(0," + less + ");ASSUME " + nine.replace("x", "0") + ";REPLACE 0 2 x " + nine
                + ";REPLACE 1 2 x " + nine + ";", "0 0 0 0 0 0 0 6 0");
        String t199 = Bench.repeat("f(0,0,", 30) + Bench.repeat("next(", 8) + "0" + Bench.repeat(")", 38);
        new Bench().check(start + "SAME " + t199 + ";SAME next(" + t199 + ");", "0 0 0 0 0 6");
    }

    // 400 PLACES are looked at to the last one.
    private static void most() {
        String start = "REL t(num,num,num);VAR x num;VAR y num;VAR z num;";
        String five = "t(0,0,0)";
        String wide = "&(&(" + five + "," + five + "),&(" + five + "," + five + "))";
        String more = "&(&(" + wide + "," + wide + "),&(" + wide + "," + wide + "))";
        String great = "&(&(" + more + "," + more + "),&(" + more + "," + more + "))";
        String whole = "!x &(" + great + "," + more.substring(0, more.length() - "0)))))".length()) + "y))))))";
        Bench bench = new Bench();
        bench.check(start + "ASSUME " + whole + ";GENERALISE 0 x;GENERALISE 0 y;SPECIALISE 0 z;GENERALISE 1 y;", "0 0 0 0 0 6 12 0 12");
        bench.check("SEARCH " + whole + " 0;SHOW 2;", "0 [" + whole + "]");
        bench.check("SEARCH " + whole.replace("(y", "(0").replace(",y", ",0") + " 0;", "15");
        bench.check("PUT " + whole + " y x;", "[" + whole.replace("!x", "!z").replace(",y)", ",x)") + "]");
        bench.check("JUDGE " + whole + ";ALIKE " + whole + " " + whole.replace("!x", "!z") + ";", "[0] [1]");
        bench.check("ALIKE " + whole + " " + whole.replace(",y)", ",z)") + ";", "[0]");
        bench.check("DISCHARGE 1 " + whole + ";DISCHARGE 2 " + whole.replace("!x", "!z") + ";", "6 6");
    }

    private static void compared() {
        // What is made to be compared may be of any size: 11, not 6.
        String start = "FUN f(num,num,num) num;REL u(num,num,num);VAR x num;VAR y num;REL p(num);";
        String t = Bench.repeat("f(x,x,", 37) + "x" + Bench.repeat(")", 37);
        String p = "p(" + t + ")";
        new Bench().check(start + "ASSUME p(0);WITNESS 0 " + t + " ?x " + p + ";", "0 0 0 0 0 0 11");
        new Bench().check(start + "ASSUME =(" + t + ",0);ASSUME p(0);REPLACE 0 1 x " + p + ";REPLACE 0 1 x p(y);", "0 0 0 0 0 0 0 11 11");
        new Bench().check(start + "ASSUME =(" + t + "," + t + ");ASSUME p(0);REPLACE 0 1 x p(0);SHOW 2;", "0 0 0 0 0 0 0 0 [p(0)]");
        // ABSURD: >(F,#) has more than 400 PLACES if F has 400, and is then no HYPOTHESIS.
        String six = "u(f(x,x,x),f(x,x,x),f(x,x,x))";
        String wide = "&(&(" + six + "," + six + "),&(" + six + "," + six + "))";
        String f = Bench.repeat("&(" + wide + ",", 6) + "&(&(#,#),&(&(#,#),&(&(#,#),&(&(#,#),!x !x !x !x !x !x !x #))))" + Bench.repeat(")", 6);
        Bench.due("F has 360 PLACES", 6 * (4 * 13 + 3 + 1) + 24, 360);
        Bench bench = new Bench();
        bench.check(start + "ASSUME #;ABSURD 0 " + f + ";", "0 0 0 0 0 0 0");
        Bench.due("hypotheses(1)", bench.object.hypotheses(1), 1);
        // INDUCTION compares what has up to 1202 PLACES.
        bench.check("PROOF;ASSUME " + f.replace("(x", "(0").replace(",x", ",0") + ";", "0 0");
        bench.check("ASSUME !x >(#,#);INDUCTION 0 1 x " + f + ";", "0 11");
    }

    private static void threeHundred() {
        Bench.sentence("A proof has 300 steps at most (8)");
        String[] all = {"ASSUME#;", "COUNT0;", "SAME0;", "USEa;", "LEFT0;", "BOTH1 1;", "FIRST1#;", "SEARCH# 1;", "ABSURD1#;", "DISCHARGE1#;"};
        for (String one : all) {
            Bench bench = new Bench();
            bench.check("AXIOM a #;ASSUME &(#,#);ASSUME #;", "0 0 0");
            Bench.due("run", bench.feed(Bench.repeat(one, 150)).object.run(), 150);
            Bench.due("run", bench.feed(Bench.repeat(one, 147)).object.run(), 147);
            Bench.due("steps of " + one, bench.object.steps(), 299);
            bench.check(one, "0");
            Bench.due("steps of " + one, bench.object.steps(), 300);
            bench.check(one + one, "8 8");
            Bench.due("steps of " + one, bench.object.steps(), 300);
            Bench.due("refusals(0) of " + one, bench.object.refusals(0), 301);
            Bench.due("refusals(8) of " + one, bench.object.refusals(8), 2);
            // PROOF makes room for 300 more.
            bench.check("PROOF;ASSUME &(#,#);ASSUME #;" + one, "0 0 0 0");
            Bench.due("steps behind PROOF", bench.object.steps(), 3);
        }
    }

    // Steps 0 .. n - 1 are p(0) .. p(n - 1); step 2 n - 2 is from them all, and step 2 n + 1 shows what is wanted from them and from it.
    private static String gathered(int n, String wanted) {
        StringBuilder text = new StringBuilder("VAR x num;VAR y num;REL p(num);REL r(num);REL q();REL o();");
        for (int k = 0; k < n; k++) {
            text.append("ASSUME p(").append(k).append(");");
        }
        text.append("BOTH 0 1;");
        for (int k = 2; k < n; k++) {
            text.append("BOTH ").append(n + k - 2).append(' ').append(k).append(';');
        }
        text.append("ASSUME ").append(wanted).append(";BOTH ").append(2 * n - 2).append(' ').append(2 * n - 1).append(";RIGHT ").append(2 * n).append(';');
        return text.toString();
    }

    // m is the step from n + 1 HYPOTHESES, a, b, .. are those told behind it.
    private static void crowd(String wanted, String more, String last) {
        for (int n = 17; n <= 19; n++) {
            Bench bench = new Bench();
            bench.run(gathered(n, wanted));
            Bench.due("hypotheses of m", bench.object.hypotheses(2 * n + 1), n + 1);
            bench.run(more);
            String statement = last.replace("m", "" + (2 * n + 1)).replace("a", "" + (2 * n + 2)).replace("b", "" + (2 * n + 3)).replace("c", "" + (2 * n + 4))
                    .replace("d", "" + (2 * n + 5));
            int before = bench.object.steps();
            bench.check(statement, n == 19 ? "8" : "0");
            Bench.due("steps behind " + statement, bench.object.steps(), n == 19 ? before : before + 1);
            Bench.due("hypotheses behind " + statement, bench.object.hypotheses(before), n == 19 ? -1 : n + 2);
        }
    }

    private static void twenty() {
        Bench.sentence("a step 20 HYPOTHESES at most (8)");
        crowd("q", "ASSUME o;", "BOTH m a;");
        crowd("q", "ASSUME o;", "BOTH a m;");
        crowd("|(q,o)", "ASSUME #;", "CASE m a a;");
        crowd("|(q,o)", "ASSUME q;ASSUME #;BOTH a b;", "CASE m b b;");
        crowd("#", "ASSUME |(q,o);", "CASE a m m;");
        crowd("#", "ASSUME |(q,o);ASSUME #;", "CASE a b m;");
        crowd(">(q,o)", "ASSUME q;", "APPLY m a;");
        crowd("q", "ASSUME >(q,o);", "APPLY a m;");
        crowd("?x r(x)", "ASSUME o;", "OPEN m a x;");
        crowd("o", "ASSUME ?x r(x);", "OPEN a m x;");
        crowd("=(0,1)", "ASSUME r(0);", "REPLACE m a x r(x);");
        crowd("r(0)", "ASSUME =(0,1);", "REPLACE a m x r(x);");
        crowd("r(0)", "ASSUME !x >(r(x),r(next(x)));", "INDUCTION m a x r(x);");
        crowd("!x >(r(x),r(next(x)))", "ASSUME r(0);", "INDUCTION a m x r(x);");
        crowd("q", "ASSUME o;", "SEARCH &(q,o) m a;");
        crowd("q", "ASSUME o;", "SEARCH &(q,o) a m;");
        crowd("q", "ASSUME o;", "SEARCH q m m m a;");
        // What is left out makes room, and what is among them takes none.
        Bench bench = new Bench();
        bench.run(gathered(19, "?x r(x)"));
        bench.check("ASSUME r(x);ASSUME !y r(y);BOTH 39 39;OPEN 39 40 y;OPEN 39 0 y;ASSUME >(r(x),o);ASSUME r(y);", "0 0 0 8 0 0 0");
        Bench.due("hypotheses(43)", bench.object.hypotheses(43), 20);
        bench.check("ASSUME o;BOTH 46 45;LEFT 47;OPEN 39 48 y;DISCHARGE 39 p(3);BOTH 49 46;", "0 0 0 8 0 0");
        Bench.due("hypotheses(50)", bench.object.hypotheses(50), 20);
    }

    private static void made(String before, String beforeDue, String statement, String due) {
        String start = "VAR x num;REL p(num);FUN g(num,num) num;";
        Bench bench = new Bench();
        bench.check(start + before, ("0 0 0 " + beforeDue).trim());
        int steps = bench.object.steps();
        bench.check(statement, due);
        Bench.due("steps", bench.object.steps(), due.equals("0") ? steps + 1 : steps);
    }

    private static String term(int places) {
        if (places <= 2) {
            return places == 1 ? "0" : "next(0)";
        }
        int left = (places - 1) / 2;
        return "g(" + term(left) + "," + term(places - 1 - left) + ")";
    }

    private static void fourHundred() {
        Bench.sentence("What is made by steps is looked at by 6: it has more than 400 PLACES");
        for (int extra = 0; extra < 2; extra++) {
            String due = extra == 0 ? "0" : "6";
            String most = Bench.wide(200 + extra);
            String least = Bench.wide(199);
            made("ASSUME " + least + ";ASSUME " + most + ";", "0 0", "BOTH 0 1;", due);
            made("ASSUME " + least + ";ASSUME " + most + ";", "0 0", "BOTH 1 0;", due);
            made("ASSUME " + least + ";", "0", "FIRST 0 " + most + ";", due);
            made("ASSUME " + most + ";", "0", "FIRST 0 " + least + ";", due);
            made("ASSUME " + least + ";", "0", "SECOND 0 " + most + ";", due);
            made("ASSUME " + most + ";", "0", "SECOND 0 " + least + ";", due);
            made("ASSUME " + least + ";", "0", "DISCHARGE 0 " + most + ";", due);
            made("ASSUME " + most + ";", "0", "DISCHARGE 0 " + least + ";", due);
            made("ASSUME " + most + ";", "0", "DISCHARGE 0 " + Bench.wide(199) + ";", due);
            made("ASSUME " + Bench.wide(399 + extra) + ";", "0", "GENERALISE 0 x;", due);
            // Two x more make 2 PLACES more of next(0), and the ! goes.
            String twice = "&(" + Bench.wide(392 + extra) + ",&(p(x),p(x)))";
            made("ASSUME !x " + twice + ";", "0", "SPECIALISE 0 next(0);", due);
            made("ASSUME !x " + twice + ";", "0", "SPECIALISE 0 0;", "0");
            made("ASSUME =(0,next(0));ASSUME " + twice.replace("x", "0") + ";", "0 0", "REPLACE 0 1 x " + twice + ";", due);
            made("ASSUME =(0,0);ASSUME " + twice.replace("x", "0") + ";", "0 0", "REPLACE 0 1 x " + twice + ";", "0");
            made("", "", "SAME " + term(199 + extra) + ";", due);
        }
        // What is only taken is as great as it was.
        String half = Bench.wide(199);
        made("ASSUME &(" + half + "," + Bench.wide(200) + ");", "0", "RIGHT 0;", "0");
        made("ASSUME " + Bench.wide(400) + ";AXIOM a " + Bench.wide(400) + ";", "0 0", "USE a;", "0");
        made("ASSUME #;", "0", "ABSURD 0 " + Bench.wide(400) + ";", "0");
    }

    private static void forty() {
        Bench.sentence("What is made by steps is looked at by 6: it is more than 40 DEEP (a THING without parts is 1)");
        for (int deep = 39; deep <= 40; deep++) {
            String due = deep == 39 ? "0" : "6";
            String f = Bench.deep(deep);
            made("ASSUME #;ASSUME " + f + ";", "0 0", "BOTH 0 1;", due);
            made("ASSUME #;ASSUME " + f + ";", "0 0", "BOTH 1 0;", due);
            made("ASSUME #;", "0", "FIRST 0 " + f + ";", due);
            made("ASSUME " + f + ";", "0", "FIRST 0 #;", due);
            made("ASSUME #;", "0", "SECOND 0 " + f + ";", due);
            made("ASSUME " + f + ";", "0", "SECOND 0 #;", due);
            made("ASSUME #;", "0", "DISCHARGE 0 " + f + ";", due);
            made("ASSUME " + f + ";", "0", "DISCHARGE 0 #;", due);
            made("ASSUME " + f + ";", "0", "GENERALISE 0 x;", due);
            made("", "", "SAME " + Bench.nexts(deep - 1, "0") + ";", due);
            made("ASSUME !x p(" + Bench.nexts(19, "x") + ");", "0", "SPECIALISE 0 " + Bench.nexts(deep - 20, "0") + ";", due);
            made("ASSUME !x &(#,p(" + Bench.nexts(18, "x") + "));", "0", "SPECIALISE 0 " + Bench.nexts(deep - 20, "0") + ";", due);
            made("ASSUME =(0," + Bench.nexts(deep - 20, "0") + ");ASSUME p(" + Bench.nexts(19, "0") + ");", "0 0", "REPLACE 0 1 x p(" + Bench.nexts(19, "x") + ");", due);
        }
        // SPECIALISE takes a ! away: 39 are left of 40, and T may be 2 DEEP.
        made("ASSUME !x p(" + Bench.nexts(37, "x") + ");", "0", "SPECIALISE 0 next(0);", "0");
        made("ASSUME !x p(" + Bench.nexts(37, "x") + ");", "0", "SPECIALISE 0 next(next(0));", "6");
    }

    private static void anySize() {
        Bench.sentence("what is made to be compared may be of any size");
        String start = "VAR x num;VAR y num;REL p(num);FUN g(num,num) num;";
        String started = "0 0 0 0 ";
        // A[x:=T] and F[v:=t] with 41 DEEP, 401 PLACES, and thousands of them: UNLIKE, not too GREAT.
        String deep = "p(" + Bench.nexts(37, "x") + ")";
        String wide = "&(" + Bench.wide(393) + ",&(p(x),p(x)))";
        String many = "p(" + Bench.repeat("g(x,", 37) + "x" + Bench.repeat(")", 37) + ")";
        for (String t : new String[] {Bench.nexts(3, "0"), Bench.nexts(38, "0"), term(300)}) {
            for (String f : new String[] {deep, wide, many}) {
                new Bench().check(start + "ASSUME #;WITNESS 0 " + t + " ?x " + f + ";", started + "0 11");
                new Bench().check(start + "ASSUME #;ASSUME =(" + t + ",0);REPLACE 1 0 x " + f + ";", started + "0 0 11");
            }
        }
        // F[v:=t] may be compared even if F[v:=u] is then too GREAT, and F itself is as great as can be.
        String[] both = {"p(" + Bench.nexts(38, "x") + ")", "p(" + Bench.nexts(38, "0") + ")"};
        new Bench().check(start + "ASSUME =(0,next(0));ASSUME " + both[1] + ";REPLACE 0 1 x " + both[0] + ";", started + "0 0 6");
        new Bench().check(start + "ASSUME =(next(0),0);ASSUME " + both[1] + ";REPLACE 0 1 x " + both[0] + ";", started + "0 0 11");
        // INDUCTION: ! v >(F,F[v:=next(v)]) of up to 802 PLACES and 43 DEEP.
        new Bench().check(start + "ASSUME " + Bench.wide(400) + ";INDUCTION 0 0 x " + Bench.wide(400) + ";", started + "0 11");
        new Bench().check(start + "ASSUME " + Bench.deep(40) + ";INDUCTION 0 0 x " + Bench.deep(40) + ";", started + "0 11");
        // The greatest that INDUCTION can show: F has 199 PLACES, or is 38 DEEP.
        for (String f : new String[] {Bench.wide(199), Bench.deep(38)}) {
            new Bench().check(start + "ASSUME " + f + ";ASSUME !x >(" + f + "," + f + ");INDUCTION 0 1 y " + f + ";SHOW 2;", started + "0 0 0 [!y " + f + "]");
        }
        // ABSURD: >(F,#) of 402 PLACES is no HYPOTHESIS, and F is shown.
        Bench bench = new Bench();
        bench.check(start + "ASSUME #;ABSURD 0 " + Bench.wide(400) + ";ABSURD 0 " + Bench.deep(40) + ";", started + "0 0 0");
        Bench.due("hypotheses(1)", bench.object.hypotheses(1), 1);
    }
}

/** Promise 4, TEXTS: what TOKENS, THINGS and STATEMENTS are, and where a TAPE is WRONG. */
public final class Promise04TextsTest {
    public static void main(String[] args) {
        tokens();
        statements();
        things();
        depth();
        whatIsWrongDoesNothing();
        everyByte();
        longNames();
        longNumbers();
        asLongAsItCanBe();
        everyStatement();
        everyWayDown();
        rows();
        theTapesLength();
        notWhole();
        Bench.done();
    }

    private static void wrong(String text, int whole, int at) {
        new Bench().checkWrong(text, whole, at);
    }

    private static void tokens() {
        new Bench().check("  \n SORT\n\nbox ; \n", "0").check("SORTbag;VARx num;", "0 0").check("COUNT0;COUNT -0;COUNT000007;SHOW 2;",
                "0 0 0 [=(next(7),8)]");
        new Bench().check("SORT a23456789012;SORT a;SORT a2;", "0 0 0");
        wrong("SORT a234567890123;", 0, 5);
        new Bench().check("COUNT 999999;COUNT -999999;COUNT 000001;", "7 7 0");
        wrong("COUNT 1234567;", 0, 6);
        wrong("COUNT -1234567;", 0, 6);
        wrong("COUNT -;", 0, 6);
        wrong("COUNT - 1;", 0, 6);
        wrong("COUNT --1;", 0, 6);
        wrong("COUNT 1 2;", 0, 8);
        wrong("COUNT 1-2;", 0, 7);
        wrong("COUNT 1a;", 0, 7);
        wrong("SORT 1a;", 0, 5);
        wrong("SORT Box;", 0, 5);
        wrong("SORTA a;", 0, 0);
        wrong("SOR a;", 0, 0);
        wrong("sort a;", 0, 0);
        wrong("SORT a;\tSORT b;", 1, 7);
        wrong("SORT a;SORT b;*", 2, 14);
        wrong("SORT a\r;", 0, 6);
        wrong("SORT a;\0", 1, 7);
        wrong("SORT a;\u00ff", 1, 7);
        // The first TOKEN with which nothing can go on is WRONG, not a later byte that is none.
        wrong("SORT a b 1234567;", 0, 7);
        wrong("SORT a;;", 1, 7);
        wrong(";", 0, 0);
    }

    private static void statements() {
        wrong("SORT", 0, 4);
        wrong("SORT a", 0, 6);
        wrong("SORT a  \n", 0, 9);
        wrong("SORT a;SORT b;SORT ", 2, 19);
        wrong("FUN f num;", 0, 6);
        wrong("FUN f() ;", 0, 8);
        wrong("FUN f(num,) num;", 0, 10);
        wrong("FUN f(,) num;", 0, 6);
        wrong("FUN f(num num) num;", 0, 10);
        wrong("FUN f(1) num;", 0, 6);
        wrong("REL p;", 0, 5);
        wrong("REL p(num) num;", 0, 11);
        wrong("VAR x;", 0, 5);
        wrong("VALUE f(x) 1;", 0, 8);
        wrong("VALUE f(1);", 0, 10);
        wrong("HOLDS p;", 0, 7);
        wrong("HOLDS p() 1;", 0, 10);
        wrong("PROOF 1;", 0, 6);
        wrong("SHOW x;", 0, 5);
        wrong("FROM 0;", 0, 6);
        wrong("CASE 0 0;", 0, 8);
        wrong("SEARCH 1 2 x;", 0, 11);
        wrong("SEARCH;", 0, 6);
        wrong("AXIOM # #;", 0, 6);
        new Bench().check("SEARCH 1 2;SEARCH #;SEARCH # 1 2 3 4;", "4 15 9");
        new Bench().check("PROOF;PROOF ;THEOREM a;", "0 0 9");
    }

    private static void things() {
        wrong("ASSUME;", 0, 6);
        wrong("ASSUME p();", 0, 9);
        wrong("ASSUME p(,);", 0, 9);
        wrong("ASSUME p(x,);", 0, 11);
        wrong("ASSUME p(x;", 0, 10);
        wrong("ASSUME p(x y);", 0, 11);
        wrong("ASSUME =(x);", 0, 10);
        wrong("ASSUME =(x,y,z);", 0, 12);
        wrong("ASSUME = x y;", 0, 9);
        wrong("ASSUME ! (x);", 0, 9);
        wrong("ASSUME !x;", 0, 9);
        wrong("ASSUME !1 x;", 0, 8);
        wrong("ASSUME (x);", 0, 7);
        wrong("ASSUME #(x);", 0, 8);
        wrong("ASSUME 1(x);", 0, 8);
        wrong("ASSUME #,;", 0, 8);
        wrong("ASSUME SORT;", 0, 7);
        // The ( behind a NAME is that NAME's.
        wrong("ALIKE a (b);", 0, 11);
        new Bench().check("REL p(num,num);VAR x num;ASSUME p ( x\n, 0 ) ;SHOW 0;ASSUME!x?x>(p(x,x),#);SHOW1;",
                "0 0 0 [p(x,0)] 0 [!x ?x >(p(x,x),#)]");
    }

    private static void depth() {
        String nexts = Bench.repeat("next(", 39);
        String closes = Bench.repeat(")", 39);
        // =(T,T) of a T that is 39 DEEP is 40 DEEP, of one that is 40 DEEP too GREAT; 41 cannot be told.
        new Bench().check("SAME next(" + nexts.substring(10) + "0" + closes.substring(1) + ";", "0");
        new Bench().check("SAME " + nexts + "0" + closes + ";", "6");
        wrong("SAME next(" + nexts + "0)" + closes + ";", 0, 5 + 40 * 5);
        wrong("SAME " + nexts + "next(0)" + closes + ";", 0, 5 + 40 * 5);
        // What is no THING there, or the end of the TAPE, is WRONG at the same place.
        wrong("SAME next(" + nexts + ");", 0, 5 + 40 * 5);
        wrong("SAME next(" + nexts, 0, 5 + 40 * 5);
        String alls = Bench.repeat("!x", 39);
        new Bench().check("VAR x num;ASSUME " + alls + "#;GENERALISE 0 x;", "0 0 6");
        wrong("VAR x num;ASSUME " + alls + "!x#;", 1, 17 + 80);
        wrong("VAR x num;ASSUME " + alls + "&(#,#);", 1, 17 + 80);
        String ands = Bench.repeat("&(#,", 39);
        new Bench().check("ASSUME " + ands + "#" + closes + ";", "0");
        wrong("ASSUME &(#," + ands + "#)" + closes + ";", 0, 7 + 39 * 4 + 2);
    }

    private static void whatIsWrongDoesNothing() {
        Bench bench = new Bench();
        bench.checkWrong("SORT a;SORT b", 1, 13);
        bench.check("SORT b;SORT a;", "0 1");
        Bench.due("refusals(0)", bench.object.refusals(0), 2);
        Bench.due("refusals(1)", bench.object.refusals(1), 1);
        bench.checkWrong("ASSUME #;ASSUME # #;ASSUME #;", 1, 18);
        Bench.due("steps", bench.object.steps(), 1);
        Bench.due("run() of nothing", bench.object.run(), 0);
        Bench.due("wrong() is of the latest run()", bench.object.wrong(), -1);
        Bench.due("outputs() is of the latest run()", bench.object.outputs(), 0);
        Bench.due("steps stay", bench.object.steps(), 1);
    }

    private static void everyByte() {
        Bench.sentence("A BLANK is 32 or 10. A byte with which no TOKEN begins is WRONG");
        for (int b = 0; b < 256; b++) {
            char c = (char) b;
            boolean blank = b == 32 || b == 10;
            wrong("" + c, 0, blank ? -1 : 0);
            boolean inName = c >= 'a' && c <= 'z' || c >= '0' && c <= '9';
            // Within a NAME, behind it, and between two STATEMENTS.
            wrong("SORT a" + c + ";", c == ';' || blank || inName ? 1 : 0, blank || inName ? -1 : c == ';' ? 7 : 6);
            wrong("SORT a;" + c + "SORT b;", blank ? 2 : 1, blank ? -1 : 7);
            wrong("SORT" + c + "a;", blank || c >= 'a' && c <= 'z' ? 1 : 0, blank || c >= 'a' && c <= 'z' ? -1 : c >= 'A' && c <= 'Z' ? 0 : 4);
        }
    }

    private static void longNames() {
        Bench.sentence("NAMES: 12 bytes at most; the first one of a NAME of more bytes is WRONG");
        String letters = "abcdefghijklmnopqrstuvwxyz0123456789";
        for (int size = 1; size <= 36; size++) {
            String name = letters.substring(0, size);
            wrong("SORT  " + name + ";", size <= 12 ? 1 : 0, size <= 12 ? -1 : 6);
            wrong("ASSUME p(0, " + name + ");", size <= 12 ? 1 : 0, size <= 12 ? -1 : 12);
            wrong("REL p(num," + name + ");", size <= 12 ? 1 : 0, size <= 12 ? -1 : 10);
        }
        wrong("SORT " + Bench.repeat("a", 3000) + ";", 0, 5);
        // Each of the twelve bytes tells NAMES apart.
        StringBuilder text = new StringBuilder("SORT aaaaaaaaaaaa;VAR aaaaaaaaaaa num;");
        StringBuilder due = new StringBuilder("0 0");
        for (int k = 0; k < 12; k++) {
            text.append("VAR ").append("aaaaaaaaaaaa", 0, k).append('b').append("aaaaaaaaaaaa", k + 1, 12).append(" num;");
            due.append(" 0");
        }
        text.append("VAR aaaaaaaaaaaa num;VAR a9 num;VAR a0 num;VAR z num;VAR zz num;VAR z9 num;VAR z9 num;VAR zzzzzzzzzzzz num;VAR z99999999999 num;");
        new Bench().check(text.toString(), due + " 1 0 0 0 0 0 1 0 0");
    }

    private static void longNumbers() {
        Bench.sentence("NUMBERS: 6 digits at most; a - without a digit, or the first byte of a NUMBER of more digits, is WRONG");
        for (int size = 1; size <= 20; size++) {
            String digits = Bench.repeat("0", size - 1) + "7";
            for (String sign : new String[] {"", "-"}) {
                wrong("COUNT " + sign + digits + ";", size <= 6 ? 1 : 0, size <= 6 ? -1 : 6);
                wrong("SHOW  " + sign + digits + ";", size <= 6 ? 1 : 0, size <= 6 ? -1 : 6);
                wrong("SAME " + sign + digits + ";", size <= 6 ? 1 : 0, size <= 6 ? -1 : 5);
                wrong("HOLDS r(" + sign + digits + ");", size <= 6 ? 1 : 0, size <= 6 ? -1 : 8);
                wrong("SEARCH # 0 " + sign + digits + ";", size <= 6 ? 1 : 0, size <= 6 ? -1 : 11);
            }
        }
        wrong("COUNT " + Bench.repeat("9", 3000) + ";", 0, 6);
        wrong("COUNT -", 0, 6);
        wrong("SHOW -;", 0, 5);
        wrong("SHOW -x;", 0, 5);
        wrong("SAME next(-);", 0, 10);
        wrong("SEARCH # 0 -;", 0, 11);
        wrong("HOLDS r(0,-);", 0, 10);
        wrong("-", 0, 0);
    }

    private static void asLongAsItCanBe() {
        Bench.sentence("Each is as long as it can be");
        wrong("SORTSORT a;", 0, 0);
        wrong("PROOFPROOF;", 0, 0);
        wrong("PROOF;PROOFS;", 1, 6);
        wrong("SORT a 1;", 0, 7);
        wrong("SORT a1 ;", 1, -1);
        wrong("SORT a A;", 0, 7);
        wrong("SORT aA;", 0, 6);
        wrong("COUNT 12 34;", 0, 9);
        wrong("COUNT 12-34;", 0, 8);
        new Bench().check("ASSUME #;FROM 0-0;FROM0 0;BOTH 0-1;BOTH-0-0;SEARCH#0-0 0;", "0 [#] [#] 9 0 0");
        wrong("VARx num;VARx1num;", 1, 17);
    }

    private static final String[] ALL = {"SORT n ;", "FUN n ( num , num ) num ;", "FUN n ( ) num ;", "REL n ( num ) ;", "REL n ( ) ;",
        "VAR n num ;", "AXIOM n # ;", "DEFINE n ( v , w ) & ( # , # ) ;", "DEFINE n ( ) # ;", "PROOF ;", "THEOREM n ;", "SHOW 0 ;", "FROM 0 0 ;",
        "TELL n ;", "ALIKE 0 # ;", "PUT # v 0 ;", "SIZE num 1 ;", "ZERO 0 ;", "VALUE f ( 0 , 0 ) 0 ;", "VALUE f ( ) 0 ;", "HOLDS r ( 0 , 0 ) ;",
        "HOLDS r ( ) ;", "LACKS r ( 0 ) ;", "LACKS r ( ) ;", "JUDGE = ( 0 , 0 ) ;", "ASSUME > ( # , | ( # , # ) ) ;", "BOTH 0 0 ;", "LEFT 0 ;",
        "RIGHT 0 ;", "FIRST 0 # ;", "SECOND 0 # ;", "CASE 0 0 0 ;", "APPLY 0 0 ;", "DISCHARGE 0 ! v # ;", "GENERALISE 0 v ;",
        "SPECIALISE 0 f ( 0 , f ( 0 , x ) ) ;", "WITNESS 0 0 ? v # ;", "OPEN 0 0 v ;", "SAME 0 ;", "REPLACE 0 0 v # ;", "ABSURD 0 # ;",
        "INDUCTION 0 0 v # ;", "COUNT 0 ;", "USE n ;", "SEARCH # ;", "SEARCH # 0 ;", "SEARCH # 0 0 0 0 ;", "SEARCH # 0 0 0 0 0 0 0 0 ;"};

    private static void everyStatement() {
        Bench.sentence("up to the first byte of the first TOKEN with which no STATEMENT could go on (at the end: the TAPE's length)");
        for (String statement : ALL) {
            String[] tokens = statement.split(" ");
            wrong(statement, 1, -1);
            wrong(statement.replace(" ", "\n  "), 1, -1);
            for (int k = 0; k < tokens.length; k++) {
                String before = "";
                for (int i = 0; i < k; i++) {
                    before += tokens[i] + " ";
                }
                String behind = "";
                for (int i = k + 1; i < tokens.length; i++) {
                    behind += " " + tokens[i];
                }
                // Cut there; then something in its place with which nothing goes on.
                wrong("PROOF;" + before, 1, k == 0 ? -1 : 6 + before.length());
                for (String other : k == 0 ? new String[] {"n", "0", ";", "(", "#", "SORTS", "-", "*"} : new String[] {"SORT", "-", "*", "?1", "&&"}) {
                    int at = 6 + before.length() + (other.length() > 1 && !other.startsWith("S") && goesOn(before, other) ? 1 : 0);
                    wrong("PROOF;" + before + other + behind, 1, at);
                }
            }
            wrong(statement.substring(0, statement.length() - 1) + "#;", 0, statement.length() - 1);
            wrong(statement.substring(0, statement.length() - 1) + ",;", 0, statement.length() - 1);
            wrong(statement.substring(0, statement.length() - 1) + ");", 0, statement.length() - 1);
            wrong(statement + ";", 1, statement.length());
        }
    }

    // ?1 and && are WRONG at their second sign where a THING may stand.
    private static boolean goesOn(String before, String other) {
        Bench bench = new Bench().feed(before + other.charAt(0));
        bench.object.run();
        return bench.object.wrong() == before.length() + 1;
    }

    private static void everyWayDown() {
        Bench.sentence("A THING within 40 others, one in the other, is WRONG (at its first byte)");
        String[][] ways = {{"next(", ")"}, {"f(0,", ")"}, {"f(", ",0)"}, {"f(0,x,", ")"}, {"f(0,", ",x)"}, {"=(", ",0)"}, {"=(0,", ")"}, {"&(", ",#)"},
            {"&(#,", ")"}, {"|(", ",#)"}, {"|(#,", ")"}, {">(", ",#)"}, {">(#,", ")"}, {"!x ", ""}, {"?x ", ""}, {"! x\n", ""}};
        String[] leaves = {"0", "#", "x", "f(0)", "=(0,0)", "!x#", "-5", "?x?x#"};
        for (String[] way : ways) {
            for (String leaf : leaves) {
                boolean parts = leaf.length() > 2;
                String near = Bench.repeat(way[0], parts ? 38 : 39);
                String closes = Bench.repeat(way[1], parts ? 38 : 39);
                int whole = leaf.equals("?x?x#") ? 0 : 1;
                wrong("SAME " + near + leaf + closes + ";", whole, whole == 1 ? -1 : 5 + near.length() + 4);
                // The first THING that is too deep may stand beside the one that goes on.
                int first = way[0].indexOf('(') < 0 ? way[0].length() : way[0].indexOf('(') + 1;
                int at = near.length() + (parts ? way[0].length() + 2 : first);
                wrong("SAME " + way[0] + near + leaf + closes + way[1] + ";", 0, 5 + at);
                wrong("PROOF;AXIOM a " + way[0] + near + leaf, 1, 14 + at);
            }
        }
        // It is one in the other that counts, not one beside the other; and each THING of a STATEMENT begins anew.
        String most = Bench.repeat("&(#,", 39) + "#" + Bench.repeat(")", 39);
        String more = Bench.repeat("&(#,", 40) + "#" + Bench.repeat(")", 40);
        int at = Bench.repeat("&(#,", 39).length() + 2;
        wrong("ALIKE " + most + most + ";ALIKE " + most + " " + more + ";", 1, 7 + 2 * most.length() + 7 + most.length() + at);
        wrong("ALIKE " + more + most + ";", 0, 6 + at);
        wrong("PUT " + most + "x " + most + ";PUT # x " + more + ";", 1, 4 + 2 * most.length() + 3 + 8 + at);
        wrong("WITNESS 0 " + most + most + ";", 1, -1);
        wrong("SEARCH " + most + " 0;SEARCH " + more + " 0;", 1, 7 + most.length() + 3 + 7 + at);
        String alls = Bench.repeat("!x ", 38);
        wrong("ASSUME " + alls + "f(0,0,0,x,y,z,0,0,0,0);ASSUME " + alls + "!x f(0,0);", 1, 7 + 114 + 23 + 7 + 114 + 5);
    }

    private static void rows() {
        Bench.sentence("NAMES: ( ), or ( NAMES with , between ); NUMBERS likewise. THINGS with , between");
        wrong("REL p( );REL q(a);REL r(a,b);REL s(a,b,c,d,e,f,g,h);", 4, -1);
        wrong("HOLDS p( );HOLDS q(0);HOLDS r(0,-1);HOLDS s(0,1,2,3,4,5,6,7);", 4, -1);
        wrong("REL p(a,,b);", 0, 8);
        wrong("REL p(a;", 0, 7);
        wrong("REL p(a(b));", 0, 7);
        wrong("REL p(;", 0, 6);
        wrong("REL p);", 0, 5);
        wrong("HOLDS p(0,,0);", 0, 10);
        wrong("HOLDS p(0,);", 0, 10);
        wrong("HOLDS p(,);", 0, 8);
        wrong("HOLDS p(0 0);", 0, 10);
        wrong("HOLDS p(a);", 0, 8);
        wrong("HOLDS p(0;", 0, 9);
        wrong("REL p(0);", 0, 6);
        wrong("ASSUME p( );", 0, 10);
        wrong("ASSUME p(x,,y);", 0, 11);
        wrong("ASSUME &();", 0, 9);
        wrong("ASSUME &(#);", 0, 10);
        wrong("ASSUME &(#,#,#);", 0, 12);
        wrong("ASSUME &(#,);", 0, 11);
        wrong("ASSUME p(0,1,2,3,4,5,6,7,8,9);", 1, -1);
    }

    private static void theTapesLength() {
        Bench.sentence("at the end: the TAPE's length");
        wrong("", 0, -1);
        wrong(" \n ", 0, -1);
        wrong("SORT a;", 1, -1);
        wrong("SORT a; \n", 1, -1);
        wrong("SORT a; SORT", 1, 12);
        wrong("SORT a; SORT ", 1, 13);
        wrong("SORT a" + Bench.repeat(" ", 3994), 0, 4000);
        wrong("SORT a" + Bench.repeat(" ", 3993) + ";", 1, -1);
        wrong(Bench.repeat("USEa;", 800), 800, -1);
        wrong(Bench.repeat("USEa;", 799) + "USEa", 799, 3999);
        wrong(Bench.repeat("USEa;", 799) + "USEa*", 799, 3999);
        wrong("ASSUME " + Bench.repeat("&(#,", 30), 0, 7 + 120);
        wrong("ASSUME " + Bench.repeat("p(", 1), 0, 9);
    }

    private static void notWhole() {
        Bench.sentence("a STATEMENT that is not whole does nothing");
        String start = "SORT box;VAR x num;VAR y num;REL p(num);FUN c() num;AXIOM a !x p(x);SIZE num 2;VALUE c() 1;HOLDS p(1);ASSUME p(x);SAME 0;";
        String asked = "JUDGE p(c);JUDGE p(0);JUDGE =(c,0);TELL a;SHOW 0;SHOW 1;SHOW 2;SORT bag;";
        String[] all = {"SORT bag", "FUN f() num", "REL bag()", "VAR bag num", "AXIOM bag #", "DEFINE bag(x) p(x)", "PROOF", "THEOREM bag",
            "SIZE box 1", "SIZE num 2", "ZERO 1", "VALUE c() 0", "HOLDS p(0)", "LACKS p(1)", "ASSUME #", "COUNT 1", "USE a", "SAME 1", "SEARCH >(#,#)"};
        for (String one : all) {
            for (String end : new String[] {"", " ", " *", " SORT", ",", "(0 0;", " - ;", ") ;"}) {
                Bench bench = new Bench();
                bench.run(start);
                bench.feed(one + end);
                Bench.due("run() of " + one + end, bench.object.run(), 0);
                Bench.due("outputs() of " + one + end, bench.object.outputs(), 0);
                Bench.due("steps() behind " + one + end, bench.object.steps(), 2);
                Bench.due("facts() behind " + one + end, bench.object.facts(), 1);
                Bench.due("refusals(0) behind " + one + end, bench.object.refusals(0), 11);
                bench.check(asked, "[1] [0] [0] [!x p(x)] [p(x)] [=(0,0)] 9 0");
            }
        }
        // Nor does what stands behind it, be it whole or not.
        Bench bench = new Bench();
        bench.checkWrong("SORT a;SORT b*;SORT c;SORT d;", 1, 13);
        bench.check("SORT b;SORT c;SORT d;SORT a;", "0 0 0 1");
    }
}

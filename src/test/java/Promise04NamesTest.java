/** Promise 4, NAMES: how many there may be, TERMS and FORMULAS, and the order in which they are REFUSED. */
public final class Promise04NamesTest {
    private static final String START = "SORT box;VAR x num;VAR b box;FUN f(num) num;FUN g(num,box) box;FUN c() box;"
            + "REL p(num);REL q();REL r(num,box);REL s(box,box,box);AXIOM ax #;";
    private static final String STARTED = "0 0 0 0 0 0 0 0 0 0 0";

    public static void main(String[] args) {
        told();
        limits();
        terms();
        order();
        places();
        eachKindIsFull();
        definedOnes();
        fullIsLast();
        parts();
        numerals();
        fourHundred();
        Bench.done();
    }

    private static void refused(String statements, String whys) {
        new Bench().check(START + statements, STARTED + " " + whys);
    }

    private static void told() {
        // 1: known already, whatever its kind.
        refused("SORT box;SORT x;SORT f;SORT p;SORT ax;SORT num;SORT next;", "1 1 1 1 1 1 1");
        refused("VAR box num;FUN x() num;REL f();AXIOM p #;DEFINE q() #;THEOREM ax;", "1 1 1 1 1 1");
        // 1: not known; 2: another kind.
        refused("VAR y no;VAR y x;VAR y f;VAR y p;VAR y ax;", "1 2 2 2 2");
        refused("FUN h(no) num;FUN h(x) num;FUN h() no;FUN h() q;FUN h(num,no,x) num;FUN h(num,x,no) num;", "1 2 1 2 1 2");
        refused("REL h(no);REL h(f);REL h(h);VAR h h;FUN h() h;", "1 2 1 1 1");
        // 3 of a row comes first; n comes ahead of it, s behind.
        refused("REL h(no,no,no,no);FUN h(no,no,no,no) no;REL h(num,num,num,num);FUN q(num,num,num,num) num;", "3 3 3 1");
        refused("FUN h(box,box,box) no;REL h(box,box,box);REL h();", "1 0 1");
    }

    private static void limits() {
        StringBuilder text = new StringBuilder();
        StringBuilder due = new StringBuilder();
        many(text, due, "SORT s", ";", 5);
        many(text, due, "FUN f", "(num) s0;", 19);
        many(text, due, "REL r", "(s0,num);", 20);
        many(text, due, "VAR v", " num;", 30);
        new Bench().check(text.toString(), due.toString().trim());
        // A DEFINE is a REL and a FACT.
        StringBuilder facts = new StringBuilder();
        StringBuilder told = new StringBuilder();
        many(facts, told, "DEFINE d", "() #;", 20);
        facts.append("REL r();");
        told.append(" 8");
        for (int k = 0; k < 20; k++) {
            facts.append("AXIOM a").append(k).append(" #;");
            told.append(" 0");
        }
        facts.append("AXIOM b #;SEARCH >(#,#);THEOREM t;AXIOM b p;USE a19;SHOW 1;");
        told.append(" 8 0 8 1 0 [#]");
        Bench bench = new Bench().check(facts.toString(), told.toString().trim());
        Bench.due("facts", bench.object.facts(), 40);
        // FULL comes last, and what is FULL is not known.
        StringBuilder rels = new StringBuilder();
        StringBuilder was = new StringBuilder();
        many(rels, was, "AXIOM a", " #;", 40);
        rels.append("DEFINE d() #;DEFINE d() x;USE d;ASSUME d;");
        was.append(" 8 1 1 1");
        new Bench().check(rels.toString(), was.toString().trim());
    }

    private static void many(StringBuilder text, StringBuilder due, String front, String back, int most) {
        for (int k = 0; k <= most; k++) {
            text.append(front).append(k).append(back);
            due.append(k < most ? " 0" : " 8");
        }
    }

    private static void terms() {
        refused("ASSUME p(x);ASSUME p(f(f(x)));ASSUME p(0);ASSUME p(99999);ASSUME q;ASSUME r(1,c);ASSUME s(b,c,g(x,b));",
                "0 0 0 0 0 0 0");
        refused("ASSUME =(x,0);ASSUME =(b,c);ASSUME &(q,#);ASSUME |(q,q);ASSUME >(q,q);ASSUME !x p(x);ASSUME ?b r(0,b);",
                "0 0 0 0 0 0 0");
        refused("ASSUME no;ASSUME no(x);ASSUME box;ASSUME box(x);ASSUME ax;ASSUME num;", "1 1 2 2 2 2");
        refused("ASSUME p;ASSUME p(x,x);ASSUME q(x);ASSUME p(f);ASSUME p(x(x));ASSUME =(c(x),b);ASSUME r(x);", "3 3 3 3 3 3 3");
        refused("ASSUME x;ASSUME 0;ASSUME f(x);SAME q;SAME #;SAME !x q;ASSUME p(q);ASSUME p(#);ASSUME &(x,q);ASSUME &(q,x);",
                "4 4 4 4 4 4 4 4 4 4");
        refused("ASSUME !x x;ASSUME ?x 0;ASSUME =(q,x);ASSUME =(x,q);ASSUME >(#,c);ASSUME |(0,#);", "4 4 4 4 4 4");
        refused("ALIKE !x 0 0;ALIKE =(!x 0,0) 0;ALIKE &(0,#) #;ALIKE p(#) #;", "4 4 4 4");
        refused("ASSUME p(b);ASSUME r(b,b);ASSUME r(x,x);ASSUME =(x,b);ASSUME =(b,0);ASSUME p(c);SAME f(b);", "5 5 5 5 5 5 5");
        refused("ASSUME p(-1);ASSUME p(100000);ASSUME =(0,-1);SAME 999999;SAME -0;SHOW 0;", "7 7 7 7 0 [=(0,0)]");
        refused("ASSUME !no q;ASSUME !box q;ASSUME !f q;ASSUME ?ax q;ASSUME ?q q;", "1 2 2 2 2");
        // Digits are a NUMERAL: it has no other form.
        refused("SAME 00042;SHOW 0;ALIKE 007 7;", "0 [=(42,42)] [1]");
    }

    private static void order() {
        // Parts come ahead of the NAME, the NAME behind ! ahead of its part.
        refused("ASSUME no(-1);ASSUME no(box);ASSUME p(no,100000);ASSUME !no box;ASSUME !box no;ASSUME !x no;", "7 2 1 1 2 1");
        refused("ASSUME p(q,x);ASSUME p(b,x);ASSUME r(q,x);ASSUME r(b,q);ASSUME r(x,q);ASSUME s(b,x,q);ASSUME s(b,q,x);",
                "3 3 4 5 4 5 4");
        refused("ASSUME &(p(b),no);ASSUME &(no,p(b));ASSUME =(p(b),q);ASSUME &(x,-1);", "5 1 5 7");
        // STATEMENTS: operands as they stand, then steps.
        refused("AXIOM no2 no;AXIOM ax no;AXIOM n3 x;THEOREM ax;THEOREM n3;", "1 1 4 1 9");
        refused("FIRST 7 no;FIRST 7 x;FIRST 7 q;BOTH 7 8;CASE 0 0 0;GENERALISE 7 no;GENERALISE 7 f;GENERALISE 7 x;",
                "1 4 9 9 9 1 2 9");
        refused("WITNESS 7 no x;WITNESS 7 q no;WITNESS 7 x x;WITNESS 7 x q;WITNESS 7 x -1;", "1 4 4 9 7");
        refused("REPLACE 7 8 no no;REPLACE 7 8 q no;REPLACE 7 8 x no;REPLACE 7 8 x x;REPLACE 7 8 x q;", "1 2 1 4 9");
        // That v is of SORT num hangs on no step.
        refused("INDUCTION 7 8 b no;INDUCTION 7 8 q no;INDUCTION 7 8 x no;INDUCTION 7 8 b q;INDUCTION 7 8 x q;", "5 2 1 5 9");
        refused("PUT x b no;PUT q no no;PUT q f no;PUT q x no;PUT q x q;PUT q x b;PUT q b x;PUT q x 0;", "4 1 2 1 4 5 5 [q]");
        refused("ALIKE no x;ALIKE x no;ALIKE x q;ALIKE q q;ALIKE x x;", "1 1 [0] [1] [1]");
        refused("SHOW 0;SHOW -1;FROM 0 0;FROM -1 -1;TELL no;TELL q;USE no;USE x;", "9 9 9 9 1 2 1 2");
        refused("SEARCH no 1 2 3 4 5;SEARCH x 1 2 3 4 5;SEARCH q 1 2 3 4 5;SEARCH q 1 2 3 4;", "1 4 3 9");
        refused("COUNT -1;COUNT 99999;COUNT 99998;SHOW 0;COUNT 0;SHOW 1;", "7 7 0 [=(next(99998),99999)] 0 [=(next(0),1)]");
        refused("DEFINE ax(no) no;DEFINE d(no,no) no;DEFINE d(no,x,b,x) no;DEFINE d(x,no,f) no;DEFINE d(x,f,no) no;", "1 3 3 1 2");
        refused("DEFINE d(x) no;DEFINE d(x) x;DEFINE d(x) d(x);DEFINE d(x) r(x,b);DEFINE d(x,b) r(x,b);", "1 4 1 12 0");
    }

    private static void places() {
        // 400 PLACES are not too many, 401 are; a NAME behind ! is none.
        StringBuilder text = new StringBuilder("REL t(num,num,num);REL u(num);");
        String five = "t(0,0,0)";
        String wide = "&(&(" + five + "," + five + "),&(" + five + "," + five + "))";
        String more = "&(&(" + wide + "," + wide + "),&(" + wide + "," + wide + "))";
        Bench.due("79 PLACES", places(more), 79);
        String great = "&(&(" + more + "," + more + "),&(" + more + "," + more + "))";
        Bench.due("319 PLACES", places(great), 319);
        String whole = "&(" + great + "," + more + ")";
        Bench.due("399 PLACES", places(whole), 399);
        text.append("VAR x num;ASSUME !x ").append(whole).append(";ASSUME !x !x ").append(whole).append(";");
        new Bench().check(text.toString(), "0 0 0 0 6");
        // 6 comes behind 1 to 5 of itself, and ahead of what stands behind it.
        String most = "!x " + whole;
        String start = "REL t(num,num,num);REL u(num);VAR x num;";
        new Bench().check(start + "ASSUME u(" + most + ");", "0 0 0 4");
        new Bench().check(start + "ASSUME &(" + most + ",no);", "0 0 0 1");
        new Bench().check(start + "ASSUME &(!x " + most + ",no);", "0 0 0 6");
        new Bench().check(start + "SAME " + most + ";SAME !x " + "#;", "0 0 0 4 4");
        new Bench().check(start + "SAME !x " + most + ";", "0 0 0 6");
        // Parts without end are looked at, and then are too many.
        new Bench().check(start + "ASSUME u(" + Bench.repeat("0,", 600) + "0);", "0 0 0 3");
        new Bench().check(start + "ASSUME u(" + Bench.repeat("0,", 600) + "no);", "0 0 0 1");
        new Bench().check(start + "ASSUME no(" + Bench.repeat("0,", 600) + "0);", "0 0 0 1");
    }

    private static int places(String text) {
        int all = 0;
        for (char c : text.toCharArray()) {
            all += c == '&' || c == 't' || c == '0' ? 1 : 0;
        }
        return all;
    }

    private static void eachKindIsFull() {
        Bench.sentence("At most 6 SORTS (num counted), 20 FUNS (next counted), 20 RELS, 30 VARIABLES, 40 FACTS: 8");
        String[] fronts = {"SORT s", "FUN f", "REL r", "VAR v", "AXIOM a"};
        String[] backs = {";", "() num;", "();", " num;", " #;"};
        int[] most = {5, 19, 20, 30, 40};
        for (int kind = 0; kind < 5; kind++) {
            StringBuilder text = new StringBuilder();
            StringBuilder due = new StringBuilder();
            many(text, due, fronts[kind], backs[kind], most[kind]);
            // What was FULL is not known, all that came before is; and other kinds have room.
            String last = fronts[kind].replaceAll("[A-Z ]", "") + most[kind];
            text.append(fronts[kind]).append(most[kind]).append(backs[kind]).append("ALIKE ").append(last).append(" 0;");
            due.append(" 8 1");
            text.append(fronts[kind]).append(most[kind] - 1).append(backs[kind]).append("TELL ").append(fronts[kind].replaceAll("[A-Z ]", "")).append("0;");
            due.append(kind == 4 ? " 1 [#]" : " 1 2");
            for (int other = 0; other < 5; other++) {
                text.append(fronts[other]).append("x").append(backs[other]);
                due.append(other == kind ? " 8" : " 0");
            }
            new Bench().check(text.toString(), due.toString().trim());
        }
    }

    private static void definedOnes() {
        Bench.sentence("20 RELS (defined ones, too), 40 FACTS");
        StringBuilder text = new StringBuilder();
        StringBuilder due = new StringBuilder();
        many(text, due, "REL r", "();", 20);
        Bench bench = new Bench().check(text.toString(), due.toString().trim());
        bench.check("DEFINE d() #;USE d;ASSUME d;DEFINE d() #;", "8 1 1 8");
        Bench.due("facts", bench.object.facts(), 0);
        Bench nineteen = new Bench();
        nineteen.run(text.toString().replace("REL r19();REL r20();", ""));
        nineteen.check("DEFINE d() #;DEFINE e() #;REL e();TELL d;", "0 8 8 [&(>(d,#),>(#,d))]");
        Bench.due("facts", nineteen.object.facts(), 1);
        // With 39 FACTS there is room for one more, be it an AXIOM, a DEFINE or a THEOREM.
        StringBuilder axioms = new StringBuilder("SEARCH >(#,#);");
        for (int k = 0; k < 39; k++) {
            axioms.append("AXIOM a").append(k).append(" #;");
        }
        for (String one : new String[] {"AXIOM n #;", "DEFINE n() #;", "THEOREM n;"}) {
            Bench full = new Bench();
            full.run(axioms.toString());
            Bench.due("facts", full.object.facts(), 39);
            full.check(one + "AXIOM m #;DEFINE m() #;THEOREM m;USE m;REL m();USE n;", "0 8 8 8 1 0 0");
            Bench.due("facts", full.object.facts(), 40);
        }
        // A DEFINE that is FULL of FACTS has told no REL.
        Bench full = new Bench();
        full.run(axioms.toString());
        full.check("AXIOM n #;DEFINE m() #;ASSUME m;HOLDS m();", "0 8 1 1");
        full.check(text.toString().replace("REL r20();", ""), due.substring(0, due.length() - 2).trim());
        full.check("REL m();", "8");
    }

    private static void fullIsLast() {
        Bench.sentence("then 8, last: where all is FULL, 1 to 5 come first");
        StringBuilder text = new StringBuilder();
        StringBuilder due = new StringBuilder();
        many(text, due, "SORT s", ";", 5);
        many(text, due, "FUN f", "(num) num;", 19);
        many(text, due, "REL r", "(num);", 20);
        many(text, due, "VAR v", " num;", 30);
        Bench bench = new Bench().check(text.toString(), due.toString().trim());
        bench.check("SORT num;SORT f0;SORT m;", "1 1 8");
        bench.check("FUN num() num;FUN m(no) num;FUN m(v0) num;FUN m(no,no,no,no) num;FUN m() no;FUN m() v0;FUN m() num;", "1 1 2 3 1 2 8");
        bench.check("REL num();REL m(no);REL m(f0);REL m(num,num,num,num);REL m();", "1 1 2 3 8");
        bench.check("VAR num num;VAR m no;VAR m f0;VAR m num;", "1 1 2 8");
        bench.check("DEFINE num() #;DEFINE m(v0,v0) #;DEFINE m(no) #;DEFINE m(f0) #;DEFINE m() no;DEFINE m() 0;DEFINE m() r0(v0);DEFINE m(v1) r0(v0);DEFINE m(v0) r0(v0);",
                "1 3 1 2 1 4 12 12 8");
    }

    private static void parts() {
        Bench.sentence("FUNS and RELS have 0 to 3 parts (3)");
        String[] rows = {"()", "(num)", "(num,num)", "(num,num,num)", "(num,num,num,num)", "(num,num,num,num,num)"};
        String[] vars = {"()", "(x)", "(x,y)", "(x,y,z)", "(x,y,z,w)", "(x,y,z,w,v)"};
        String[] things = {"", "(0)", "(0,1)", "(0,1,2)", "(0,1,2,3)", "(0,1,2,3,4)"};
        String[] numbers = {"()", "(0)", "(0,0)", "(0,0,0)", "(0,0,0,0)", "(0,0,0,0,0)"};
        for (int k = 0; k < 6; k++) {
            String why = k <= 3 ? "0" : "3";
            Bench bench = new Bench();
            bench.check("VAR x num;VAR y num;VAR z num;VAR w num;VAR v num;FUN f" + rows[k] + " num;REL r" + rows[k] + ";DEFINE d" + vars[k] + " #;",
                    "0 0 0 0 0 " + why + " " + why + " " + why);
            for (int i = 0; k <= 3 && i < 6; i++) {
                String used = i == k ? "0" : "3";
                bench.check("SAME f" + things[i] + ";ASSUME r" + things[i] + ";ASSUME d" + things[i] + ";VALUE f" + numbers[i] + " 0;HOLDS r" + numbers[i]
                        + ";LACKS d" + numbers[i] + ";", (used + " ").repeat(6).trim());
            }
        }
        Bench.sentence("or (of DEFINE) two of the same NAME");
        new Bench().check("VAR x num;VAR y num;VAR z num;DEFINE d(x,x) #;DEFINE d(x,y,x) #;DEFINE d(y,x,x) #;DEFINE d(x,x,y) #;DEFINE d(no,no) #;DEFINE d(x,y,z) #;",
                "0 0 0 3 3 3 3 3 0");
        // Two of the same SORT are no fault of FUN and REL.
        new Bench().check("FUN f(num,num,num) num;REL r(num,num,num);", "0 0");
    }

    private static void numerals() {
        Bench.sentence("a NUMERAL, 0 to 99999 (7), of SORT num");
        new Bench().check("SAME 0;SAME 99999;SAME -1;SAME 100000;SAME 999999;SAME -999999;SAME -0;SAME 099999;SAME 000000;", "0 0 7 7 7 7 0 0 0");
        new Bench().check("SORT box;REL p(num);REL r(box);ASSUME p(99999);ASSUME p(100000);ASSUME p(-1);ASSUME r(0);ASSUME r(100000);ASSUME r(-1);ASSUME 5;",
                "0 0 0 0 7 7 5 7 7 4");
        new Bench().check("SAME 1;SAME 12;SAME 123;SAME 1234;SAME 12345;SHOW 0;SHOW 1;SHOW 2;SHOW 3;SHOW 4;SAME 99999;SHOW 5;SAME 10000;SHOW 6;",
                "0 0 0 0 0 [=(1,1)] [=(12,12)] [=(123,123)] [=(1234,1234)] [=(12345,12345)] 0 [=(99999,99999)] 0 [=(10000,10000)]");
    }

    private static String term(int places) {
        if (places <= 2) {
            return places == 1 ? "0" : "next(0)";
        }
        int left = (places - 1) / 2;
        return "g(" + term(left) + "," + term(places - 1 - left) + ")";
    }

    private static void fourHundred() {
        Bench.sentence("then 6: it has more than 400 PLACES (it and all its parts; a NAME behind ! or ? is none)");
        String start = "VAR x num;FUN g(num,num) num;FUN h(num,num,num) num;REL p(num);REL e(num,num);REL u(num,num,num);";
        String started = "0 0 0 0 0 0 ";
        for (int extra = 0; extra < 2; extra++) {
            String last = term(133 + extra);
            String half = term(200 + extra);
            String[] all = {"next(" + term(399 + extra) + ")", "g(" + term(199) + "," + half + ")", "g(" + half + "," + term(199) + ")",
                "h(" + term(133) + "," + term(133) + "," + last + ")", "h(" + last + "," + term(133) + "," + term(133) + ")", "p(" + term(399 + extra) + ")",
                "e(" + half + "," + term(199) + ")", "u(" + term(133) + "," + last + "," + term(133) + ")", "=(" + term(199) + "," + half + ")",
                "&(" + Bench.wide(199) + "," + Bench.wide(200 + extra) + ")", "|(" + Bench.wide(200 + extra) + "," + Bench.wide(199) + ")",
                ">(" + Bench.wide(199) + "," + Bench.wide(200 + extra) + ")", "!x " + Bench.wide(399 + extra), "?x " + Bench.wide(399 + extra)};
            for (String thing : all) {
                new Bench().check(start + "ALIKE " + thing + " x;ALIKE x " + thing + ";", started + (extra == 0 ? "[0] [0]" : "6 6"));
            }
        }
        // A part that is too GREAT is REFUSED ahead of what stands behind it, the whole one behind all its parts.
        new Bench().check(start + "ALIKE &(" + Bench.wide(401) + ",no) x;", started + "6");
        new Bench().check(start + "ALIKE &(" + Bench.wide(400) + ",no) x;", started + "1");
        new Bench().check(start + "ALIKE &(" + Bench.wide(400) + ",x) x;", started + "4");
        new Bench().check(start + "ALIKE &(" + Bench.wide(400) + ",#) x;", started + "6");
        new Bench().check(start + "ALIKE no(" + Bench.wide(400) + ",#) x;", started + "1");
        new Bench().check(start + "ALIKE x(" + term(400) + ") x;ALIKE p(" + term(400) + ") no;", started + "3 6");
        new Bench().check(start + "ALIKE e(" + term(400) + ",#) x;ALIKE e(" + term(400) + ",0) x;", started + "4 6");
        // Many parts beyond 400 of a NAME that has fewer are too many parts.
        new Bench().check(start + "ALIKE p(" + Bench.repeat("0,", 450) + "0) x;ALIKE no(" + Bench.repeat("0,", 450) + "0) x;", started + "3 1");
    }
}

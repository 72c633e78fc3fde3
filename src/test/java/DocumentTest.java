import java.io.IOException;
import java.lang.reflect.Modifier;
import java.nio.file.Files;
import java.nio.file.Path;
import java.util.Arrays;
import java.util.Set;
import java.util.TreeSet;
import java.util.regex.Matcher;
import java.util.regex.Pattern;

/**
 * Goes through the document from its first line to its last one: each sentence is quoted as it stands there, one behind
 * the other with none left out, and followed by calls that would answer otherwise if it did not hold.
 */
public final class DocumentTest {
    private static final Path DOCUMENT = Path.of("../shared/DOC.md");
    private static final String START = "SORT box;VAR x num;VAR y num;VAR z num;VAR b box;VAR d box;FUN f(num,num) num;FUN c() box;"
            + "REL p(num);REL e(num,num);REL r(box);REL q();REL o();AXIOM ax q;";
    private static final long BLANKS = 0x2020202020202020L;

    private static String document = "";
    private static int at = 0;
    private static int checked = 0;
    private static String latest = "";

    public static void main(String[] args) throws IOException {
        if (Files.exists(DOCUMENT)) {
            document = Files.readString(DOCUMENT).replace("&amp;", "&").replace("&gt;", ">").replace("&lt;", "<").replaceAll("\\s+", " ").trim();
        } else {
            System.out.println("there is no " + DOCUMENT + ": the quotes are not held against it");
        }
        whatItIs();
        face();
        tokens();
        things();
        statements();
        whys();
        lookedAt();
        names();
        termsAndFormulas();
        freeAndAlike();
        put();
        stepsAtAll();
        rulesOfSigns();
        rulesOfVariables();
        rulesOfEquality();
        search();
        facts();
        models();
        telling();
        promises1to7();
        promises8to13();
        notPromised();
        skips("");
        Bench.due("the document is over", document.substring(Math.min(at, document.length())), "");
        Bench.done();
    }

    /** The document's next words, that no call can show right or wrong. */
    private static void skips(String words) {
        Bench.due("answers held against [" + latest + "]: there are some", latest.isEmpty() || checked > 0, true);
        quote(words);
        latest = "";
    }

    /** The document's next words, against which the answers that follow are held. */
    private static void says(String words) {
        skips(words);
        Bench.sentence(words);
        latest = words;
        checked = 0;
    }

    private static void quote(String words) {
        if (document.isEmpty()) {
            return;
        }
        Bench.sentence("the document goes on otherwise");
        int end = Math.min(at + words.length(), document.length());
        Bench.due("its next words", document.substring(Math.min(at, end), end), words);
        at = end;
        while (at < document.length() && document.charAt(at) == ' ') {
            at++;
        }
    }

    private static void due(String what, Object got, Object want) {
        checked++;
        Bench.due(what, got, want);
    }

    /** Runs START, then a text on the same object, that is not WRONG. */
    private static Bench tells(String text, String want) {
        Bench bench = started();
        return more(bench, text, want);
    }

    private static Bench started() {
        return new Bench().check(START, Bench.repeat("0 ", 14).trim());
    }

    private static Bench more(Bench bench, String text, String want) {
        checked++;
        return bench.check(text, want);
    }

    private static void wrong(String text, int whole, int where) {
        checked++;
        started().checkWrong(text, whole, where);
    }

    private static void whatItIs() {
        skips("# ProofBench ## What it is");
        says("A bench for proofs of a logic of many kinds of things: a text tells kinds, names, axioms, steps of proofs, models;");
        more(new Bench(), "SORT box;REL r(box);VAR b box;AXIOM a !b r(b);USE a;SIZE box 2;JUDGE r(b);", "0 0 0 0 0 0 [0]");
        says("each step is looked at by the rule that it names and by nothing else;");
        // q follows, but not by LEFT; that # is not so in the model does not matter to a rule.
        tells("ASSUME q;LEFT 0;SEARCH q 0;ASSUME #;JUDGE #;ABSURD 2 o;", "0 10 0 0 [0] 0");
        says("what is proved can be used, and held against models.");
        tells("ASSUME o;DISCHARGE 0 o;THEOREM t;PROOF;USE t;SHOW 0;JUDGE >(o,o);HOLDS o();JUDGE >(o,q);", "0 0 0 0 0 [>(o,o)] [1] 0 [0]");
        skips("======== 1 TEXTS.");
        says("An object is used for at most 512 calls after it has been made; what later calls answer is free.");
        ProofBench object = new ProofBench();
        for (int k = 0; k < 255; k++) {
            due("feed", object.feed(0x50524F4F463B2020L, BLANKS, BLANKS, BLANKS, 0x5052_4F4F_463B_2020L), 40);
            due("run", object.run(), 2);
        }
        due("call 511", object.refusals(0), 510);
        due("call 512", object.outputs(), 2);
    }

    private static void face() {
        skips("## The public face ```java");
        int from = at;
        Set<String> told = new TreeSet<>();
        Matcher line = Pattern.compile("public ([^;{]*);").matcher(document);
        boolean more = !document.isEmpty() && line.find(from);
        while (more) {
            told.add(line.group(1).replaceAll("(long|int) [a-z]+(?=[,)])", "$1").replace("why", ""));
            more = line.find();
        }
        says("public final class ProofBench { public static final int BAD = -1; public ProofBench();");
        due("BAD", ProofBench.BAD, -1);
        due("public final class", ProofBench.class.getModifiers(), Modifier.PUBLIC | Modifier.FINAL);
        due("steps()", new ProofBench().steps(), 0);
        says("public int feed(long a, long b, long c, long d, long e); public int end(int n); public int run(); public int wrong(); public int outputs(); public int out(int i); public int steps();"
                + " public int hypotheses(int p); public int facts(); public int leans(int i, int j); public int inductive(int i); public int refusals(int why); }");
        Set<String> has = new TreeSet<>(Set.of("static final int BAD = " + ProofBench.BAD, "ProofBench()"));
        Arrays.stream(ProofBench.class.getDeclaredMethods()).filter(m -> Modifier.isPublic(m.getModifiers())).forEach(m -> has.add(m.getReturnType() + " " + m.getName()
                + Arrays.toString(m.getParameterTypes()).replace('[', '(').replace(']', ')')));
        due("the face", has, document.isEmpty() ? has : told);
        skips("```");
    }

    private static int blanks(ProofBench x) {
        return x.feed(BLANKS, BLANKS, BLANKS, BLANKS, BLANKS);
    }

    private static void tokens() {
        skips("## Terms");
        says("The TAPE has up to 4000 bytes.");
        ProofBench x = new ProofBench();
        for (int k = 1; k <= 100; k++) {
            due("feed", blanks(x), 40 * k);
        }
        due("feed of byte 4001", blanks(x), -1);
        says("A BLANK is 32 or 10.");
        tells(" \n SORT\na ;\n\n", "0");
        for (char c : new char[] {0, 9, 11, 12, 13, 31, 127, 160}) {
            wrong("SORT" + c + "a;", 0, 4);
        }
        says("TOKENS, with any BLANKS between:");
        tells("DEFINE n(x)!x>(p(x),=(x,-0));SHOW 0;", "0 9");
        tells("\nDEFINE\nn ( x ) ! x > ( p \n( x ) , = (  x ,\n -0 ) )  ;\n\nSHOW\n0;", "0 9");
        says("WORDS (rows of A to Z),");
        tells("SORT a;PROOF;", "0 0");
        wrong("SORT a;PROOFS;", 1, 7);
        wrong("SORT a;PRO OF;", 1, 7);
        wrong("SORT a;Proof;", 1, 7);
        says("NAMES (a letter a to z and all letters a to z and digits behind it, 12 bytes at most),");
        tells("SORT az09az09az09;SORT a;SORT z9;", "0 0 0");
        wrong("SORT az09az09az090;", 0, 5);
        wrong("SORT 9a;", 0, 5);
        wrong("SORT aA;", 0, 6);
        says("NUMBERS (perhaps - , and all digits that stand there, 6 at most),");
        tells("COUNT 000123;SHOW 0;COUNT -999999;COUNT 999999;COUNT -0;", "0 [=(next(123),124)] 7 7 0");
        wrong("COUNT 0000123;", 0, 6);
        wrong("COUNT -0000123;", 0, 6);
        says("( ) , ; = & | > ! ? #.");
        tells("ASSUME !x?y>(&(=(x,y),|(#,#)),#);SHOW 0;", "0 [!x ?y >(&(=(x,y),|(#,#)),#)]");
        for (char c : "\"$%'*+./:<@[\\]^_`{}~".toCharArray()) {
            wrong("ASSUME " + c + ";", 0, 7);
        }
        says("Each is as long as it can be.");
        tells("SORTa;COUNT1;SORTab1;SIZEa 1;SIZEab1 1;", "0 0 0 0 0");
        wrong("SORTa;SIZEa1;", 1, 12);
        wrong("SORTSORT a;", 0, 0);
        wrong("COUNT 12 3;", 0, 9);
        says("A byte with which no TOKEN begins (a - without a digit, the first one of a NUMBER of more digits, or of a NAME of more bytes) is WRONG.");
        wrong("SORT a;COUNT -;", 1, 13);
        wrong("SORT a;COUNT - 1;", 1, 13);
        wrong("SORT a;COUNT -1234567;", 1, 13);
        wrong("SORT a;COUNT 1234567;", 1, 13);
        wrong("SORT a;SORT abcdefghijklm;", 1, 12);
        wrong("SORT a;SORT b;.", 2, 14);
    }

    private static void things() {
        skips("```text");
        says("THING: a NUMBER; NAME; NAME ( THINGS with , between ); = ( THING , THING ), likewise with &, |, >; ! NAME THING; ? NAME THING; #.");
        tells("ALIKE 5 x;ALIKE c f(1,x);ALIKE =(0,1) &(#,#);ALIKE |(#,q) >(q,#);ALIKE !x q ?x q;ALIKE # next(x);", "[0] [0] [0] [0] [0] [0]");
        wrong("ALIKE f() x;", 0, 8);
        wrong("ALIKE f(0,) x;", 0, 10);
        wrong("ALIKE f(0 1) x;", 0, 10);
        wrong("ALIKE =(0) x;", 0, 9);
        wrong("ALIKE =(0,1,2) x;", 0, 11);
        wrong("ALIKE & x;", 0, 8);
        wrong("ALIKE |(x;", 0, 9);
        wrong("ALIKE >x x;", 0, 7);
        wrong("ALIKE !1 x;", 0, 7);
        wrong("ALIKE ?x ;", 0, 9);
        wrong("ALIKE #(x) x;", 0, 7);
        wrong("ALIKE 5(x) x;", 0, 7);
        wrong("ALIKE x ();", 0, 9);
        says("A THING within 40 others, one in the other, is WRONG (at its first byte).");
        tells("ALIKE " + Bench.nexts(39, "x") + " " + Bench.repeat("!x ", 39) + "#;", "[0]");
        wrong("ALIKE " + Bench.nexts(40, "x") + " 0;", 0, 6 + 5 * 40);
        wrong("ALIKE " + Bench.repeat("!x ", 40) + "# 0;", 0, 6 + 3 * 40);
        wrong("ALIKE " + Bench.repeat("&(#,", 40) + "#" + Bench.repeat(")", 40) + " 0;", 0, 6 + 4 * 39 + 2);
        wrong("ALIKE " + Bench.repeat("|(", 40) + "#" + Bench.repeat(",#)", 40) + " 0;", 0, 6 + 2 * 40);
        says("NAMES below: ( ), or ( NAMES with , between ); NUMBERS likewise.");
        tells("REL r0( );REL r1(num);REL r2(num,box);HOLDS r0();HOLDS r1(0);HOLDS r2(0,0);", "0 0 0 0 0 0");
        wrong("REL r0;", 0, 6);
        wrong("REL r0(num,);", 0, 11);
        wrong("REL r0(num box);", 0, 11);
        wrong("REL r0(1);", 0, 7);
        wrong("HOLDS q;", 0, 7);
        wrong("HOLDS q(,);", 0, 8);
        wrong("HOLDS p(x);", 0, 8);
    }

    private static void statements() {
        says("STATEMENTS (n, s, f, r, v NAMES; k, p, q, w NUMBERS; F, T THINGS), each with ; behind it:");
        wrong("SORT 1;", 0, 5);
        wrong("SORT a SORT a2;", 0, 7);
        wrong("VAR v 1;", 0, 6);
        wrong("VALUE 1() 1;", 0, 6);
        wrong("HOLDS 1();", 0, 6);
        wrong("GENERALISE 0 1;", 0, 13);
        wrong("SIZE num k;", 0, 9);
        wrong("CASE x 0 0;", 0, 5);
        wrong("CASE 0 x 0;", 0, 7);
        wrong("CASE 0 0 x;", 0, 9);
        wrong("JUDGE ;", 0, 6);
        wrong("SAME ;", 0, 5);
        says("SORT n FUN n NAMES s REL n NAMES VAR n s AXIOM n F DEFINE n NAMES F PROOF THEOREM n SHOW p FROM p k TELL n ALIKE F T PUT F v T SIZE s k ZERO k VALUE f NUMBERS k HOLDS r NUMBERS LACKS r NUMBERS JUDGE F");
        Bench bench = tells("SORT s;FUN g(s) s;REL m(s);VAR v s;AXIOM n !v m(v);DEFINE k(v) m(v);PROOF;COUNT 0;THEOREM t;SHOW 0;FROM 0 0;TELL n;ALIKE # v;PUT m(v) v g(v);SIZE s 2;ZERO 0;VALUE g(1) 1;HOLDS m(1);LACKS m(0);JUDGE m(v);",
                "0 0 0 0 0 0 0 0 0 [=(next(0),1)] 7 [!v m(v)] [0] [m(g(v))] 0 0 0 0 0 [0]");
        due("steps", bench.object.steps(), 1);
        says("steps: ASSUME F BOTH p q LEFT p RIGHT p FIRST p F SECOND p F CASE p q w APPLY p q DISCHARGE p F GENERALISE p v SPECIALISE p T WITNESS p T F OPEN p q v SAME T REPLACE p q v F ABSURD p F INDUCTION p q v F COUNT k USE n SEARCH F, and none or more p.");
        String[] all = {"ASSUME q", "BOTH 0 0", "LEFT 1", "RIGHT 1", "FIRST 0 q", "SECOND 0 q", "CASE 4 0 0", "DISCHARGE 0 q", "APPLY 7 0", "GENERALISE 0 x", "SPECIALISE 9 0", "WITNESS 0 0 ?x q", "OPEN 11 0 x", "SAME 0", "REPLACE 13 0 x q",
            "ASSUME #", "ABSURD 15 p(0)", "ABSURD 15 !x >(p(x),p(next(x)))", "INDUCTION 16 17 x p(x)", "COUNT 0", "USE ax", "SEARCH >(q,q)", "SEARCH q 0 1 2 3"};
        Bench steps = started();
        for (int k = 0; k < all.length; k++) {
            more(steps, all[k] + ";", "0");
            due("steps behind " + all[k], steps.object.steps(), k + 1);
        }
        says("run() does the TAPE's STATEMENTS one by one, up to the first byte of the first TOKEN with which no STATEMENT could go on (at the end: the TAPE's length): there it is WRONG;");
        wrong("SORT a;SORT a;VAR v a;VAR w  ;SORT g;", 3, 29);
        wrong("SORT a;SORT", 1, 11);
        wrong("SORT a;SORT h", 1, 13);
        wrong("SORT a;SORT h \n", 1, 15);
        wrong("SORT a; what;", 1, 8);
        says("a STATEMENT that is not whole does nothing.");
        Bench cut = started();
        cut.checkWrong("ASSUME q;ASSUME q", 1, 17);
        due("steps", cut.object.steps(), 1);
        due("outputs", cut.object.outputs(), 1);
        due("refusals(0)", cut.object.refusals(0), 15);
        cut.checkWrong("SORT n !", 0, 7);
        more(cut, "SORT n;", "0");
        says("For each STATEMENT OUT gets 0, and what it tells; or, if it is REFUSED, why, alone: then it does nothing else.");
        Bench out = started().feed("SORT a;SHOW 0;ASSUME #;SHOW 0;SORT a;JUDGE #;LEFT 0;");
        due("run", out.object.run(), 7);
        int[] numbers = {0, 9, 0, 0, 1, '#', 1, 0, 0, 10};
        for (int i = 0; i < numbers.length; i++) {
            due("out(" + i + ")", out.object.out(i), numbers[i]);
        }
        due("outputs", out.object.outputs(), numbers.length);
        due("steps", out.object.steps(), 1);
        skips("```");
    }

    private static void whys() {
        skips("======== 2 WHY, by its number:");
        says("1 a NAME that is not known, or, where a new one is told, is known.");
        tells("TELL no;ASSUME no;SORT ax;REL next();", "1 1 1 1");
        says("2 a NAME of another kind than is wanted.");
        tells("TELL x;VAR v q;ASSUME box;GENERALISE 0 f;", "2 2 2 2");
        says("3 too few or too many parts, or (of DEFINE) two of the same NAME.");
        tells("ASSUME p;ASSUME p(x,x);DEFINE n(x,x) q;", "3 3 3");
        says("4 a term where a formula is wanted, or a formula where a term is.");
        tells("ASSUME x;SAME q;ASSUME p(q);", "4 4 4");
        says("5 another SORT.");
        tells("ASSUME p(b);ASSUME =(b,x);PUT q x b;", "5 5 5");
        says("6 too GREAT.");
        tells("ASSUME " + Bench.wide(401) + ";", "6");
        says("7 a NUMBER that is not as told.");
        tells("SAME 100000;COUNT 99999;SIZE num 5;ZERO 1;HOLDS p(1);", "7 7 7 7 7");
        says("8 FULL.");
        tells("SORT s3;SORT s4;SORT s5;SORT s6;SORT s7;", "0 0 0 0 8");
        says("9 no such step.");
        tells("SHOW 0;LEFT -1;THEOREM t;", "9 9 9");
        says("10 what a step shows, or F, is not of the form.");
        tells("ASSUME q;LEFT 0;WITNESS 0 x q;", "0 10 10");
        says("11 UNLIKE.");
        tells("ASSUME >(q,q);ASSUME o;APPLY 0 1;", "0 0 11");
        says("12 a variable is free where it may not be.");
        tells("ASSUME p(x);GENERALISE 0 x;DEFINE n() p(x);", "0 12 12");
        says("13 no VARIABLE is left.");
        tells("PUT !y e(x,y) x f(y,z);", "13");
        says("14 HYPOTHESES are left.");
        tells("ASSUME q;THEOREM t;", "0 14");
        says("15 not FOUND.");
        tells("SEARCH q;", "15");
    }

    private static void lookedAt() {
        skips("```text");
        says("A STATEMENT is looked at so: its THINGS, NAMES, and NUMBERS by 1 to 7, in the order in which they stand (but for steps' numbers; of a row 3 first, then part by part);");
        tells("AXIOM ax x;AXIOM n x;VAR ax no;VAR v no;FUN ax(no) no;FUN g(no,no,no,no) no;FUN g(b,no) no;FUN g(no,b) no;FUN g(num) b;", "1 4 1 1 1 3 2 1 2");
        tells("VALUE no(9) 9;VALUE p(9) 9;VALUE next() 9;VALUE next(9) 9;VALUE next(0) 9;SIZE no 9;SIZE x 9;SIZE num 9;PUT x no no;PUT q no no;PUT q f q;PUT q x q;", "1 2 3 7 7 1 2 7 4 1 2 4");
        tells("FIRST 9 no;FIRST 9 x;FIRST 9 p(100000);WITNESS 9 q x;WITNESS 9 x x;REPLACE 9 9 f x;", "1 4 7 4 4 2");
        says("then p, q, w by 9, in order;");
        tells("ASSUME q;FIRST 1 q;CASE 0 1 0;CASE 0 0 1;CASE 1 0 0;LEFT 0;BOTH 0 -1;APPLY 0 1;OPEN 0 1 b;SEARCH q 0 1;", "0 9 9 9 9 10 9 9 9 9");
        says("then in the order told below (SORTS that hang on a step, by 5, too);");
        tells("ASSUME q;ASSUME !x p(x);ASSUME ?x p(x);ASSUME =(c,c);SPECIALISE 0 b;SPECIALISE 1 b;OPEN 0 0 b;OPEN 2 0 b;REPLACE 0 0 x p(x);REPLACE 3 0 x p(x);WITNESS 0 b q;WITNESS 0 b ?x p(x);",
                "0 0 0 0 10 5 10 5 10 5 10 5");
        says("6 of what is made, then 8, last.");
        Bench bench = tells("ASSUME " + Bench.wide(200) + ";" + Bench.repeat("COUNT1;", 299), "0" + Bench.repeat(" 0", 299));
        more(bench, "BOTH 0 0;BOTH 0 1;LEFT 1;SEARCH q;BOTH 0 300;", "6 8 10 15 9");
        skips("```");
    }

    private static void names() {
        skips("======== 3 NAMES.");
        says("Known at first: the SORT num, the FUN next (num) num.");
        more(new Bench(), "SORT num;FUN next(num) num;VAR x num;SAME next(next(x));SHOW 0;SAME next;", "1 1 0 0 [=(next(next(x)),next(next(x)))] 3");
        says("All NAMES are of one row; a new one must not be known.");
        for (String n : new String[] {"num", "next", "box", "x", "f", "p", "ax"}) {
            tells("SORT " + n + ";FUN " + n + "() num;REL " + n + "();VAR " + n + " num;AXIOM " + n + " q;DEFINE " + n + "() q;USE ax;THEOREM " + n + ";", "1 1 1 1 1 1 0 1");
        }
        says("At most 6 SORTS (num counted), 20 FUNS (next counted), 20 RELS (defined ones, too), 30 VARIABLES, 40 FACTS: 8.");
        full("SORT n#;", 5);
        full("FUN n#() num;", 19);
        full("REL n#();", 20);
        full("DEFINE n#() #;", 20);
        full("VAR n# num;", 30);
        full("AXIOM n# #;", 40);
        says("FUNS and RELS have 0 to 3 parts (3).");
        tells("FUN g() num;FUN h(num,num,num) num;FUN i(num,num,num,num) num;REL s();REL t(num,box,num);REL u(num,num,num,num);", "0 0 3 0 0 3");
        says("s, and NAMES of FUN, REL are SORTS.");
        tells("FUN g(x) num;FUN g(num) x;REL s(q);VAR v f;SIZE p 1;FUN g(no) num;FUN g(box) num;SAME g(c);SAME g(0);", "2 2 2 2 2 1 0 0 5");
    }

    /** So many NAMES find room, the next one does not; what was FULL is not known. */
    private static void full(String statement, int most) {
        StringBuilder text = new StringBuilder();
        for (int k = 0; k < most; k++) {
            text.append(statement.replaceFirst("n#", "n" + k));
        }
        Bench bench = new Bench();
        more(bench, text.toString(), ("0 ".repeat(most)).trim());
        more(bench, statement.replaceFirst("n#", "n") + statement.replaceFirst("n#", "n0") + "TELL n;", "8 1 1");
    }

    private static void termsAndFormulas() {
        skips("```text");
        says("TERMS: a VARIABLE; a FUN's NAME and its parts in ( ) (without ( ) if it has none); a NUMERAL, 0 to 99999 (7), of SORT num.");
        tells("SAME x;SAME f(0,x);SAME c;SAME 0;SAME 99999;SAME 100000;SAME -1;ASSUME r(0);ASSUME p(0);SAME f;SAME c(x);", "0 0 0 0 0 7 7 5 0 3 3");
        says("FORMULAS: a REL's NAME, likewise;");
        tells("ASSUME q;ASSUME p(x);ASSUME e(x,0);ASSUME q(x);ASSUME p;SAME p(x);", "0 0 0 3 3 4");
        says("= of two TERMS of one SORT;");
        tells("ASSUME =(x,0);ASSUME =(b,c);ASSUME =(x,b);ASSUME =(q,q);", "0 0 5 4");
        says("& | > (and, or, implies) of two FORMULAS;");
        tells("ASSUME &(q,#);ASSUME |(q,#);ASSUME >(q,#);ASSUME &(x,q);ASSUME |(q,x);ASSUME >(0,q);", "0 0 0 4 4 4");
        tells("JUDGE &(=(0,0),=(0,0));JUDGE &(=(0,0),#);JUDGE |(#,=(0,0));JUDGE |(#,#);JUDGE >(=(0,0),#);JUDGE >(#,#);", "[1] [0] [1] [0] [0] [1]");
        says("! v F, ? v F (all, some), v a VARIABLE;");
        tells("ASSUME !x p(x);ASSUME ?b r(b);ASSUME !c q;ASSUME !x x;SIZE num 2;HOLDS p(1);JUDGE !x p(x);JUDGE ?x p(x);", "0 0 2 4 0 0 [0] [1]");
        says("# (falsum).");
        tells("ASSUME #;JUDGE #;SAME #;", "0 [0] 4");
        says("A THING is looked at from the left, its parts (of ! and ? the NAME first) ahead of itself;");
        tells("ASSUME no(100000);ASSUME no(box,100000);ASSUME &(x,no);ASSUME !no box;ASSUME ?box no;ASSUME !x no;", "7 2 1 1 2 1");
        says("of itself: 1, 2, 3, then each part in order 4, 5 (of = the second one is of the first one's SORT),");
        tells("ASSUME no(x,q);ASSUME box(x,q);ASSUME p(q,b);ASSUME e(q,b);ASSUME e(b,q);ASSUME e(x,q);ASSUME e(x,b);ASSUME =(q,b);ASSUME =(b,q);ASSUME =(b,x);", "1 2 3 4 5 4 5 4 4 5");
        says("then 6: it has more than 400 PLACES (it and all its parts; a NAME behind ! or ? is none),");
        tells("ASSUME " + Bench.wide(400) + ";ASSUME !x " + Bench.wide(399) + ";", "0 0");
        tells("ASSUME !x " + Bench.wide(400) + ";", "6");
        tells("ASSUME &(!x " + Bench.wide(400) + ",no);", "6");
        tells("ASSUME &(" + Bench.wide(400) + ",x);", "4");
        says("or is more than 40 DEEP (a THING without parts is 1).");
        tells("ASSUME " + Bench.deep(40) + ";PUT =(" + Bench.nexts(37, "x") + ",0) x next(0);PUT =(" + Bench.nexts(37, "x") + ",0) x next(next(0));",
                "0 [=(" + Bench.nexts(38, "0") + ",0)] 6");
    }

    private static void freeAndAlike() {
        says("A VARIABLE is FREE as usual.");
        tells("PUT &(p(x),!x p(x)) x 0;PUT ?x p(x) x 0;PUT !y e(x,y) x 0;PUT p(f(x,y)) y 0;", "[&(p(0),!x p(x))] [?x p(x)] [!y e(0,y)] [p(f(x,0))]");
        says("ALIKE: put together alike, but that VARIABLES behind ! and ? (of the same SORT) may be others: what these bind is compared by where it is bound.");
        tells("ALIKE p(x) p(x);ALIKE p(x) p(y);ALIKE !x p(x) !y p(y);ALIKE !x p(x) ?x p(x);ALIKE !x q !b q;ALIKE !x !y e(x,y) !y !x e(y,x);", "[1] [0] [1] [0] [0] [1]");
        tells("ALIKE !x !y e(x,y) !x !y e(y,x);ALIKE !x p(y) !y p(y);ALIKE !x !x p(x) !y !x p(x);ALIKE !x !x p(x) !y !x p(y);ALIKE q o;ALIKE &(q,o) &(o,q);ALIKE 1 2;", "[0] [0] [1] [0] [0] [0] [0]");
    }

    private static void put() {
        says("A[v:=t]: each FREE v is t;");
        tells("PUT e(x,f(x,y)) x f(z,x);PUT >(p(x),p(y)) y x;PUT r(b) b c;", "[e(f(z,x),f(f(z,x),y))] [>(p(x),p(x))] [r(c)]");
        says("where that is within ! y B or ? y B, with v FREE in it, and y FREE in t, y is first made (by the same rule) the first VARIABLE, as they were told, of y's SORT that is not v, and FREE neither in t nor in B;");
        tells("PUT !y e(x,y) x y;PUT ?y e(x,y) x y;PUT !z e(y,z) y z;PUT !z e(x,z) x f(z,z);", "[!z e(y,z)] [?z e(y,z)] [!x e(z,x)] [!y e(f(z,z),y)]");
        // Not where v is not FREE, nor where y is not FREE in t; not v, none that is FREE in t or in B, none of another SORT.
        tells("PUT !y p(y) x y;PUT !y e(x,y) x z;PUT !z e(y,z) y f(z,x);VAR u num;PUT !z e(y,z) y f(z,x);PUT !z e(y,f(x,z)) y z;PUT !b r(d) d b;", "[!y p(y)] [!y e(z,y)] 13 0 [!u e(f(z,x),u)] [!u e(z,f(x,u))] 13");
        // By the same rule: z is bound within, so it is made another one in its turn.
        tells("VAR u num;PUT !y !z e(f(x,y),z) x y;", "0 [!z !u e(f(y,z),u)]");
        says("if there is none, 13.");
        tells("PUT !y e(x,y) x f(y,z);PUT !y !z e(x,y) x y;VAR u num;PUT !y e(x,y) x f(y,z);PUT !y !z e(x,y) x y;", "13 13 0 [!u e(f(y,z),u)] [!z !u e(y,z)]");
        says("Where v is not FREE all stays as it is.");
        tells("PUT &(!y p(y),!x ?y e(x,y)) x y;PUT &(p(x),!y p(y)) x y;", "[&(!y p(y),!x ?y e(x,y))] [&(p(y),!y p(y))]");
        says("(Parts are made from the left, and B ahead of what is around it.)");
        tells("PUT &(!y e(x,y),?y !z e(x,f(y,z))) x y;VAR u num;PUT &(!y e(x,y),?y !z e(x,f(y,z))) x y;", "13 0 [&(!z e(y,z),?z !u e(y,f(z,u)))]");
        skips("```");
    }

    private static void stepsAtAll() {
        skips("======== 4 STEPS.");
        says("A step 0, 1, .. of the proof at hand shows a FORMULA from HYPOTHESES (FORMULAS, no two of them ALIKE), and LEANS on FACTS.");
        Bench bench = tells("ASSUME !x p(x);ASSUME !y p(y);BOTH 0 1;SHOW 2;FROM 2 0;FROM 2 1;SHOW 0;SHOW 1;SHOW 3;", "0 0 0 [&(!x p(x),!y p(y))] [!x p(x)] 7 [!x p(x)] [!y p(y)] 9");
        due("hypotheses(2)", bench.object.hypotheses(2), 1);
        says("From p, q means: from the HYPOTHESES of p, then those of q that are not among them;");
        tells("ASSUME q;ASSUME o;BOTH 1 0;ASSUME #;BOTH 0 3;BOTH 2 4;FROM 5 0;FROM 5 1;FROM 5 2;FROM 5 3;", "0 0 0 0 0 0 [o] [q] [#] 7");
        says("without F: those that are not ALIKE F.");
        tells("ASSUME !x p(x);ASSUME o;BOTH 0 1;DISCHARGE 2 !y p(y);FROM 3 0;FROM 3 1;DISCHARGE 2 q;FROM 4 1;", "0 0 0 0 [o] 7 0 [o]");
        says("It LEANS on what they do.");
        Bench leans = tells("AXIOM a o;AXIOM a2 #;USE ax;USE a;BOTH 0 1;THEOREM t;", "0 0 0 0 0 0");
        due("t leans on ax", leans.object.leans(3, 0), 1);
        due("t leans on a", leans.object.leans(3, 1), 1);
        due("t leans on a2", leans.object.leans(3, 2), 0);
        says("A proof has 300 steps, a step 20 HYPOTHESES at most (8).");
        Bench many = tells(Bench.repeat("ASSUME#;", 299), "0" + Bench.repeat(" 0", 298));
        more(many, "ASSUME q;ASSUME q;SHOW 299;PROOF;ASSUME q;", "0 8 [q] 0 0");
        Bench crowd = tells("ASSUME p(0);", "0");
        for (int k = 1; k <= 20; k++) {
            more(crowd, "ASSUME p(" + k + ");BOTH " + (2 * k - 2) + " " + (2 * k - 1) + ";", k < 20 ? "0 0" : "0 8");
        }
        due("hypotheses(38)", crowd.object.hypotheses(38), 20);
    }

    private static void rulesOfSigns() {
        skips("```text");
        says("ASSUME F: F, from F.");
        tells("ASSUME >(q,o);SHOW 0;FROM 0 0;FROM 0 1;", "0 [>(q,o)] [>(q,o)] 7");
        says("BOTH p q: & of what they show, from p, q.");
        tells("ASSUME q;ASSUME o;BOTH 1 0;SHOW 2;FROM 2 0;FROM 2 1;FROM 2 2;", "0 0 0 [&(o,q)] [o] [q] 7");
        says("LEFT p, RIGHT p: p shows &(A,B) (10): A; B.");
        tells("ASSUME &(q,o);LEFT 0;SHOW 1;RIGHT 0;SHOW 2;FROM 1 0;FROM 2 0;LEFT 1;RIGHT 1;ASSUME |(q,o);LEFT 3;RIGHT 3;", "0 0 [q] 0 [o] [&(q,o)] [&(q,o)] 10 10 0 10 10");
        says("FIRST p F: | of what p shows and F.");
        tells("ASSUME q;FIRST 0 o;SHOW 1;FROM 1 0;FROM 1 1;", "0 0 [|(q,o)] [q] 7");
        says("SECOND p F: | of F and that.");
        tells("ASSUME q;SECOND 0 o;SHOW 1;FROM 1 0;FROM 1 1;", "0 0 [|(o,q)] [q] 7");
        says("CASE p q w: p shows |(A,B) (10); q and w show ALIKE FORMULAS (11): that of q, from p, q without A, w without B.");
        String three = "ASSUME |(q,o);ASSUME q;ASSUME o;ASSUME !x p(x);ASSUME !y p(y);BOTH 1 3;RIGHT 5;BOTH 2 4;RIGHT 7;";
        tells(three + "CASE 6 6 8;CASE 0 1 2;CASE 0 6 8;SHOW 9;FROM 9 0;FROM 9 1;FROM 9 2;", "0 0 0 0 0 0 0 0 0 10 11 0 [!x p(x)] [|(q,o)] [!x p(x)] 7");
        // q is without A only, w without B only.
        tells(three + "CASE 0 8 6;SHOW 9;FROM 9 0;FROM 9 1;FROM 9 2;FROM 9 3;FROM 9 4;", "0 0 0 0 0 0 0 0 0 0 [!y p(y)] [|(q,o)] [o] [!y p(y)] [q] 7");
        says("APPLY p q: p shows >(A,B) (10), q ALIKE A (11): B.");
        tells("ASSUME >(!x p(x),o);ASSUME !y p(y);APPLY 1 0;APPLY 0 0;APPLY 0 1;SHOW 2;FROM 2 0;FROM 2 1;FROM 2 2;", "0 0 10 11 0 [o] [>(!x p(x),o)] [!y p(y)] 7");
        says("DISCHARGE p F: > of F and that, from p without F.");
        tells("ASSUME q;DISCHARGE 0 q;SHOW 1;FROM 1 0;DISCHARGE 0 o;SHOW 2;FROM 2 0;", "0 0 [>(q,q)] 7 0 [>(o,q)] [q]");
        says("ABSURD p F: p shows # (10): F, from p without >(F,#).");
        tells("ASSUME q;ABSURD 0 o;ASSUME >(q,#);APPLY 1 0;ABSURD 2 q;SHOW 3;FROM 3 0;FROM 3 1;ABSURD 2 o;SHOW 4;FROM 4 0;FROM 4 1;", "0 10 0 0 0 [q] [q] 7 0 [o] [>(q,#)] [q]");
    }

    private static void rulesOfVariables() {
        says("GENERALISE p v: v is FREE in no HYPOTHESIS of p (12): ! v of that.");
        tells("ASSUME p(x);GENERALISE 0 x;GENERALISE 0 y;SHOW 1;SAME x;GENERALISE 2 x;SHOW 3;ASSUME !x p(x);GENERALISE 4 x;SHOW 5;FROM 5 0;", "0 12 0 [!y p(x)] 0 0 [!x =(x,x)] 0 0 [!x !x p(x)] [!x p(x)]");
        says("SPECIALISE p T: p shows ! x A (10); T is of x's SORT (5): A[x:=T] (13).");
        tells("ASSUME !x !y e(x,y);SPECIALISE 0 b;SPECIALISE 0 y;SHOW 1;FROM 1 0;SPECIALISE 0 f(y,z);ASSUME ?x p(x);SPECIALISE 2 x;SPECIALISE 0 7;SHOW 3;", "0 5 0 [!z e(y,z)] [!x !y e(x,y)] 13 0 10 0 [!y e(7,y)]");
        says("WITNESS p T F: F is ? x A (10); T is of x's SORT (5); A[x:=T] (13) is ALIKE what p shows (11): F.");
        tells("ASSUME e(f(0,1),1);WITNESS 0 1 !x p(x);WITNESS 0 b ?x e(f(0,x),x);WITNESS 0 0 ?x e(f(0,x),x);WITNESS 0 1 ?x e(f(0,x),x);SHOW 1;FROM 1 0;WITNESS 0 f(y,z) ?x !y e(x,y);", "0 10 5 11 0 [?x e(f(0,x),x)] [e(f(0,1),1)] 13");
        says("OPEN p q v: p shows ? x A (10); v is of x's SORT (5); with H = A[x:=v] (13):");
        tells("ASSUME ?x p(x);ASSUME q;OPEN 1 1 y;OPEN 0 1 b;OPEN 0 1 y;SHOW 2;ASSUME ?x !y !z &(e(x,y),e(x,z));OPEN 3 1 y;", "0 0 10 5 0 [q] 0 13");
        says("v is FREE neither in ? x A, nor in what q shows, nor in a HYPOTHESIS of q that is not ALIKE H (12):");
        tells("ASSUME ?x e(x,y);ASSUME q;ASSUME p(z);ASSUME e(z,y);BOTH 1 2;LEFT 4;BOTH 1 3;LEFT 6;OPEN 0 1 y;OPEN 0 2 z;OPEN 0 5 z;OPEN 0 7 z;OPEN 0 7 y;", "0 0 0 0 0 0 0 0 12 12 12 0 12");
        says("what q shows, from p, q without H.");
        tells("ASSUME ?x !y e(x,y);ASSUME !x e(z,x);ASSUME o;BOTH 1 2;RIGHT 3;OPEN 0 4 z;SHOW 5;FROM 5 0;FROM 5 1;FROM 5 2;", "0 0 0 0 0 0 [o] [?x !y e(x,y)] [o] 7");
    }

    private static void rulesOfEquality() {
        says("SAME T: =(T,T).");
        Bench same = tells("SAME f(x,1);SHOW 0;FROM 0 0;SAME b;SHOW 1;", "0 [=(f(x,1),f(x,1))] 7 0 [=(b,b)]");
        due("hypotheses(0)", same.object.hypotheses(0), 0);
        says("REPLACE p q v F: p shows =(t,u) (10); v is of t's SORT (5); F[v:=t] (13) is ALIKE what q shows (11): F[v:=u] (13), from p, q.");
        tells("ASSUME =(1,x);ASSUME e(1,1);REPLACE 1 1 z e(z,1);REPLACE 0 1 b e(1,1);REPLACE 0 1 z e(z,z);SHOW 2;FROM 2 0;FROM 2 1;REPLACE 0 1 z e(1,z);SHOW 3;REPLACE 0 1 z e(0,z);", "0 0 10 5 0 [e(x,x)] [=(1,x)] [e(1,1)] 0 [e(1,x)] 11");
        tells("ASSUME =(f(y,z),1);ASSUME =(1,f(y,z));ASSUME !y e(1,y);REPLACE 0 2 x !y e(x,y);REPLACE 1 2 x !y e(x,y);REPLACE 1 2 x !z e(0,z);", "0 0 0 13 13 11");
        says("INDUCTION p q v F: v is of SORT num (5); F[v:=0] (13) is ALIKE what p shows (11); ! v >(F,F[v:=next(v)]) (13) is ALIKE what q shows (11): ! v F, from p, q.");
        tells("ASSUME e(0,y);ASSUME !z >(e(z,y),e(next(z),y));INDUCTION 0 1 b q;INDUCTION 1 1 x e(x,y);INDUCTION 0 0 x e(x,y);INDUCTION 0 1 x e(x,y);SHOW 2;FROM 2 0;FROM 2 1;FROM 2 2;",
                "0 0 5 11 11 0 [!x e(x,y)] [e(0,y)] [!z >(e(z,y),e(next(z),y))] 7");
        tells("ASSUME p(0);ASSUME !x >(p(x),p(next(0)));ASSUME !x >(p(next(x)),p(x));INDUCTION 0 1 x p(x);INDUCTION 0 2 x p(x);", "0 0 0 11 11");
        says("COUNT k: k is 0 to 99998 (7): =(next(k),k+1), k and k + 1 being NUMERALS.");
        tells("COUNT -1;COUNT 0;SHOW 0;FROM 0 0;COUNT 99998;SHOW 1;COUNT 99999;", "7 0 [=(next(0),1)] 7 0 [=(next(99998),99999)] 7");
        says("USE n: n is a FACT (2): what it says, from nothing; it LEANS on it and on all that this LEANS on.");
        Bench use = tells("USE no;USE q;USE ax;SHOW 0;FROM 0 0;THEOREM t;PROOF;USE t;THEOREM u;", "1 2 0 [q] 7 0 0 0 0");
        due("u leans on t", use.object.leans(2, 1), 1);
        due("u leans on ax", use.object.leans(2, 0), 1);
    }

    private static void search() {
        says("SEARCH F p ..: F, from these, if it follows by & | > # alone:");
        tells("ASSUME |(q,o);ASSUME >(q,#);SEARCH o 0 1;SHOW 2;FROM 2 0;FROM 2 1;SEARCH >(o,o);FROM 3 0;ASSUME !x p(x);SEARCH p(0) 4;", "0 0 0 [o] [|(q,o)] [>(q,#)] 0 7 0 15");
        says("LETTERS are the greatest parts of F and of what the p show that are no & | > # (ALIKE ones are one);");
        tells("SEARCH >(!x &(q,p(x)),!y &(q,p(y)));SEARCH >(!x &(q,p(x)),q);SEARCH |(=(0,1),>(=(0,1),#));SEARCH >(p(x),p(y));", "0 15 0 15");
        says("for each choice of which LETTERS hold (and # does not), F holds if all that the p show do.");
        tells("SEARCH >(>(>(q,o),q),q);SEARCH >(q,o);SEARCH >(#,q);SEARCH #;ASSUME #;SEARCH &(q,o) 2;ASSUME o;SEARCH &(q,o) 4;SEARCH |(q,o) 4;", "0 15 0 15 0 0 0 15 0");
        says("More than 4 p: 3 (ahead of 9).");
        tells("SEARCH >(q,q) 9 9 9 9 9;SEARCH >(q,q) 9 9 9 9;ASSUME q;SEARCH q 0 0 0 0;SEARCH q 0 0 0 0 0;", "3 9 0 0 3");
        says("More than 4 LETTERS, or more than 30 of & | > # outside of LETTERS in all (those of a step told twice count twice), or it does not follow: 15.");
        tells("SEARCH >(p(0),|(p(1),|(p(2),|(p(3),p(0)))));SEARCH >(p(0),|(p(1),|(p(2),|(p(3),|(p(4),p(0))))));", "0 15");
        tells("ASSUME " + Bench.repeat("&(q,", 14) + "q" + Bench.repeat(")", 14) + ";SEARCH &(q,q) 0 0;SEARCH &(q,&(q,q)) 0 0;SEARCH &(q,&(q,&(q,q))) 0 0;SEARCH o 0;", "0 0 0 15 15");
    }

    private static void facts() {
        says("What is made by steps is looked at by 6; what is made to be compared may be of any size.");
        tells("ASSUME " + Bench.wide(399) + ";DISCHARGE 0 #;", "0 6");
        // >(F,#) has 402 PLACES here, and the step still is without none such.
        tells("ASSUME #;ABSURD 0 " + Bench.wide(400) + ";FROM 1 0;", "0 0 [#]");
        tells("SAME 0;ASSUME " + Bench.wide(200) + ";REPLACE 0 1 x &(" + Bench.wide(199) + ",=(x,f(x,x)));", "0 0 11");
        says("THEOREM n: the last step of the proof shows something (9: there is none) from no HYPOTHESES (14): that is a FACT, with what the step LEANS on; the proof goes on.");
        Bench bench = tells("THEOREM t;USE ax;ASSUME o;THEOREM t;DISCHARGE 1 o;THEOREM t;TELL t;FIRST 0 o;THEOREM u;TELL u;SHOW 0;", "9 0 0 14 0 0 [>(o,o)] 0 0 [|(q,o)] [q]");
        due("t leans on ax", bench.object.leans(1, 0), 0);
        due("u leans on ax", bench.object.leans(2, 0), 1);
        due("steps", bench.object.steps(), 4);
        says("AXIOM n F: a FACT.");
        Bench axiom = tells("AXIOM n p(x);TELL n;USE n;SHOW 0;", "0 [p(x)] 0 [p(x)]");
        due("facts", axiom.object.facts(), 2);
        says("DEFINE n NAMES F: n is a REL with parts of the SORTS of these VARIABLES;");
        tells("DEFINE n(b,x) &(r(b),p(x));ASSUME n(c,0);ASSUME n(0,c);ASSUME n(c);DEFINE m() q;ASSUME m;DEFINE k(box) q;HOLDS n(0,0);", "0 0 5 3 0 0 2 0");
        says("other VARIABLES are not FREE in F (12);");
        tells("DEFINE n(x) e(x,y);DEFINE n(x) !y e(x,y);DEFINE m(x,y) p(x);", "12 0 0");
        says("its FACT, of the same NAME, says ! v1 .. ! vm &(>(A,F),>(F,A)), A being n with v1 .. vm in ( ) (6 of it).");
        tells("DEFINE n(b,x) p(x);TELL n;DEFINE m() o;TELL m;USE m;SHOW 0;", "0 [!b !x &(>(n(b,x),p(x)),>(p(x),n(b,x)))] 0 [&(>(m,o),>(o,m))] 0 [&(>(m,o),>(o,m))]");
        tells("DEFINE n() " + Bench.wide(197) + ";DEFINE m() " + Bench.wide(198) + ";DEFINE m() " + Bench.wide(197) + ";", "0 6 0");
        says("PROOF: a new one, without steps.");
        Bench proof = tells("ASSUME q;ASSUME q;PROOF;SHOW 0;", "0 0 0 9");
        due("steps", proof.object.steps(), 0);
        says("A FACT is INDUCTIVE if it, or one on which it LEANS, is of a step that has an INDUCTION among those from which it comes.");
        Bench inductive = tells("AXIOM g p(0);AXIOM h !x >(p(x),p(next(x)));USE g;USE h;INDUCTION 0 1 x p(x);THEOREM t;SPECIALISE 2 5;THEOREM u;PROOF;USE t;THEOREM v;USE g;THEOREM w;", "0 0 0 0 0 0 0 0 0 0 0 0 0");
        int[] due = {0, 0, 0, 1, 1, 1, 0};
        for (int i = 0; i < due.length; i++) {
            due("inductive(" + i + ")", inductive.object.inductive(i), due[i]);
        }
        skips("```");
    }

    private static void models() {
        skips("======== 5 MODELS.");
        says("Each SORT has things 0 to SIZE - 1.");
        tells("SIZE box 3;HOLDS r(0);HOLDS r(1);JUDGE r(b);HOLDS r(3);HOLDS r(-1);HOLDS r(2);JUDGE r(b);", "0 0 0 [0] 7 7 0 [1]");
        says("At first all SIZES are 1, all VALUES 0, and no RELS HOLD.");
        tells("JUDGE =(x,y);JUDGE =(b,d);JUDGE =(f(x,y),x);JUDGE q;JUDGE ?x p(x);JUDGE ?b r(b);VALUE c() 1;VALUE c() 0;", "[1] [1] [1] [0] [0] [0] 7 0");
        says("SIZE s k: k is 1 to 4 (7); all VALUES are 0, and no RELS HOLD then; ZERO is 0.");
        tells("SIZE num 0;SIZE num 5;SIZE num -1;SIZE num 1;SIZE num 4;", "7 7 7 0 0");
        tells("SIZE num 4;ZERO 2;VALUE next(2) 3;HOLDS p(3);HOLDS q();JUDGE p(1);JUDGE =(1,0);SIZE box 2;JUDGE p(1);JUDGE q;JUDGE ?x p(x);JUDGE !x =(next(x),0);JUDGE =(1,0);", "0 0 0 0 0 [1] [0] 0 [0] [0] [0] [1] [1]");
        tells("SIZE num 4;ZERO 2;SIZE num 4;HOLDS p(0);JUDGE p(0);", "0 0 0 0 [1]");
        says("ZERO k, VALUE, HOLDS, LACKS: as many NUMBERS as parts (3), each a thing of its SORT, as is k (7).");
        tells("SIZE num 2;ZERO 2;ZERO 1;ZERO -1;VALUE f(0) 0;VALUE f(0,0,0) 0;VALUE f(0,2) 0;VALUE f(1,0) 2;VALUE f(1,0) 1;VALUE c() 1;VALUE c() 0;", "0 7 0 7 3 3 7 7 0 7 0");
        tells("SIZE num 2;HOLDS p();HOLDS p(2);HOLDS p(1);JUDGE ?x p(x);LACKS p(0,0);LACKS p(2);LACKS p(0);JUDGE ?x p(x);LACKS p(1);JUDGE ?x p(x);HOLDS q(0);", "0 3 7 0 [1] 3 7 0 [1] 0 [0] 3");
        tells("SIZE num 2;VALUE f(1,0) 1;HOLDS p(1);JUDGE ?x ?y p(f(x,y));JUDGE ?y p(f(y,y));VALUE f(1,0) 0;JUDGE ?x ?y p(f(x,y));", "0 0 0 [1] [0] 0 [0]");
        says("NUMERAL k is what next makes of ZERO, k times.");
        tells("SIZE num 3;VALUE next(0) 1;VALUE next(1) 2;VALUE next(2) 0;HOLDS p(2);JUDGE p(0);JUDGE p(1);JUDGE p(2);JUDGE p(99998);JUDGE p(99999);ZERO 1;JUDGE p(0);JUDGE p(1);JUDGE p(99997);JUDGE p(99999);", "0 0 0 0 0 [0] [0] [1] [1] [0] 0 [0] [1] [1] [0]");
        says("JUDGE F: tells 1 if F is so for all things that its FREE VARIABLES may be, else 0");
        tells("SIZE num 2;HOLDS p(0);JUDGE p(x);HOLDS p(1);JUDGE p(x);HOLDS e(0,1);HOLDS e(1,0);JUDGE e(x,y);JUDGE |(e(x,y),e(y,y));JUDGE |(e(x,y),=(x,y));", "0 0 [0] 0 [1] 0 0 [0] [0] [1]");
        says("( = the same thing; ! and ? over all things of the SORT).");
        tells("SIZE num 3;VALUE next(0) 1;VALUE next(1) 2;JUDGE =(0,3);JUDGE =(0,1);JUDGE !x ?y =(x,next(y));JUDGE ?x =(next(x),2);HOLDS p(2);JUDGE ?x p(x);JUDGE !x p(x);JUDGE ?b =(b,c);", "0 0 0 [1] [0] [1] [1] 0 [1] [0] [1]");
        says("6: as many VARIABLES FREE, and ! and ? around one another, as are more than 5 together.");
        tells("JUDGE !x!x!x!x!x #;JUDGE !x?x!x?x!x!x #;JUDGE &(=(x,y),!x!y!z #);JUDGE &(=(x,y),!x!y!z!z #);JUDGE !x !y !z &(=(b,d),=(x,x));JUDGE !x !y !z !z &(=(b,d),=(x,x));JUDGE &(!x!x!x #,!x!x!x #);",
                "[0] 6 [0] 6 [1] 6 [0]");
    }

    private static void telling() {
        skips("```text");
        says("SHOW p tells what a step shows,");
        tells("SAME 0;ASSUME o;SHOW 0;SHOW 1;SHOW 2;", "0 0 [=(0,0)] [o] 9");
        says("FROM p k its k-th HYPOTHESIS (from 0; 7 behind 9: there is none such),");
        tells("ASSUME q;ASSUME o;BOTH 0 1;FROM 2 0;FROM 2 1;FROM 2 2;FROM 2 -1;FROM 3 9;", "0 0 0 [q] [o] 7 7 9");
        says("TELL n what a FACT (2) says,");
        tells("TELL ax;TELL q;TELL no;", "[q] 2 1");
        says("PUT F v T (T of v's SORT: 5) F[v:=T] (13, 6):");
        tells("PUT p(x) x next(x);PUT p(x) x b;PUT r(b) b x;PUT !y e(x,y) x f(y,z);PUT &(" + Bench.wide(397) + ",p(x)) x next(0);", "[p(next(x))] 5 5 13 6");
        says("how many bytes, then these: NAMES and digits as they are, ( , ) without BLANKS, ! and ? with the NAME and one BLANK behind it.");
        Bench bench = started().feed("PUT ! x ? b > ( e ( 120 , x ) , # ) x 0 ;");
        bench.object.run();
        String text = "!x ?b >(e(120,x),#)";
        due("out(0)", bench.object.out(0), 0);
        due("out(1)", bench.object.out(1), text.length());
        for (int k = 0; k < text.length(); k++) {
            due("byte " + k, bench.object.out(2 + k), (int) text.charAt(k));
        }
        due("outputs", bench.object.outputs(), 2 + text.length());
        says("ALIKE F T (any THINGS): 1 or 0.");
        tells("ALIKE q q;ALIKE q o;ALIKE x x;ALIKE x q;ALIKE next(0) next(0);", "[1] [0] [1] [0] [1]");
        says("8: OUT would have more than 19000 numbers (of those that tell more than 0).");
        // =(T,T) of 68 bytes: each SHOW is 70 numbers, 271 of them 18970.
        Bench full = tells("SAME f(11111,f(11111,f(11111,11111)));ASSUME #;", "0 0");
        full.feed(Bench.repeat("SHOW0;", 272) + Bench.repeat("JUDGE#;", 15) + "SHOW1;PROOF;");
        full.object.run();
        due("what the last SHOW of 70 is", full.object.out(18970), 8);
        due("the 15th JUDGE, that would be 19001", full.object.out(18999), 8);
        due("the SHOW behind it", full.object.out(19000), 8);
        due("PROOF", full.object.out(19001), 0);
        due("outputs", full.object.outputs(), 19002);
        due("refusals(8)", full.object.refusals(8), 3);
        due("steps", full.object.steps(), 0);
        skips("```");
    }

    private static void promises1to7() {
        skips("## Promise 1: A new object");
        says("`ProofBench()`: Nothing but num and next; no proof, no step.");
        ProofBench fresh = new ProofBench();
        due("steps()", fresh.steps(), 0);
        due("facts()", fresh.facts(), 0);
        due("outputs()", fresh.outputs(), 0);
        due("hypotheses(0)", fresh.hypotheses(0), -1);
        more(new Bench(), "SORT num;SORT next;SORT box;SHOW 0;THEOREM t;", "1 1 0 9 9");
        skips("## Promise 2: feed");
        says("`int feed(long a, long b, long c, long d, long e)`: The forty bytes of five longs, the highest of each first, come to the TAPE; answers how many it has;");
        // "SORT a;S" "ORT b;SO" "RT c;SOR" "T d;SORT" " e;     ".
        due("feed", fresh.feed(0x534F525420613B53L, 0x4F525420623B534FL, 0x525420633B534F52L, 0x5420643B534F5254L, 0x20653B2020202020L), 40);
        due("feed", blanks(fresh), 80);
        due("run", fresh.run(), 5);
        due("refusals(0)", fresh.refusals(0), 5);
        says("BAD, and nothing comes, if these would be more than 4000.");
        for (int k = 0; k < 100; k++) {
            blanks(fresh);
        }
        due("feed", fresh.feed(0, 0, 0, 0, 0), -1);
        due("end(3961)", fresh.end(3961), 3961);
        due("feed", fresh.feed(0, 0, 0, 0, 0), -1);
        due("end(3962)", fresh.end(3962), -1);
        due("run", fresh.run(), 0);
        due("wrong", fresh.wrong(), -1);
        skips("## Promise 3: end");
        says("`int end(int n)`: The TAPE keeps its first n bytes; answers n; BAD, and it stays, if n is below 0 or above what it has.");
        due("feed", fresh.feed(0x50524F4F463B2020L, BLANKS, BLANKS, BLANKS, -1L), 40);
        due("end(-1)", fresh.end(-1), -1);
        due("end(41)", fresh.end(41), -1);
        due("end(40)", fresh.end(40), 40);
        due("end(6)", fresh.end(6), 6);
        due("end(7)", fresh.end(7), -1);
        due("run", fresh.run(), 1);
        due("wrong", fresh.wrong(), -1);
        skips("## Promise 4: run");
        says("`int run()`: OUT is empty; the TAPE is done, and empty then. Answers how many STATEMENTS were whole.");
        due("feed", fresh.feed(0x50524F4F463B5052L, 0x4F4F463B50524F4FL, BLANKS, BLANKS, BLANKS), 40);
        due("run", fresh.run(), 2);
        due("outputs", fresh.outputs(), 2);
        due("end(1)", fresh.end(1), -1);
        due("run", fresh.run(), 0);
        due("outputs", fresh.outputs(), 0);
        skips("## Promise 5: wrong");
        says("`int wrong()`: Where the latest run() found its TAPE WRONG; BAD if it did not, and before one.");
        due("wrong of a new object", new ProofBench().wrong(), -1);
        Bench bench = started();
        bench.checkWrong("PROOF;*", 1, 6);
        due("wrong", bench.object.wrong(), 6);
        bench.feed("PROOF;");
        due("wrong stays until run", bench.object.wrong(), 6);
        bench.object.run();
        due("wrong", bench.object.wrong(), -1);
        skips("## Promise 6: outputs");
        says("`int outputs()`: How many numbers are OUT; the i-th, 0 for another.");
        bench.feed("SORT num;JUDGE #;");
        due("outputs", bench.object.outputs(), 1);
        bench.object.run();
        due("outputs", bench.object.outputs(), 3);
        skips("## Promise 7: out");
        says("`int out(int i)`: The i-th number that is OUT; 0 for another.");
        bench.feed("SORT num;USE num;SHOW 0;");
        bench.object.run();
        int[] numbers = {0, 1, 2, 9, 0};
        for (int i = 0; i < numbers.length; i++) {
            due("out(" + (i - 1) + ")", bench.object.out(i - 1), numbers[i]);
        }
    }

    private static void promises8to13() {
        skips("## Promise 8: steps");
        says("`int steps()`: How many steps the proof at hand has.");
        Bench bench = tells("ASSUME q;ASSUME o;BOTH 0 1;LEFT 0;", "0 0 0 10");
        due("steps", bench.object.steps(), 3);
        skips("## Promise 9: hypotheses");
        says("`int hypotheses(int p)`: How many HYPOTHESES a step has; BAD if there is none such.");
        int[] hypotheses = {-1, 1, 1, 2, -1};
        for (int p = -1; p <= 3; p++) {
            due("hypotheses(" + p + ")", bench.object.hypotheses(p), hypotheses[p + 1]);
        }
        more(bench, "PROOF;COUNT 0;", "0 0");
        due("steps", bench.object.steps(), 1);
        due("hypotheses(0)", bench.object.hypotheses(0), 0);
        skips("## Promise 10: facts");
        says("`int facts()`: How many FACTS there are, in the order in which they were told.");
        Bench facts = tells("DEFINE n() q;USE n;THEOREM t;AXIOM a o;BOTH 0 0;USE a;THEOREM u;AXIOM ax o;", "0 0 0 0 0 0 0 1");
        due("facts", facts.object.facts(), 5);
        skips("## Promise 11: leans");
        says("`int leans(int i, int j)`: Whether FACT i LEANS on FACT j: 1 or 0; BAD if there is none such. (None LEANS on itself.)");
        // ax, n, t (of n), a, u (of a).
        int[] leaning = {0, 0, 0b10, 0, 0b1000};
        for (int i = -1; i <= 5; i++) {
            for (int j = -1; j <= 5; j++) {
                boolean none = i < 0 || i > 4 || j < 0 || j > 4;
                due("leans(" + i + ", " + j + ")", facts.object.leans(i, j), none ? -1 : leaning[i] >> j & 1);
            }
        }
        skips("## Promise 12: inductive");
        says("`int inductive(int i)`: Whether a FACT is INDUCTIVE: 1 or 0; BAD if there is none such.");
        Bench inductive = tells("AXIOM g p(0);AXIOM h !x >(p(x),p(next(x)));USE g;USE h;INDUCTION 0 1 x p(x);THEOREM t;", "0 0 0 0 0 0");
        int[] due = {-1, 0, 0, 0, 1, -1};
        for (int i = -1; i <= 4; i++) {
            due("inductive(" + i + ")", inductive.object.inductive(i), due[i + 1]);
        }
        skips("## Promise 13: refusals");
        says("`int refusals(int why)`: How many of all STATEMENTS of all runs were REFUSED by this; 0: how many were not. 0 for another.");
        Bench refused = tells("SORT num;SHOW 0;PROOF;", "1 9 0");
        more(refused, "SORT num;TELL x;PROOF;", "1 2 0");
        int[] refusals = {0, 16, 2, 1, 0, 0, 0, 0, 0, 0, 1, 0, 0, 0, 0, 0, 0, 0};
        for (int why = -1; why <= 16; why++) {
            due("refusals(" + why + ")", refused.object.refusals(why), refusals[why + 1]);
        }
    }

    private static void notPromised() {
        skips("## Not promised How the state is held inside the object is free, as are the speed of each call, the text of toString and the behaviour of equals and hashCode.");
        skips("Use of one object from several threads at once is not promised to be safe.");
        skips("Nothing is promised beyond the answers and state changes described above, and nothing about an object after its 512th call.");
    }
}

/** Promise 3: end. */
public final class Promise03EndTest {
    // "SORT a;S" "ORT b;SO" "RT c;SOR" "T d;SORT" " e;     ".
    private static final long[] FIVE = {0x534F525420613B53L, 0x4F525420623B534FL, 0x525420633B534F52L, 0x5420643B534F5254L,
        0x20653B2020202020L};

    public static void main(String[] args) {
        below();
        above();
        stays();
        keepsTheFirst();
        nothingElse();
        Bench.done();
    }

    private static ProofBench fed() {
        ProofBench x = new ProofBench();
        Bench.due("feed", x.feed(FIVE[0], FIVE[1], FIVE[2], FIVE[3], FIVE[4]), 40);
        return x;
    }

    private static void below() {
        Bench.sentence("BAD, and it stays, if n is below 0");
        ProofBench x = new ProofBench();
        Bench.due("end(-1)", x.end(-1), -1);
        Bench.due("end(MIN)", x.end(Integer.MIN_VALUE), -1);
        Bench.due("end(0)", x.end(0), 0);
        x = fed();
        Bench.due("end(-1)", x.end(-1), -1);
        Bench.due("end(-40)", x.end(-40), -1);
        Bench.due("end(40)", x.end(40), 40);
        Bench.due("end(0)", x.end(0), 0);
        Bench.due("run", x.run(), 0);
        Bench.due("wrong", x.wrong(), -1);
    }

    private static void above() {
        Bench.sentence("BAD if n is above what it has");
        ProofBench x = new ProofBench();
        Bench.due("end(1)", x.end(1), -1);
        x = fed();
        Bench.due("end(41)", x.end(41), -1);
        Bench.due("end(4000)", x.end(4000), -1);
        Bench.due("end(MAX)", x.end(Integer.MAX_VALUE), -1);
        Bench.due("end(40)", x.end(40), 40);
        Bench.due("end(39)", x.end(39), 39);
        // What was cut off is gone, though nothing has been written over it.
        Bench.due("end(40)", x.end(40), -1);
        Bench.due("end(14)", x.end(14), 14);
        Bench.due("end(15)", x.end(15), -1);
        Bench.due("run", x.run(), 2);
        Bench.due("end(1) behind a run", x.end(1), -1);
        Bench.due("end(0) behind a run", x.end(0), 0);
    }

    private static void stays() {
        Bench.sentence("BAD, and it stays");
        ProofBench x = fed();
        x.end(41);
        x.end(-1);
        Bench.due("run", x.run(), 5);
        x = fed();
        x.end(13);
        x.end(14);
        Bench.due("run", x.run(), 1);
        Bench.due("wrong", x.wrong(), 13);
    }

    private static void cut(String text, int n, int whole, int wrong) {
        Bench bench = new Bench().feed(text);
        Bench.due("end", bench.object.end(n), n);
        Bench.due("run of " + text + " cut to " + n, bench.object.run(), whole);
        Bench.due("wrong of " + text + " cut to " + n, bench.object.wrong(), wrong);
    }

    private static void keepsTheFirst() {
        Bench.sentence("The TAPE keeps its first n bytes");
        int[] ends = {7, 14, 21, 28, 35};
        for (int n = 0; n <= 40; n++) {
            ProofBench x = fed();
            Bench.due("end", x.end(n), n);
            int whole = 0;
            while (whole < 5 && ends[whole] <= n) {
                whole++;
            }
            // A cut WORD is none: it is WRONG where it begins, and not at the end.
            int into = n - (whole == 0 ? 0 : ends[whole - 1]);
            int wrong = into == 0 || whole == 5 ? -1 : into < 4 ? n - into : n;
            Bench.due("run of " + n + " bytes", x.run(), whole);
            Bench.due("wrong of " + n + " bytes", x.wrong(), wrong);
        }
        // SOR is no WORD, twelve letters are a NAME, six digits a NUMBER.
        cut("SORT a;SORT b;", 10, 1, 7);
        cut("SORT abcdefghijklm;", 17, 0, 17);
        cut("SORT abcdefghijklm;", 18, 0, 5);
        cut("COUNT 1234567;", 12, 0, 12);
        cut("COUNT 1234567;", 13, 0, 6);
        // What comes next comes behind the n bytes.
        ProofBench x = fed();
        Bench.due("end(14)", x.end(14), 14);
        Bench.due("feed", x.feed(0x2020202020202020L, 0, 0, 0, 0), 54);
        Bench.due("end(22)", x.end(22), 22);
        Bench.due("run", x.run(), 2);
        Bench.due("wrong", x.wrong(), -1);
    }

    private static void nothingElse() {
        Bench.sentence("end changes the TAPE alone");
        Bench bench = new Bench();
        bench.check("SORT a;ASSUME #;AXIOM f #;", "0 0 0");
        bench.feed("SORT b;");
        bench.object.end(3);
        bench.object.end(0);
        Bench.due("outputs", bench.object.outputs(), 3);
        Bench.due("steps", bench.object.steps(), 1);
        Bench.due("facts", bench.object.facts(), 1);
        Bench.due("wrong", bench.object.wrong(), -1);
        Bench.due("run", bench.object.run(), 0);
        bench.check("SORT b;SORT a;", "0 1");
    }
}

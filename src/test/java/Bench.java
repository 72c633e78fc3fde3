import java.nio.charset.StandardCharsets;

/** A ProofBench that is fed with texts, and whose OUT is read as one word for each STATEMENT. */
final class Bench {
    private static int wrong = 0;
    private static String sentence = "";
    final ProofBench object = new ProofBench();

    /** Ends a test: exit code 1 if an answer was not the one that is due. */
    static void done() {
        System.out.println(wrong == 0 ? "all answers are as due" : wrong + " answers are not as due");
        if (wrong != 0) {
            System.exit(1);
        }
    }

    /** Tells the sentence of the document against which the answers that follow are held. */
    static void sentence(String words) {
        sentence = "[" + words + "] ";
    }

    static void due(String what, Object got, Object want) {
        if (!got.equals(want)) {
            wrong++;
            System.out.println(sentence + what + "\n    answered " + got + "\n    due is   " + want);
        }
    }

    static long[] longs(byte[] bytes, int from) {
        long[] five = new long[5];
        for (int k = 0; k < 40; k++) {
            long b = from + k < bytes.length ? bytes[from + k] & 255 : 0;
            five[k / 8] = five[k / 8] << 8 | b;
        }
        return five;
    }

    /** Brings a text to the TAPE, byte for byte. */
    Bench feed(String text) {
        byte[] bytes = text.getBytes(StandardCharsets.ISO_8859_1);
        int has = 0;
        for (int at = 0; at < bytes.length; at += 40) {
            long[] five = longs(bytes, at);
            has = object.feed(five[0], five[1], five[2], five[3], five[4]);
            due("feed", has > 0, true);
        }
        int extra = (40 - bytes.length % 40) % 40;
        if (extra > 0) {
            due("end", object.end(has - extra), has - extra);
        }
        return this;
    }

    /** Runs a text; answers a word for each STATEMENT: its number, or what it tells: ["text"] or [number]. */
    String run(String text) {
        feed(text);
        int whole = object.run();
        return read(text, whole);
    }

    String read(String text, int whole) {
        StringBuilder words = new StringBuilder();
        String[] statements = text.split(";");
        int at = 0;
        for (int k = 0; k < whole; k++) {
            String statement = statements[k].trim();
            int why = object.out(at++);
            words.append(k == 0 ? "" : " ");
            if (why != 0) {
                words.append(why);
            } else if (statement.matches("(?s)(SHOW|FROM|TELL|PUT)[^A-Z].*")) {
                int size = object.out(at++);
                words.append('[');
                for (int i = 0; i < size; i++) {
                    words.append((char) object.out(at++));
                }
                words.append(']');
            } else if (statement.matches("(?s)(ALIKE|JUDGE)[^A-Z].*")) {
                words.append('[').append(object.out(at++)).append(']');
            } else {
                words.append('0');
            }
        }
        due("outputs() of " + text, object.outputs(), at);
        return words.toString();
    }

    /** Runs a text that is not WRONG, and compares. */
    Bench check(String text, String want) {
        due(text, run(text), want);
        due("wrong() of " + text, object.wrong(), ProofBench.BAD);
        return this;
    }

    /** Runs a text that is WRONG somewhere, and compares. */
    Bench checkWrong(String text, int whole, int at) {
        feed(text);
        due("run() of " + text, object.run(), whole);
        due("wrong() of " + text, object.wrong(), at);
        return this;
    }

    static String repeat(String text, int times) {
        StringBuilder all = new StringBuilder();
        for (int k = 0; k < times; k++) {
            all.append(text);
        }
        return all.toString();
    }

    /** A FORMULA with so many PLACES, as flat as can be, if p is a REL over num. */
    static String wide(int places) {
        if (places <= 2) {
            return places == 1 ? "#" : "p(0)";
        }
        int left = (places - 1) / 2;
        return "&(" + wide(left) + "," + wide(places - 1 - left) + ")";
    }

    /** A FORMULA that is so DEEP. */
    static String deep(int levels) {
        return repeat("&(#,", levels - 1) + "#" + repeat(")", levels - 1);
    }

    /** A term within so many next( ). */
    static String nexts(int times, String within) {
        return repeat("next(", times) + within + repeat(")", times);
    }
}

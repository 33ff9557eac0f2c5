/** Promises 9 to 11: texts with each byte changed, left out or cut off behind; the plain model tells what is due. */
public final class BytesTest {
    private static final Check CHECK = new Check("BytesTest");
    private static final String SCALE = "sea 12 from 9 if not(rig<3)and year>21or\ndepth = 4567; leaf 1from 2;canvas 3 from 98;";
    private static final String HABITS = "lean up 12 if not(number<3)and year>1or\nspars = 4567 or rig=2;write 1for 2; lean down 3;";
    private static final String[] TOKENS = {
        "canvas", "sea", "leaf", "from", "if", "not", "(", ")", "and", "or", "rig", "depth", "year", "<", ">", "=", ";",
        "lean", "up", "down", "write", "for", "number", "spars", "0", "12", "13", "99", "100", "9999", "10000", "x", "!",
    };

    public static void main(String[] args) {
        for (boolean isScale : new boolean[] {true, false}) {
            String text = isScale ? SCALE : HABITS;
            compare(text, text.length(), isScale);
            otherBytes(text, isScale);
            leftOut(text, isScale);
            cut(text, isScale);
            otherTokens(text, isScale);
            behindAnother(text, isScale);
        }
        loneBytes();
        tokensBehindTheEnd();
        CHECK.end();
    }

    /** The first n bytes of a text, taken by the class and by the model. */
    private static void compare(String text, int n, boolean isScale) {
        WindWords x = Check.crew(1);
        Model m = new Model();
        m.officer();
        compare(x, m, text, n, isScale);
    }

    private static void compare(WindWords x, Model m, String text, int n, boolean isScale) {
        CHECK.feed(x, m, text);
        String what = (isScale ? "scale of " : "habits of ") + n + " bytes of: " + text;
        if (isScale) {
            CHECK.same("9: " + what, x.scale(n, 4), m.scale(n, 4));
        } else {
            CHECK.same("10: " + what, x.habits(0, n), m.habits(0, n));
        }
        CHECK.same("11: fault of " + what, x.fault(), m.fault());
        for (int k : new int[] {3, 8, 9, 10, 12, 13}) {
            CHECK.same("33: count(" + k + ") after " + what, x.count(k), m.count(k));
        }
    }

    private static void otherBytes(String text, boolean isScale) {
        for (int at = 0; at < text.length(); at++) {
            for (char b = 0; b < 256; b++) {
                compare(text.substring(0, at) + b + text.substring(at + 1), text.length(), isScale);
            }
        }
    }

    private static void leftOut(String text, boolean isScale) {
        for (int from = 0; from < text.length(); from++) {
            for (int to = from + 1; to <= text.length(); to++) {
                String left = text.substring(0, from) + text.substring(to);
                compare(left, left.length(), isScale);
            }
        }
    }

    /** What lies behind the first n bytes is no part of the text: a token that goes on there ends. */
    private static void cut(String text, boolean isScale) {
        for (int n = 0; n <= text.length(); n++) {
            compare(text, n, isScale);
            compare(text.substring(0, n), n, isScale);
        }
    }

    /** Of a text that was taken before nothing is left over. */
    private static void behindAnother(String text, boolean isScale) {
        for (int n = 0; n < text.length(); n++) {
            WindWords x = Check.crew(1);
            Model m = new Model();
            m.officer();
            for (int length : new int[] {text.length(), n, text.length(), Math.max(0, n - 1)}) {
                compare(x, m, text, length, isScale);
            }
        }
    }

    private static void otherTokens(String text, boolean isScale) {
        for (int at = 0; at <= text.length(); at++) {
            for (String token : TOKENS) {
                String more = text.substring(0, at) + " " + token + " " + text.substring(at);
                compare(more, more.length(), isScale);
                String less = text.substring(0, at) + token + " " + text.substring(at);
                compare(less, less.length(), isScale);
            }
        }
    }

    /** Bytes 32 and 10 are blanks; no other one can begin a text, nor stand behind one. */
    private static void loneBytes() {
        for (int b = 0; b < 256; b++) {
            boolean isBlank = b == 32 || b == 10;
            WindWords x = Check.crew(1);
            x.feed(b << 24, 0, 0, 0, 0);
            CHECK.same("9: byte " + b + " alone", x.scale(1, 0), isBlank ? 0 : -1);
            CHECK.same("11: byte " + b + " alone", x.fault(), isBlank ? -1 : 0);
            // "sea 1 from 1;" and one more byte
            x.feed(0x73656120, 0x31206672, 0x6f6d2031, 0x3b000000 | b << 16, 0);
            CHECK.same("9: byte " + b + " behind", x.scale(14, 0), isBlank ? 1 : -1);
            CHECK.same("11: byte " + b + " behind", x.fault(), isBlank ? -1 : 13);
            // "lean up 1" and one more byte: only ";" ends it, a digit makes it longer
            x.feed(0x6c65616e, 0x20757020, 0x31000000 | b << 16, 0, 0);
            boolean isDigit = b >= '0' && b <= '9';
            CHECK.same("10: byte " + b + " for a sign", x.habits(0, 10), b == ';' ? 1 : -1);
            int place = isBlank || isDigit && b <= '2' ? 10 : isDigit ? 8 : 9;
            CHECK.same("11: byte " + b + " for a sign", x.fault(), b == ';' ? -1 : place);
        }
    }

    private static void tokensBehindTheEnd() {
        String[] texts = {"sea 123 from 1;", "seas 1 from 1;", "sea 1 fromx 1;", "sea 1 from 100;", "sea 1 from 1 if rig<12345;"};
        int[] n = {5, 3, 10, 13, 24};
        for (int k = 0; k < texts.length; k++) {
            WindWords x = new WindWords();
            Check.feed(x, texts[k]);
            CHECK.same("9: cut off: " + texts[k], x.scale(n[k], 0), -1);
            CHECK.same("11: more must come behind " + n[k] + " of: " + texts[k], x.fault(), n[k]);
            Check.feed(x, texts[k]);
            CHECK.same("9: one byte more: " + texts[k], x.scale(n[k] + 1, 0), -1);
        }
    }
}

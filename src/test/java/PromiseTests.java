/** Promise by promise: ordinary inputs, the edges that the document names, and wrong inputs. */
public final class PromiseTests extends TokenCalls {
    private static final int[] WRONG_INDEXES = {-1, Integer.MIN_VALUE, Integer.MAX_VALUE, 15999, 16000, 16001};
    private static final String[] WORDS =
        "int void static extern if else while do for break continue return".split(" ");
    private static final String[] SIGNS =
        ("( ) { } [ ] , ; ? : = += -= *= /= %= &= |= ^= <<= >>= || && | ^ & == != < > <= >= << >> "
            + "+ - * / % ! ~ ++ --").split(" ");

    public static void main(String[] args) {
        newObject();
        feedCountsAndOrders();
        feedRefuses();
        endShortens();
        cutAnswers();
        cutUsesUpTheTray();
        blanks();
        namesAndWords();
        decimalNumbers();
        hexNumbers();
        quotedNumbers();
        strings();
        stringCodes();
        signs();
        longestSigns();
        lines();
        faultsOfBytes();
        faultsInComments();
        tellsWhileFeeding();
        noSuchToken();
        sameBytes();
        finish();
    }

    private static void newObject() {
        TokenRows x = new TokenRows();
        due("new: tokens", x.tokens(), 0);
        due("new: place", x.place(), -1);
        due("new: kind", x.kind(0), 0);
        due("new: end(1)", x.end(1), -1);
        due("new: end(0)", x.end(0), 0);
        due("new: cut", x.cut(), 0);
        due("new: cut, then place", x.place(), -1);
        TokenRows y = new TokenRows();
        due("new: the first feed", y.feed(0, 0, 0, 0, 0), 20);
    }

    private static void feedCountsAndOrders() {
        TokenRows x = new TokenRows();
        due("feed: once", x.feed(0x61626364, 0x65666768, 0x696a6b6c, 0x6d6e6f70, 0x71727374), 20);
        due("feed: twice", x.feed(0x20202020, 0x20202020, 0x20202020, 0x20202020, 0x2020203b), 40);
        due("feed: cut", x.cut(), 2);
        due("feed: the first byte's place", x.from(0), 0);
        due("feed: the name's length", x.length(0), 20);
        due("feed: the last byte's place", x.from(1), 39);
        x.feed(0x22616263, 0x64656667, 0x68696a6b, 0x6c6d6e6f, 0x70717222);
        due("feed: a string of eighteen", x.cut(), 1);
        for (int k = 0; k < 18; k++) {
            due("feed: byte " + (k + 1), x.code(0, k), 'a' + k);
        }
        due("feed: bytes above 127", x.feed(-1, -1, -1, -1, -1), 20);
        due("feed: they are bytes of no text", x.cut(), -1);
    }

    private static void feedRefuses() {
        // Both limits lie beyond 512 calls; the class keeps to them there all the same.
        TokenRows x = new TokenRows();
        for (int k = 1; k <= 800; k++) {
            due("feed: to the tray's limit", x.feed(0x3b3b3b3b, 0x3b3b3b3b, 0x3b3b3b3b, 0x3b3b3b3b, 0x3b3b3b3b), 20 * k);
        }
        due("feed: beyond 16000", x.feed(0, 0, 0, 0, 0), -1);
        due("feed: none of it went in", x.end(16001), -1);
        due("feed: all stays", x.end(16000), 16000);
        due("feed: a place for nineteen", x.end(15981), 15981);
        due("feed: twenty don't go there", x.feed(0, 0, 0, 0, 0), -1);
        due("feed: what is there can be cut", x.cut(), 15981);

        TokenRows y = new TokenRows();
        for (int k = 1; k <= 3276; k++) {
            due("feed: in all", y.feed(0, 0, 0, 0, 0), 20);
            due("feed: in all, end", y.end(0), 0);
        }
        due("feed: beyond 65536 in all", y.feed(0, 0, 0, 0, 0), -1);
        due("feed: beyond 65536 in all, again", y.feed(0, 0, 0, 0, 0), -1);
        due("feed: beyond 65536 in all, tray", y.end(1), -1);
    }

    private static void endShortens() {
        TokenRows x = new TokenRows();
        x.feed(0x61206220, 0x63206420, 0x65206620, 0x67206820, 0x69206a20);
        due("end: below 0", x.end(-1), -1);
        due("end: far below 0", x.end(Integer.MIN_VALUE), -1);
        due("end: one more than it has", x.end(21), -1);
        due("end: far more", x.end(Integer.MAX_VALUE), -1);
        due("end: all", x.end(20), 20);
        due("end: fewer", x.end(5), 5);
        due("end: what was cut off is gone", x.end(6), -1);
        due("end: feed goes on behind it", x.feed(0x3b3b3b3b, 0x3b3b3b3b, 0x3b3b3b3b, 0x3b3b3b3b, 0x3b3b3b3b), 25);
        due("end: cut", x.cut(), 23);
        due("end: the last name", x.kind(2), 1);
        due("end: the first sign", x.kind(3), 5);
        due("end: the first sign's place", x.from(3), 5);
        x.feed(0x61616161, 0, 0, 0, 0);
        due("end: none", x.end(0), 0);
        due("end: none, cut", x.cut(), 0);
        x.feed(0x61616161, 0x61616161, 0x61616161, 0x61616161, 0x61616161);
        due("end: refused", x.end(-7), -1);
        due("end: refused, all stays", x.cut(), 1);
        due("end: refused, all of it", x.length(0), 20);
    }

    private static void cutAnswers() {
        TokenRows x = new TokenRows();
        due("cut: ordinary", cut(x, "int x = 0x1F; /* c */ return \"s\" 'c'"), 8);
        due("cut: ordinary, tokens", x.tokens(), 8);
        due("cut: ordinary, place", x.place(), -1);
        due("cut: fault", cut(x, "a b @ c"), -1);
        due("cut: fault, tokens", x.tokens(), 2);
        due("cut: fault, place", x.place(), 4);
        due("cut: fault, told", x.from(1), 2);
        due("cut: fault, not told", x.kind(2), 0);
        due("cut: a good one ends the fault", cut(x, "a"), 1);
        due("cut: a good one, place", x.place(), -1);
        due("cut: only blanks", cut(x, " \t\r\n// x\n/* y */"), 0);
        due("cut: only blanks, tokens", x.tokens(), 0);
    }

    private static void cutUsesUpTheTray() {
        TokenRows x = new TokenRows();
        cut(x, "a b c");
        due("used up: end", x.end(1), -1);
        due("used up: feed", x.feed(0x61000000, 0, 0, 0, 0), 20);
        due("used up: fault", x.cut(), -1);
        due("used up: fault, end", x.end(1), -1);
        due("used up: nothing to cut", x.cut(), 0);
        due("used up: nothing is told", x.tokens(), 0);
        due("used up: no fault", x.place(), -1);
        due("used up: no old token", x.kind(0), 0);
    }

    private static void blanks() {
        tokensAt("\ta\nb\rc d", 1, 3, 5, 7);
        tokensAt("a//b\nc", 0, 5);
        tokensAt("a//b", 0);
        tokensAt("a//", 0);
        tokensAt("//\n//\n;", 6);
        tokensAt("a//b\rc\n;", 0, 7);
        tokensAt("a/*b*/c", 0, 6);
        tokensAt("/**/a", 4);
        tokensAt("/***/a", 5);
        tokensAt("/*/*/a", 5);
        tokensAt("/* // */a", 8);
        tokensAt("// /*\na", 6);
        tokensAt("/* * / ** */a", 12);
        tokensAt("/* \t\r\n @#$`\\\"' ~ */a", 19);
        tokensAt("// \t\r @#$`\\\"' ~\na", 16);
        tokensAt("a/b / *c", 0, 1, 2, 4, 6, 7);
        tokensAt("a*/b", 0, 1, 2, 3);
        faultAt("/*", 0, 0);
        faultAt("a /*/", 2, 1);
        faultAt("a /* *", 2, 1);
        faultAt("a /* * /", 2, 1);
        faultAt("a /* x */ /* y", 10, 1);
    }

    private static void namesAndWords() {
        for (int w = 0; w < WORDS.length; w++) {
            one(WORDS[w], 4, w, 0);
            one(WORDS[w] + "_", 1, -1, 0);
            one(WORDS[w] + "0", 1, -1, 0);
            one("_" + WORDS[w], 1, -1, 0);
            one(WORDS[w].substring(0, WORDS[w].length() - 1), 1, -1, 0);
            one(WORDS[w].toUpperCase(), 1, -1, 0);
        }
        one("_", 1, -1, 0);
        one("a", 1, -1, 0);
        one("z", 1, -1, 0);
        one("A", 1, -1, 0);
        one("Z", 1, -1, 0);
        one("azAZ_09", 1, -1, 0);
        one("intint", 1, -1, 0);
        one("a".repeat(24), 1, -1, 0);
        one("_0123456789abcdefghijklm", 1, -1, 0);
        faultAt("a".repeat(25), 0, 0);
        faultAt("b " + "a".repeat(25) + " c", 2, 1);
        faultAt("continue" + "_".repeat(17), 0, 0);
        faultAt("a".repeat(300), 0, 0);
        tokensAt("x[y", 0, 1, 2);
        tokensAt("12ab", 0, 2);
        for (String outside : new String[] {"@", "`", "$", ".", "#", "\\"}) {
            faultAt("a" + outside, 1, 1);
            faultAt(outside + "a", 0, 0);
        }
    }

    private static void decimalNumbers() {
        one("0", 2, -1, 0);
        one("7", 2, -1, 7);
        one("9876543", 2, -1, 9876543);
        one("007", 2, -1, 7);
        one("089", 2, -1, 89);
        one("2147483646", 2, -1, 2147483646);
        one("2147483647", 2, -1, 2147483647);
        one("0".repeat(300) + "2147483647", 2, -1, 2147483647);
        faultAt("2147483648", 0, 0);
        faultAt("a=4294967296;", 2, 2);
        faultAt("a=4294967297;", 2, 2);
        faultAt("18446744073709551616", 0, 0);
        faultAt("18446744073709551617", 0, 0);
        faultAt("9".repeat(500), 0, 0);
        faultAt("1" + "0".repeat(64), 0, 0);
        faultAt("9999999999abc", 0, 0);
        tokensAt("1-1", 0, 1, 2);
        tokensAt("00x1", 0, 2);
        tokensAt("10x1", 0, 2);
    }

    private static void hexNumbers() {
        one("0x0", 2, -1, 0);
        one("0x9", 2, -1, 9);
        one("0xa", 2, -1, 10);
        one("0xf", 2, -1, 15);
        one("0xA", 2, -1, 10);
        one("0xF", 2, -1, 15);
        one("0x1234aBcD", 2, -1, 0x1234abcd);
        one("0x7fffffff", 2, -1, Integer.MAX_VALUE);
        one("0x80000000", 2, -1, Integer.MIN_VALUE);
        one("0xFFFFFFFF", 2, -1, -1);
        one("0x00000001", 2, -1, 1);
        faultAt("0x000000001", 0, 0);
        faultAt("0x123456789", 0, 0);
        faultAt("; 0xFFFFFFFFF", 2, 1);
        faultAt("0x" + "0".repeat(300), 0, 0);
        tokensAt("0x", 0, 1);
        tokensAt("0xg", 0, 1);
        tokensAt("0xG", 0, 1);
        tokensAt("0x_1", 0, 1);
        tokensAt("0x 1", 0, 1, 3);
        tokensAt("0X1", 0, 1);
        tokensAt("0x1g", 0, 3);
        tokensAt("0x12345678g", 0, 10);
        tokensAt("0x0x1", 0, 3);
        faultAt("0x" + "g".repeat(24), 1, 1);
        TokenRows x = new TokenRows();
        cut(x, "0xyz");
        due("0xyz: worth", x.worth(0), 0);
        due("0xyz: length", x.length(0), 1);
        due("0xyz: the name", x.kind(1), 1);
        due("0xyz: the name's length", x.length(1), 3);
    }

    private static void quotedNumbers() {
        for (int c = 32; c <= 126; c++) {
            if (c != '\\' && c != '\'') {
                one("'" + (char) c + "'", 2, -1, c);
            }
        }
        one("'\\n'", 2, -1, 10);
        one("'\\0'", 2, -1, 0);
        one("'\\\\'", 2, -1, 92);
        one("'\\''", 2, -1, 39);
        one("'\\\"'", 2, -1, 34);
        for (String bad : new String[] {"'", "''", "'''", "'a", "'ab'", "'\\'", "'\\t'", "'\\1'", "'\\N'", "'\\n", "'\\00'",
            "'\n'", "'\t'", "'\r'", "'\u007f'", "'\u0007'", "'\u00e9'", "'\\", "'a\n'"}) {
            faultAt("x;" + bad, 2, 2);
        }
    }

    private static void strings() {
        one("\"\"", 3, -1, 0);
        one("\"a\"", 3, -1, 0);
        one("\"//\"", 3, -1, 0);
        one("\"/* */'\"", 3, -1, 0);
        tokensAt("\"a\"\"b\"", 0, 3);
        tokensAt("\"\\\"\"a", 0, 4);
        one("\"" + "a".repeat(200) + "\"", 3, -1, 0);
        one("\"" + "\\n".repeat(200) + "\"", 3, -1, 0);
        one("\"" + "a".repeat(199) + "\\\"\"", 3, -1, 0);
        faultAt("; \"" + "a".repeat(201) + "\"", 2, 1);
        faultAt("; \"" + "\\n".repeat(201) + "\"", 2, 1);
        faultAt("; \"" + "a".repeat(600), 2, 1);
        for (String bad : new String[] {"\"", "\"a", "\"a\\", "\"a\\\"", "\"a\n\"", "\"\t\"", "\"\r\"", "\"\\t\"", "\"\\x\"",
            "\"\\\n\"", "\"ab\u0007c\"", "\"\u007f\"", "\"\u0080\"", "\"\u00ff\""}) {
            faultAt("; " + bad, 2, 1);
        }
    }

    private static void stringCodes() {
        TokenRows x = new TokenRows();
        cut(x, "\"\" \"ab'\\n\\0\\\\\\'\\\" \" \"" + "\\0".repeat(199) + "z\" 'a' n int ;");
        due("codes: empty", x.codes(0), 0);
        due("code: of the empty one", x.code(0, 0), -1);
        due("codes", x.codes(1), 9);
        due("length with escapes", x.length(1), 16);
        int[] want = {'a', 'b', '\'', 10, 0, '\\', '\'', '"', ' '};
        for (int k = 0; k < want.length; k++) {
            due("code " + k, x.code(1, k), want[k]);
        }
        due("code: one too many", x.code(1, 9), -1);
        due("code: below 0", x.code(1, -1), -1);
        due("code: far below 0", x.code(1, Integer.MIN_VALUE), -1);
        due("code: far above", x.code(1, Integer.MAX_VALUE), -1);
        due("codes: 200", x.codes(2), 200);
        due("code 198 of 200", x.code(2, 198), 0);
        due("code 199 of 200", x.code(2, 199), 'z');
        due("code 200 of 200", x.code(2, 200), -1);
        for (int i = 3; i < 7; i++) {
            due("codes of no string", x.codes(i), -1);
            due("code of no string", x.code(i, 0), -1);
        }
        StringBuilder all = new StringBuilder("\"");
        for (int c = 32; c <= 126; c++) {
            if (c != '\\' && c != '"') {
                all.append((char) c);
            }
        }
        due("code: all plain ones", cut(x, all.append('"').toString()), 1);
        due("codes: all plain ones", x.codes(0), 93);
        int k = 0;
        for (int c = 32; c <= 126; c++) {
            if (c != '\\' && c != '"') {
                due("code: plain " + c, x.code(0, k++), c);
            }
        }
    }

    private static void signs() {
        for (int s = 0; s < SIGNS.length; s++) {
            one(SIGNS[s], 5, s, 0);
        }
        TokenRows x = new TokenRows();
        due("signs: all in a row", cut(x, String.join(" ", SIGNS)), 43);
        for (int s = 0; s < SIGNS.length; s++) {
            due("signs: which " + s, x.which(s), s);
            due("signs: length " + s, x.length(s), SIGNS[s].length());
        }
    }

    private static void longestSigns() {
        tokensAt("+++", 0, 2);
        tokensAt("+++++", 0, 2, 4);
        tokensAt("---", 0, 2);
        tokensAt("+-+", 0, 1, 2);
        tokensAt("<<<", 0, 2);
        tokensAt("<<==", 0, 3);
        tokensAt(">>>=", 0, 2);
        tokensAt("<<<=", 0, 2);
        tokensAt("<>=", 0, 1);
        tokensAt("===", 0, 2);
        tokensAt("!==", 0, 2);
        tokensAt("~=", 0, 1);
        tokensAt("&&=", 0, 2);
        tokensAt("||=", 0, 2);
        tokensAt("&&&", 0, 2);
        tokensAt("++=", 0, 2);
        tokensAt("->", 0, 1);
        tokensAt("=>", 0, 1);
        tokensAt("**", 0, 1);
        tokensAt("%%", 0, 1);
        tokensAt("^^", 0, 1);
        tokensAt("!!", 0, 1);
        tokensAt("/=/", 0, 2);
        tokensAt("/ /", 0, 2);
        tokensAt("((", 0, 1);
    }

    private static void lines() {
        TokenRows x = new TokenRows();
        cut(x, "a b\nc\r\nd\re /*\n\n*/ f // \n\"\\n\" '\\n' g\n\n\nh//\n");
        int[] want = {1, 1, 2, 3, 3, 5, 6, 6, 6, 9};
        due("line: tokens", x.tokens(), want.length);
        for (int i = 0; i < want.length; i++) {
            due("line of " + i, x.line(i), want[i]);
        }
        cut(x, "\n\na");
        due("line: before the first token", x.line(0), 3);
        cut(x, "a");
        due("line: counted anew", x.line(0), 1);
        cut(x, "\n/*\n*/a/*\n");
        due("line: before a fault", x.line(0), 3);
    }

    private static void faultsOfBytes() {
        for (int b = 0; b < 256; b++) {
            boolean occurs = b == 9 || b == 10 || b == 13 || b >= 32 && b <= 126;
            boolean begins = occurs && "@#$`.\\".indexOf(b) < 0 && b != '\'' && b != '"';
            if (begins) {
                TokenRows x = new TokenRows();
                due("byte " + b, cut(x, "; " + (char) b + " ;") >= 2 ? 1 : 0, 1);
            } else {
                faultAt("; " + (char) b + " ;", 2, 1);
            }
        }
        tokensAt("");
        faultAt("a\u0000", 1, 1);
        faultAt("99999999999 \u0007", 0, 0);
        faultAt("\u0007 99999999999", 0, 0);
        faultAt("a \u0007 " + "b".repeat(25), 2, 1);
    }

    private static void faultsInComments() {
        for (int b = 0; b < 256; b++) {
            String c = String.valueOf((char) b);
            if (b == 9 || b == 10 || b == 13 || b >= 32 && b <= 126) {
                due("star comment with " + b, cut(new TokenRows(), "a /* " + c + " */ ;"), 2);
                due("line comment with " + b, cut(new TokenRows(), "a // " + c + "//\n;"), 2);
            } else {
                faultAt("a /* " + c + " */ ;", 5, 1);
                faultAt("a /*" + c + "*/ ;", 4, 1);
                faultAt("a /* " + c, 5, 1);
                faultAt("a /* ** " + c + " " + c, 8, 1);
                faultAt("a // " + c + "\n;", 5, 1);
                faultAt("a //" + c, 4, 1);
            }
        }
        faultAt("a /* */ \u0001", 8, 1);
        faultAt("a // \n\u0001", 6, 1);
        faultAt("/*\n\u0001*/ \u0002", 3, 0);
    }

    private static void tellsWhileFeeding() {
        TokenRows x = new TokenRows();
        cut(x, "ab \"cd\" ab 17 ?");
        for (int k = 0; k < 40; k++) {
            x.feed(0x40404040, 0x40404040, 0x40404040, 0x40404040, 0x40404040);
        }
        x.end(30);
        due("while feeding: tokens", x.tokens(), 5);
        due("while feeding: code", x.code(1, 1), 'd');
        due("while feeding: same", x.same(0, 2), 1);
        due("while feeding: worth", x.worth(3), 17);
        due("while feeding: from", x.from(4), 14);
        due("while feeding: place", x.place(), -1);
        due("while feeding: cut", x.cut(), -1);
        due("while feeding: none now", x.tokens(), 0);
        x.feed(0, 0, 0, 0, 0);
        due("while feeding: the fault stays", x.place(), 0);
    }

    private static void noSuchToken() {
        TokenRows x = new TokenRows();
        noneAt(x, 0);
        cut(x, "a 1 \"s\" int ;");
        noneAt(x, 5);
        for (int i : WRONG_INDEXES) {
            noneAt(x, i);
        }
        cut(x, "a @ 1 \"s\" int ;");
        for (int i = 1; i < 6; i++) {
            noneAt(x, i);
        }
    }

    private static void sameBytes() {
        TokenRows x = new TokenRows();
        cut(x, "a a b ab 97 'a' \"a\" \"a\" 0x61 0X61 int int + ++ 097 \"\\'\" \"'\" a");
        due("same: a name and itself", x.same(0, 0), 1);
        due("same: two names", x.same(0, 1), 1);
        due("same: other names", x.same(0, 2), 0);
        due("same: a longer name", x.same(0, 3), 0);
        due("same: a shorter name", x.same(3, 0), 0);
        due("same: one worth, other bytes", x.same(4, 5), 0);
        due("same: one worth, other digits", x.same(4, 8), 0);
        due("same: one worth, more digits", x.same(4, 15), 0);
        due("same: strings", x.same(6, 7), 1);
        due("same: words", x.same(11, 12), 1);
        due("same: signs", x.same(13, 14), 0);
        due("same: one code, other bytes", x.same(16, 17), 0);
        due("same: the first and the last", x.same(0, 18), 1);
        due("same: the last and the first", x.same(18, 0), 1);
        due("same: a string and a number", x.same(5, 6), 0);
        for (int i : WRONG_INDEXES) {
            due("same: none and one", x.same(i, 0), 0);
            due("same: one and none", x.same(0, i), 0);
            due("same: none and itself", x.same(i, i), 0);
        }
        due("same: one behind the last", x.same(19, 19), 0);
        cut(x, "abc abd bbc");
        due("same: the last byte differs", x.same(0, 1), 0);
        due("same: the first byte differs", x.same(0, 2), 0);
    }
}

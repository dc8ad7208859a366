import java.nio.charset.StandardCharsets;

/** What the tests share: texts that are fed and cut, and answers that are due. */
abstract class TokenCalls {
    private static int wrong = 0;

    /** Ends the test: with exit code 1 if an answer was not as due. */
    static void finish() {
        System.out.println(wrong == 0 ? "all answers are as due" : wrong + " answers are not as due");
        if (wrong != 0) {
            System.exit(1);
        }
    }

    static void due(String call, boolean got, int want) {
        due(call, got ? 1 : 0, want);
    }

    static void due(String call, int got, int want) {
        if (got != want) {
            wrong++;
            System.out.println(call + " answered " + got + ", due is " + want);
        }
    }

    static int cut(TokenRows x, String text) {
        feedAll(x, text);
        due("end of a text", x.end(text.length()), text.length());
        return x.cut();
    }

    /** Feeds the text in twenties; the last one is filled up with bytes 0. */
    static void feedAll(TokenRows x, String text) {
        byte[] bytes = text.getBytes(StandardCharsets.ISO_8859_1);
        for (int at = 0; at < bytes.length; at += 20) {
            x.feed(four(bytes, at), four(bytes, at + 4), four(bytes, at + 8), four(bytes, at + 12), four(bytes, at + 16));
        }
    }

    static int four(byte[] bytes, int at) {
        int all = 0;
        for (int k = at; k < at + 4; k++) {
            all = all << 8 | (k < bytes.length ? bytes[k] & 255 : 0);
        }
        return all;
    }

    /** The text is one token, also between two others. */
    static void one(String text, int kind, int which, int worth) {
        TokenRows x = new TokenRows();
        due(text + ": alone", cut(x, text), 1);
        due(text + ": alone, length", x.length(0), text.length());
        due(text + ": among others", cut(x, ";\n" + text + " ;"), 3);
        due(text + ": kind", x.kind(1), kind);
        due(text + ": which", x.which(1), which);
        due(text + ": from", x.from(1), 2);
        due(text + ": length", x.length(1), text.length());
        due(text + ": line", x.line(1), 2);
        due(text + ": worth", x.worth(1), worth);
        due(text + ": place", x.place(), -1);
        due(text + ": codes", x.codes(1) >= 0, kind == 3 ? 1 : 0);
    }

    static void tokensAt(String text, int... places) {
        TokenRows x = new TokenRows();
        due(text + ": cut", cut(x, text), places.length);
        due(text + ": place", x.place(), -1);
        for (int i = 0; i < places.length; i++) {
            due(text + ": from " + i, x.from(i), places[i]);
        }
    }

    static void faultAt(String text, int place, int tokens) {
        TokenRows x = new TokenRows();
        due(text + ": cut", cut(x, text), -1);
        due(text + ": place", x.place(), place);
        due(text + ": tokens", x.tokens(), tokens);
    }

    static void noneAt(TokenRows x, int i) {
        due("none: kind " + i, x.kind(i), 0);
        due("none: which " + i, x.which(i), -1);
        due("none: from " + i, x.from(i), -1);
        due("none: length " + i, x.length(i), 0);
        due("none: line " + i, x.line(i), 0);
        due("none: worth " + i, x.worth(i), 0);
        due("none: codes " + i, x.codes(i), -1);
        due("none: code " + i, x.code(i, 0), -1);
        due("none: same " + i, x.same(i, i), 0);
    }
}

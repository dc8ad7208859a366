import java.math.BigInteger;
import java.nio.charset.StandardCharsets;
import java.util.ArrayList;
import java.util.Arrays;
import java.util.List;
import java.util.regex.Matcher;
import java.util.regex.Pattern;

/** Long runs of calls, compared with a second, slow cutter that is written with patterns. */
public final class OracleRuns {
    private static final int RUNS = 4000;
    private static final int CALLS = 512;
    private static final List<String> WORDS =
        Arrays.asList("int void static extern if else while do for break continue return".split(" "));
    private static final List<String> SIGNS = Arrays.asList(
        ("( ) { } [ ] , ; ? : = += -= *= /= %= &= |= ^= <<= >>= || && | ^ & == != < > <= >= << >> "
            + "+ - * / % ! ~ ++ --").split(" "));
    private static final Pattern PLAIN_BLANK = Pattern.compile("[\\t\\n\\r ]+");
    private static final Pattern NAME = Pattern.compile("[A-Za-z_][A-Za-z_0-9]*");
    private static final Pattern HEX = Pattern.compile("0x([0-9a-fA-F]+)");
    private static final Pattern DIGITS = Pattern.compile("[0-9]+");
    private static final Pattern QUOTED = Pattern.compile("'(?:[ -&(-\\[\\]-~]|\\\\[n0\\\\'\"])'");
    private static final Pattern STRING = Pattern.compile("\"(?:[ !#-\\[\\]-~]|\\\\[n0\\\\'\"]){0,200}\"");
    private static final Pattern NO_TEXT = Pattern.compile("[^\\t\\n\\r -~]");
    private static final String[] PIECES = {
        "a", "b", "x", "_", "int", "do", "while", "return", "continue", "0", "0x", "0x1F", "0xfffffffff", "17", "2147483647",
        "2147483648", "'a'", "'\\n'", "'", "\"", "\\", "\\\"", "\\0", "\"ab\"", "\"\\n\\\\\"", "\"\"", "//", "/*", "*/", "/", "*",
        "\n", "\n", " ", " ", " ", "\t", "\r", "<", ">", "=", "+", "-", "&", "|", "!", "^", "%", "~", "<<=", ">>=", "(", ")",
        "{", "}", "[", "]", ",", ";", "?", ":", "abcdefghijkl", "00000", "Z9",
    };
    private static final String[] RARE = {"@", "#", "\u0000", "\u0007", "\u007f", "\u0080", "\u00ff", "."};

    private record Token(int kind, int which, int from, String bytes, int line, int worth, int[] codes) { }

    private static int wrong = 0;
    private static long seed = 20260101L;

    private final TokenRows rows = new TokenRows();
    private final StringBuilder tray = new StringBuilder();
    private List<Token> tokens = new ArrayList<>();
    private int place = -1;
    private int calls = 0;

    public static void main(String[] args) {
        for (int run = 0; run < RUNS && wrong < 20; run++) {
            new OracleRuns().run(run);
        }
        System.out.println(wrong == 0 ? "all answers are as due" : wrong + " answers are not as due");
        if (wrong != 0) {
            System.exit(1);
        }
    }

    private void run(int run) {
        boolean clean = run % 2 == 0;
        while (calls < CALLS - 60) {
            feedText(someText(clean));
            if (pick(4) > 0) {
                cutBoth();
            }
            for (int k = pick(30); k > 0; k--) {
                ask();
            }
        }
    }

    private String someText(boolean clean) {
        StringBuilder text = new StringBuilder();
        int lowest = clean ? 32 : 0;
        int bytes = clean ? 95 : 256;
        for (int k = pick(8) == 0 ? pick(40) : 0; k > 0; k--) {
            text.append((char) (lowest + pick(bytes)));
        }
        for (int k = pick(pick(8) == 0 ? 120 : 30); k > 0; k--) {
            text.append(!clean && pick(40) == 0 ? RARE[pick(RARE.length)] : PIECES[pick(PIECES.length)]);
            if (clean && pick(3) > 0) {
                text.append(' ');
            }
        }
        return text.toString();
    }

    private void feedText(String text) {
        for (int at = 0; at < text.length() && calls < CALLS - 40; at += 20) {
            StringBuilder twenty = new StringBuilder(text.substring(at, Math.min(at + 20, text.length())));
            int counts = twenty.length();
            while (twenty.length() < 20) {
                twenty.append((char) pick(256));
            }
            tray.append(twenty);
            byte[] b = twenty.toString().getBytes(StandardCharsets.ISO_8859_1);
            int[] five = new int[5];
            for (int k = 0; k < 20; k++) {
                five[k / 4] = five[k / 4] << 8 | b[k] & 255;
            }
            due("feed", rows.feed(five[0], five[1], five[2], five[3], five[4]), tray.length());
            if (counts < 20) {
                endBoth(tray.length() - 20 + counts);
            }
        }
        if (pick(5) == 0) {
            endBoth(pick(tray.length() + 40) - 10);
        }
    }

    private void endBoth(int n) {
        boolean refused = n < 0 || n > tray.length();
        if (!refused) {
            tray.setLength(n);
        }
        due("end(" + n + ")", rows.end(n), refused ? -1 : n);
    }

    private void cutBoth() {
        String text = tray.toString();
        tray.setLength(0);
        cutByPatterns(text);
        due("cut of " + text, rows.cut(), place < 0 ? tokens.size() : -1);
        due("place in " + text, rows.place(), place);
        due("tokens of " + text, rows.tokens(), tokens.size());
    }

    private void ask() {
        int i = pick(12) == 0 ? (int) next() : pick(tokens.size() + 3) - 1;
        int j = pick(12) == 0 ? (int) next() : pick(tokens.size() + 3) - 1;
        Token t = i < 0 || i >= tokens.size() ? null : tokens.get(i);
        Token u = j < 0 || j >= tokens.size() ? null : tokens.get(j);
        switch (pick(11)) {
            case 0 -> due("kind", rows.kind(i), t == null ? 0 : t.kind);
            case 1 -> due("which", rows.which(i), t == null ? -1 : t.which);
            case 2 -> due("from", rows.from(i), t == null ? -1 : t.from);
            case 3 -> due("length", rows.length(i), t == null ? 0 : t.bytes.length());
            case 4 -> due("line", rows.line(i), t == null ? 0 : t.line);
            case 5 -> due("worth", rows.worth(i), t == null ? 0 : t.worth);
            case 6 -> due("codes", rows.codes(i), t == null || t.codes == null ? -1 : t.codes.length);
            case 7 -> {
                int most = t == null || t.codes == null ? 0 : t.codes.length;
                int k = pick(12) == 0 ? (int) next() : pick(most + 3) - 1;
                due("code", rows.code(i, k), k < 0 || k >= most ? -1 : t.codes[k]);
            }
            case 8 -> due("same", rows.same(i, j) ? 1 : 0, t != null && u != null && t.bytes.equals(u.bytes) ? 1 : 0);
            case 9 -> due("place", rows.place(), place);
            default -> due("tokens", rows.tokens(), tokens.size());
        }
    }

    private void cutByPatterns(String text) {
        tokens = new ArrayList<>();
        place = -1;
        int at = 0;
        while (at < text.length() && place < 0) {
            String blank = blankAt(text, at);
            Matcher stranger = NO_TEXT.matcher(blank);
            if (stranger.find()) {
                place = at + stranger.start();
            } else if (blank.startsWith("/*") && (blank.length() < 4 || !blank.endsWith("*/"))) {
                place = at;
            } else if (!blank.isEmpty()) {
                at += blank.length();
            } else {
                Token token = tokenAt(text, at);
                if (token == null) {
                    place = at;
                } else {
                    tokens.add(token);
                    at += token.bytes.length();
                }
            }
        }
    }

    private static String blankAt(String text, int at) {
        if (text.startsWith("//", at)) {
            int stop = text.indexOf('\n', at);
            return text.substring(at, stop < 0 ? text.length() : stop);
        }
        if (text.startsWith("/*", at)) {
            int stop = text.indexOf("*/", at + 2);
            return text.substring(at, stop < 0 ? text.length() : stop + 2);
        }
        return match(PLAIN_BLANK, text, at);
    }

    private static Token tokenAt(String text, int at) {
        int line = 1 + (int) text.substring(0, at).chars().filter(c -> c == '\n').count();
        String name = match(NAME, text, at);
        if (!name.isEmpty()) {
            int word = WORDS.indexOf(name);
            return name.length() > 24 ? null : new Token(word < 0 ? 1 : 4, word, at, name, line, 0, null);
        }
        String hex = match(HEX, text, at);
        if (!hex.isEmpty()) {
            return hex.length() > 10 ? null : new Token(2, -1, at, hex, line, (int) Long.parseLong(hex.substring(2), 16), null);
        }
        String digits = match(DIGITS, text, at);
        if (!digits.isEmpty()) {
            BigInteger worth = new BigInteger(digits);
            return worth.bitLength() > 31 ? null : new Token(2, -1, at, digits, line, worth.intValue(), null);
        }
        String quoted = match(QUOTED, text, at);
        if (!quoted.isEmpty()) {
            return new Token(2, -1, at, quoted, line, codesOf(quoted)[0], null);
        }
        String string = match(STRING, text, at);
        if (!string.isEmpty()) {
            return new Token(3, -1, at, string, line, 0, codesOf(string));
        }
        String best = "";
        for (String sign : SIGNS) {
            if (text.startsWith(sign, at) && sign.length() > best.length()) {
                best = sign;
            }
        }
        return best.isEmpty() ? null : new Token(5, SIGNS.indexOf(best), at, best, line, 0, null);
    }

    private static int[] codesOf(String quoted) {
        String inside = quoted.substring(1, quoted.length() - 1);
        List<Integer> codes = new ArrayList<>();
        for (int k = 0; k < inside.length(); k++) {
            char c = inside.charAt(k);
            if (c == '\\') {
                k++;
                c = inside.charAt(k);
                c = c == 'n' ? '\n' : c == '0' ? '\0' : c;
            }
            codes.add((int) c);
        }
        return codes.stream().mapToInt(Integer::intValue).toArray();
    }

    private static String match(Pattern pattern, String text, int at) {
        Matcher matcher = pattern.matcher(text).region(at, text.length());
        return matcher.lookingAt() ? matcher.group() : "";
    }

    private static long next() {
        seed = seed * 6364136223846793005L + 1442695040888963407L;
        return seed >>> 32;
    }

    private static int pick(int below) {
        return (int) (next() % below);
    }

    private void due(String call, int got, int want) {
        calls++;
        if (got != want) {
            wrong++;
            System.out.println(call + " answered " + got + ", due is " + want);
        }
    }
}

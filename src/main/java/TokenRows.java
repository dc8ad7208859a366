/**
 * Cuts the text of a unit of a small C into its tokens: names, words, numbers, strings and signs,
 * each with its place, its line, and what it tells.
 */
public final class TokenRows {
    private static final int TRAY_LIMIT = 16000;
    private static final int FED_LIMIT = 65536;
    private static final int FEED_BYTES = 20;
    private static final int NAME_LIMIT = 24;
    private static final int HEX_LIMIT = 8;
    private static final int CODES_LIMIT = 200;
    private static final long NUMBER_LIMIT = 2147483647L;

    private static final int NAME = 1;
    private static final int NUMBER = 2;
    private static final int STRING = 3;
    private static final int WORD = 4;
    private static final int SIGN = 5;

    private static final int NO_BYTE = -1;
    private static final int NEW_LINE = 10;

    /** The words in the document's order, which is their numbering; a space ends each of them. */
    private static final char[] WORDS = {
        'i', 'n', 't', ' ',
        'v', 'o', 'i', 'd', ' ',
        's', 't', 'a', 't', 'i', 'c', ' ',
        'e', 'x', 't', 'e', 'r', 'n', ' ',
        'i', 'f', ' ',
        'e', 'l', 's', 'e', ' ',
        'w', 'h', 'i', 'l', 'e', ' ',
        'd', 'o', ' ',
        'f', 'o', 'r', ' ',
        'b', 'r', 'e', 'a', 'k', ' ',
        'c', 'o', 'n', 't', 'i', 'n', 'u', 'e', ' ',
        'r', 'e', 't', 'u', 'r', 'n', ' ',
    };

    private byte[] tray;
    private int traySize;
    private int fedInAll;

    // The tokens are told while the next text is fed, so the text that was cut has bytes of its own.
    private byte[] text;
    private int textSize;
    private int lineNow;
    private int fault;

    private final int[] kinds;
    private final int[] starts;
    private final int[] sizes;
    private final int[] lines;
    // A word's or sign's number, a number's worth, how many codes a string has; 0 of a name.
    private final int[] tells;
    private int count;

    public TokenRows() {
        tray = new byte[TRAY_LIMIT];
        text = new byte[TRAY_LIMIT];
        kinds = new int[TRAY_LIMIT];
        starts = new int[TRAY_LIMIT];
        sizes = new int[TRAY_LIMIT];
        lines = new int[TRAY_LIMIT];
        tells = new int[TRAY_LIMIT];
        traySize = 0;
        fedInAll = 0;
        textSize = 0;
        lineNow = 1;
        fault = -1;
        count = 0;
    }

    public int feed(int a, int b, int c, int d, int e) {
        if (traySize + FEED_BYTES > TRAY_LIMIT || fedInAll + FEED_BYTES > FED_LIMIT) {
            return -1;
        }
        putInt(a);
        putInt(b);
        putInt(c);
        putInt(d);
        putInt(e);
        fedInAll += FEED_BYTES;
        return traySize;
    }

    public int end(int n) {
        if (n < 0 || n > traySize) {
            return -1;
        }
        traySize = n;
        return n;
    }

    public int cut() {
        takeTray();
        int at = 0;
        // Each step passes at least one byte, so there are no more steps than bytes.
        for (int step = 0; step < textSize && at < textSize && fault < 0; step++) {
            at = pastBlankOrToken(at);
        }
        return fault < 0 ? count : -1;
    }

    public int place() {
        return fault;
    }

    public int tokens() {
        return count;
    }

    public int kind(int i) {
        return isToken(i) ? kinds[i] : 0;
    }

    public int which(int i) {
        return isOfKind(i, WORD) || isOfKind(i, SIGN) ? tells[i] : -1;
    }

    public int from(int i) {
        return isToken(i) ? starts[i] : -1;
    }

    public int length(int i) {
        return isToken(i) ? sizes[i] : 0;
    }

    public int line(int i) {
        return isToken(i) ? lines[i] : 0;
    }

    public int worth(int i) {
        return isOfKind(i, NUMBER) ? tells[i] : 0;
    }

    public int codes(int i) {
        return isOfKind(i, STRING) ? tells[i] : -1;
    }

    public int code(int i, int k) {
        if (!isOfKind(i, STRING) || k < 0 || k >= tells[i]) {
            return -1;
        }
        int at = starts[i] + 1;
        for (int passed = 0; passed < k; passed++) {
            at += codeWidth(at, '"');
        }
        return codeAt(at);
    }

    public boolean same(int i, int j) {
        if (!isToken(i) || !isToken(j) || sizes[i] != sizes[j]) {
            return false;
        }
        for (int k = 0; k < sizes[i]; k++) {
            if (byteAt(starts[i] + k) != byteAt(starts[j] + k)) {
                return false;
            }
        }
        return true;
    }

    private void putInt(int four) {
        putByte(four >>> 24);
        putByte(four >>> 16);
        putByte(four >>> 8);
        putByte(four);
    }

    private void putByte(int low) {
        if (traySize >= 0 && traySize < tray.length) {
            tray[traySize] = (byte) low;
            traySize++;
        }
    }

    /** Makes the tray's bytes the text to cut, and the old text's bytes the empty tray. */
    private void takeTray() {
        byte[] spare = text;
        text = tray;
        textSize = traySize;
        tray = spare;
        traySize = 0;
        lineNow = 1;
        fault = -1;
        count = 0;
    }

    /** The place behind the blank or token that begins here; any place if there is a fault. */
    private int pastBlankOrToken(int at) {
        int first = byteAt(at);
        if (isBlankByte(first)) {
            countLine(first);
            return at + 1;
        }
        if (first == '/' && byteAt(at + 1) == '/') {
            return pastLineComment(at);
        }
        if (first == '/' && byteAt(at + 1) == '*') {
            return pastStarComment(at);
        }
        if (isLetter(first)) {
            return pastName(at);
        }
        if (isDigit(first)) {
            return isHexNumber(at) ? pastHexNumber(at) : pastDigits(at);
        }
        if (first == '\'') {
            return pastQuotedCode(at);
        }
        if (first == '"') {
            return pastString(at);
        }
        return pastSign(at);
    }

    private int pastLineComment(int at) {
        for (int p = at + 2; p < textSize; p++) {
            int b = byteAt(p);
            if (b == NEW_LINE) {
                return p;
            }
            if (!mayOccur(b)) {
                return fail(p);
            }
        }
        return textSize;
    }

    private int pastStarComment(int at) {
        for (int p = at + 2; p < textSize; p++) {
            int b = byteAt(p);
            if (b == '*' && byteAt(p + 1) == '/') {
                return p + 2;
            }
            if (!mayOccur(b)) {
                return fail(p);
            }
            countLine(b);
        }
        return fail(at);
    }

    private int pastName(int at) {
        int next = at + 1;
        while (next < textSize && isNamePart(byteAt(next))) {
            next++;
        }
        if (next - at > NAME_LIMIT) {
            return fail(at);
        }
        int word = wordNumber(at, next - at);
        return word >= 0 ? keep(WORD, word, at, next) : keep(NAME, 0, at, next);
    }

    private int pastDigits(int at) {
        long worth = 0;
        int next = at;
        while (next < textSize && isDigit(byteAt(next))) {
            // Held just above the limit, so that no row of digits can wrap it around.
            worth = Math.min(worth * 10 + (byteAt(next) - '0'), NUMBER_LIMIT + 1);
            next++;
        }
        return worth > NUMBER_LIMIT ? fail(at) : keep(NUMBER, (int) worth, at, next);
    }

    private boolean isHexNumber(int at) {
        return byteAt(at) == '0' && byteAt(at + 1) == 'x' && hexDigit(byteAt(at + 2)) >= 0;
    }

    private int pastHexNumber(int at) {
        int worth = 0;
        int next = at + 2;
        while (next < textSize && hexDigit(byteAt(next)) >= 0) {
            worth = worth << 4 | hexDigit(byteAt(next));
            next++;
        }
        return next - at - 2 > HEX_LIMIT ? fail(at) : keep(NUMBER, worth, at, next);
    }

    private int pastQuotedCode(int at) {
        int width = codeWidth(at + 1, '\'');
        int close = at + 1 + width;
        if (width == 0 || byteAt(close) != '\'') {
            return fail(at);
        }
        return keep(NUMBER, codeAt(at + 1), at, close + 1);
    }

    private int pastString(int at) {
        int next = at + 1;
        for (int passed = 0; passed <= CODES_LIMIT; passed++) {
            if (byteAt(next) == '"') {
                return keep(STRING, passed, at, next + 1);
            }
            int width = codeWidth(next, '"');
            if (width == 0) {
                return fail(at);
            }
            next += width;
        }
        return fail(at);
    }

    private int pastSign(int at) {
        int first = byteAt(at);
        int second = byteAt(at + 1);
        int three = signOfThree(first, second, byteAt(at + 2));
        if (three >= 0) {
            return keep(SIGN, three, at, at + 3);
        }
        int two = signOfTwo(first, second);
        if (two >= 0) {
            return keep(SIGN, two, at, at + 2);
        }
        int one = signOfOne(first);
        return one >= 0 ? keep(SIGN, one, at, at + 1) : fail(at);
    }

    private int keep(int kind, int tell, int at, int next) {
        if (count >= 0 && count < kinds.length) {
            kinds[count] = kind;
            tells[count] = tell;
            starts[count] = at;
            sizes[count] = next - at;
            lines[count] = lineNow;
            count++;
        }
        return next;
    }

    private int fail(int at) {
        fault = at;
        return at;
    }

    private void countLine(int b) {
        if (b == NEW_LINE) {
            lineNow++;
        }
    }

    private boolean isToken(int i) {
        return i >= 0 && i < count && i < kinds.length;
    }

    private boolean isOfKind(int i, int wanted) {
        return isToken(i) && kinds[i] == wanted;
    }

    private int byteAt(int at) {
        if (at < 0 || at >= textSize || at >= text.length) {
            return NO_BYTE;
        }
        return text[at] & 255;
    }

    /** How many bytes the code that begins here has in these quotes; 0 if none begins. */
    private int codeWidth(int at, int quote) {
        int b = byteAt(at);
        if (b == '\\') {
            return escapedCode(byteAt(at + 1)) >= 0 ? 2 : 0;
        }
        return b >= 32 && b <= 126 && b != quote ? 1 : 0;
    }

    private int codeAt(int at) {
        int b = byteAt(at);
        return b == '\\' ? escapedCode(byteAt(at + 1)) : b;
    }

    /** The number of the word that these bytes spell; -1 if they spell none. */
    private int wordNumber(int at, int size) {
        int word = 0;
        // How many letters of the word are as they should be; -1 once one is not.
        int agreed = 0;
        for (int k = 0; k < WORDS.length; k++) {
            if (WORDS[k] == ' ') {
                if (agreed == size) {
                    return word;
                }
                word++;
                agreed = 0;
            } else if (agreed >= 0 && agreed < size && byteAt(at + agreed) == WORDS[k]) {
                agreed++;
            } else {
                agreed = -1;
            }
        }
        return -1;
    }

    private static boolean mayOccur(int b) {
        return b >= 32 && b <= 126 || isBlankByte(b);
    }

    private static boolean isBlankByte(int b) {
        return b == 9 || b == NEW_LINE || b == 13 || b == 32;
    }

    private static boolean isLetter(int b) {
        return b >= 'a' && b <= 'z' || b >= 'A' && b <= 'Z' || b == '_';
    }

    private static boolean isDigit(int b) {
        return b >= '0' && b <= '9';
    }

    private static boolean isNamePart(int b) {
        return isLetter(b) || isDigit(b);
    }

    private static int hexDigit(int b) {
        if (isDigit(b)) {
            return b - '0';
        }
        if (b >= 'a' && b <= 'f') {
            return b - 'a' + 10;
        }
        return b >= 'A' && b <= 'F' ? b - 'A' + 10 : -1;
    }

    private static int escapedCode(int b) {
        switch (b) {
            case 'n': return 10;
            case '0': return 0;
            case '\\': return '\\';
            case '\'': return '\'';
            case '"': return '"';
            default: return -1;
        }
    }

    private static int signOfThree(int first, int second, int third) {
        if (first != second || third != '=') {
            return -1;
        }
        return first == '<' ? 19 : first == '>' ? 20 : -1;
    }

    private static int signOfTwo(int first, int second) {
        if (second == '=') {
            return signWithEqual(first);
        }
        return second == first ? signOfTwins(first) : -1;
    }

    private static int signWithEqual(int first) {
        switch (first) {
            case '+': return 11;
            case '-': return 12;
            case '*': return 13;
            case '/': return 14;
            case '%': return 15;
            case '&': return 16;
            case '|': return 17;
            case '^': return 18;
            case '=': return 26;
            case '!': return 27;
            case '<': return 30;
            case '>': return 31;
            default: return -1;
        }
    }

    private static int signOfTwins(int first) {
        switch (first) {
            case '|': return 21;
            case '&': return 22;
            case '<': return 32;
            case '>': return 33;
            case '+': return 41;
            case '-': return 42;
            default: return -1;
        }
    }

    private static int signOfOne(int first) {
        switch (first) {
            case '(': return 0;
            case ')': return 1;
            case '{': return 2;
            case '}': return 3;
            case '[': return 4;
            case ']': return 5;
            case ',': return 6;
            case ';': return 7;
            case '?': return 8;
            case ':': return 9;
            case '=': return 10;
            case '|': return 23;
            case '^': return 24;
            case '&': return 25;
            case '<': return 28;
            case '>': return 29;
            case '+': return 34;
            case '-': return 35;
            case '*': return 36;
            case '/': return 37;
            case '%': return 38;
            case '!': return 39;
            case '~': return 40;
            default: return -1;
        }
    }
}

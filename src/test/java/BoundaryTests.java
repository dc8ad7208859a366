/**
 * One test for each sentence of the document that names a boundary case: at the boundary, and beside it
 * on both sides. The sentence stands above its test.
 */
public final class BoundaryTests extends TokenCalls {
    private static final int MOST_CALLS = 512;
    private static final int LEAST = Integer.MIN_VALUE;
    private static final int GREATEST = Integer.MAX_VALUE;
    /** Of each kind one: 0 a name, 1 a number, 2 a string, 3 a word, 4 a sign. */
    private static final String ALL_KINDS = "ab 17 \"cde\" int +=";

    public static void main(String[] args) {
        terms();
        changes();
        questions();
        finish();
    }

    private static void terms() {
        bytesOfAText();
        plainBlanks();
        lineBlankEndsBeforeTen();
        lineBlankEndsAtTheEnd();
        starBlankEndsAtStarAndSlash();
        firstByteOfAName();
        nextByteOfAName();
        lengthOfAName();
        wordsAreNoNames();
        digitsUpToTheGreatest();
        digitsOfSixteen();
        howManyDigitsOfSixteen();
        sixteenIsThirtyTwoBits();
        zeroAndX();
        oneCodeInQuotes();
        codesInAString();
        plainCodes();
        escapedCodes();
        longestToken();
        endOfTheTextEndsTheToken();
        linesOfTokens();
        faultIsAByteThatMayNotOccur();
        faultInABlank();
        faultInsideQuotes();
        faultThatBeginsNothing();
        faultIsTheFirstByteElse();
        faultIsTheFirstOne();
    }

    private static void changes() {
        newObject();
        newObjectsShareNothing();
        callsOfAnObject();
        feedTakesTheHighestByteFirst();
        feedUpToTheTraysLimit();
        feedUpToTheLimitInAll();
        refusedFeedLeavesAll();
        endAtItsLimits();
        endTakesTheRestAway();
        refusedEndLeavesAll();
        cutOfNothing();
        cutUsesTheTextUp();
        cutAfterAFault();
        cutForgetsTheOneBefore();
        cutOfManyTokens();
    }

    private static void questions() {
        placeOfTheLatestCut();
        tokensTold();
        noSuchToken();
        noTokenBehindAFault();
        kindsOfTokens();
        whichOfWordsAndSigns();
        fromFirstToLast();
        lengthFromOneOn();
        worthOfOtherKinds();
        codesOfOtherKinds();
        codeAtItsLimits();
        sameBytes();
        sameIfOneIsNone();
        questionsChangeNothing();
    }

    // "A TEXT has bytes 9, 10, 13, 32 .. 126."
    private static void bytesOfAText() {
        for (int b = 0; b < 256; b++) {
            if (mayOccur(b)) {
                due("byte " + b + " in a blank", cut(new TokenRows(), "/*" + (char) b + " */"), 0);
            } else {
                faultAt("/*" + (char) b + " */", 2, 0);
            }
        }
        for (int b : new int[] {8, 11, 12, 14, 31, 127, 128, 160, 255}) {
            faultAt("a " + (char) b, 2, 1);
        }
        tokensAt("a \t", 0);
        tokensAt("a \n", 0);
        tokensAt("a \r", 0);
        tokensAt("a  ", 0);
        tokensAt("a !", 0, 2);
        tokensAt("a }~", 0, 2, 3);
    }

    // "BLANKS are 9, 10, 13, 32 .."
    private static void plainBlanks() {
        for (char blank : new char[] {9, 10, 13, 32}) {
            tokensAt(blank + "a" + blank + "b" + blank, 1, 3);
            tokensAt("" + blank);
            tokensAt("" + blank + blank + "1", 2);
        }
        tokensAt("ab", 0);
        tokensAt("\t\n\r ");
    }

    // ".. // up to before the next 10 .."
    private static void lineBlankEndsBeforeTen() {
        tokensAt("//\na", 3);
        tokensAt("//x\na", 4);
        tokensAt("//\ta\na", 5);
        tokensAt("//\ra\na", 5);
        tokensAt("//\n\na", 4);
        tokensAt("/// /* \"'\n*/", 10, 11);
        tokensAt("/\n/", 0, 2);
        TokenRows x = new TokenRows();
        cut(x, "//\na");
        due("the 10 behind // counts as a line", x.line(0), 2);
    }

    // ".. or the end .."
    private static void lineBlankEndsAtTheEnd() {
        tokensAt("//");
        tokensAt("//x");
        tokensAt("a//", 0);
        tokensAt("a//\n", 0);
        tokensAt("a/", 0, 1);
    }

    // ".. and from a slash and a star to the next star and slash."
    private static void starBlankEndsAtStarAndSlash() {
        tokensAt("/**/");
        tokensAt("/**/a", 4);
        tokensAt("/***/a", 5);
        tokensAt("/****/a", 6);
        tokensAt("/* */a*/", 5, 6, 7);
        tokensAt("/*/*/a", 5);
        tokensAt("/*//*/a", 6);
        tokensAt("/* *x/ */a", 9);
        tokensAt("/*\n//*/a", 7);
        faultAt("/*", 0, 0);
        faultAt("/*/", 0, 0);
        faultAt("/**", 0, 0);
        faultAt("/** /", 0, 0);
        faultAt("a/* x *", 1, 1);
        faultAt("/**//*", 4, 0);
        faultAt("/* x */ a /* //*", 10, 1);
    }

    // "NAMES (a letter or _, .."
    private static void firstByteOfAName() {
        for (int b = 33; b <= 126; b++) {
            TokenRows x = new TokenRows();
            cut(x, (char) b + " ");
            due("a name begins with " + b, x.kind(0) == 1, isLetter(b) ? 1 : 0);
        }
    }

    // ".. then letters, digits, _; .."
    private static void nextByteOfAName() {
        for (int b = 32; b <= 126; b++) {
            TokenRows x = new TokenRows();
            cut(x, "a" + (char) b + "z");
            due("a name goes on with " + b, x.length(0), isLetter(b) || b >= '0' && b <= '9' ? 3 : 1);
        }
    }

    // ".. at most 24)"
    private static void lengthOfAName() {
        one("n".repeat(23), 1, -1, 0);
        one("n".repeat(24), 1, -1, 0);
        faultAt("n".repeat(25), 0, 0);
        faultAt("n".repeat(26), 0, 0);
        one("n".repeat(23) + "9", 1, -1, 0);
        faultAt("n".repeat(24) + "9", 0, 0);
        faultAt("n".repeat(24) + "_", 0, 0);
        one("_" + "0".repeat(23), 1, -1, 0);
        faultAt("_" + "0".repeat(24), 0, 0);
        tokensAt("n".repeat(24) + " n", 0, 25);
        tokensAt("n".repeat(24) + "\"\"", 0, 24);
        faultAt("a " + "n".repeat(25) + " b", 2, 1);
        faultAt("n".repeat(2 * 24), 0, 0);
        faultAt("n".repeat(256 + 24), 0, 0);
    }

    // "WORDS, which are no names: int void static extern if else while do for break continue return"
    private static void wordsAreNoNames() {
        String[] words = {"int", "void", "static", "extern", "if", "else", "while", "do", "for", "break", "continue", "return"};
        for (int w = 0; w < words.length; w++) {
            String word = words[w];
            one(word, 4, w, 0);
            one(word.substring(0, word.length() - 1), 1, -1, 0);
            one(word.substring(1), 1, -1, 0);
            one(word + word.charAt(word.length() - 1), 1, -1, 0);
            one(word + words[(w + 1) % words.length], 1, -1, 0);
            one(Character.toUpperCase(word.charAt(0)) + word.substring(1), 1, -1, 0);
            one(word.substring(0, word.length() - 1) + "_", 1, -1, 0);
            tokensAt(word + " " + word, 0, word.length() + 1);
        }
    }

    // "NUMBERS: digits (to 2147483647), .."
    private static void digitsUpToTheGreatest() {
        one("0", 2, -1, 0);
        one("1", 2, -1, 1);
        one("9", 2, -1, 9);
        one("10", 2, -1, 10);
        one("999999999", 2, -1, 999999999);
        one("1000000000", 2, -1, 1000000000);
        one("2147483639", 2, -1, 2147483639);
        one("2147483640", 2, -1, 2147483640);
        one("2147483646", 2, -1, 2147483646);
        one("2147483647", 2, -1, 2147483647);
        for (String great : new String[] {"2147483648", "2147483649", "2147483650", "2147483657", "2200000000", "3000000000",
            "4294967295", "4294967296", "4294967297", "6442450943", "9999999999", "10000000000", "21474836470",
            "9223372036854775807", "9223372036854775808", "18446744073709551615", "18446744073709551616",
            "18446744073709551617", "340282366920938463463374607431768211457"}) {
            faultAt(great, 0, 0);
            faultAt("a = " + great + ";", 4, 2);
        }
        one("00", 2, -1, 0);
        one("002147483647", 2, -1, 2147483647);
        faultAt("002147483648", 0, 0);
    }

    // "digits of sixteen 0 .. 9, a .. f, A .. F"
    private static void digitsOfSixteen() {
        for (int b = 32; b <= 126; b++) {
            int digit = Character.digit(b, 16);
            TokenRows x = new TokenRows();
            cut(x, "0x" + (char) b + " ");
            due("0x and " + b + ": length", x.length(0), digit < 0 ? 1 : 3);
            due("0x and " + b + ": worth", x.worth(0), Math.max(digit, 0));
            cut(x, "0x1" + (char) b + " ");
            due("0x1 and " + b + ": length", x.length(0), digit < 0 ? 3 : 4);
            due("0x1 and " + b + ": worth", x.worth(0), digit < 0 ? 1 : 16 + digit);
        }
    }

    // ".. or 0x and 1 to 8 digits of sixteen .."
    private static void howManyDigitsOfSixteen() {
        tokensAt("0x", 0, 1);
        one("0x1", 2, -1, 1);
        one("0x12", 2, -1, 0x12);
        one("0x1234567", 2, -1, 0x1234567);
        one("0x12345678", 2, -1, 0x12345678);
        faultAt("0x123456789", 0, 0);
        faultAt("0x123456789a", 0, 0);
        one("0x0000001", 2, -1, 1);
        one("0x00000001", 2, -1, 1);
        faultAt("0x000000001", 0, 0);
        faultAt("0x000000000", 0, 0);
        tokensAt("0x12345678 9", 0, 11);
        tokensAt("0x12345678g", 0, 10);
        faultAt("; 0x12345678f", 2, 1);
        faultAt("0x" + "f".repeat(16), 0, 0);
        faultAt("0x" + "f".repeat(256 + 8), 0, 0);
    }

    // ".. (32 bits, as an int), .."
    private static void sixteenIsThirtyTwoBits() {
        one("0x7ffffffe", 2, -1, GREATEST - 1);
        one("0x7fffffff", 2, -1, GREATEST);
        one("0x80000000", 2, -1, LEAST);
        one("0x80000001", 2, -1, LEAST + 1);
        one("0xfffffffe", 2, -1, -2);
        one("0xffffffff", 2, -1, -1);
        one("0xFFFFFFFF", 2, -1, -1);
        one("0x00000000", 2, -1, 0);
        one("0xfffffff", 2, -1, 0xfffffff);
    }

    // "0x without a digit of sixteen behind it is the number 0 and what begins with x."
    private static void zeroAndX() {
        TokenRows x = new TokenRows();
        for (String rest : new String[] {"x", "xg", "xG", "x_", "xyz", "xx1", "x" + "g".repeat(23)}) {
            due("0" + rest, cut(x, "0" + rest), 2);
            due("0" + rest + ": number", x.kind(0), 2);
            due("0" + rest + ": worth", x.worth(0), 0);
            due("0" + rest + ": one digit", x.length(0), 1);
            due("0" + rest + ": name", x.kind(1), 1);
            due("0" + rest + ": the name's place", x.from(1), 1);
            due("0" + rest + ": the name's length", x.length(1), rest.length());
        }
        tokensAt("0x;", 0, 1, 2);
        tokensAt("0x 1", 0, 1, 3);
        tokensAt("0x\n1", 0, 1, 3);
        tokensAt("0x/**/1", 0, 1, 6);
        faultAt("0x" + "g".repeat(24), 1, 1);
        faultAt("0x\u0001", 2, 2);
        one("0x0", 2, -1, 0);
        tokensAt("0X1", 0, 1);
        tokensAt("1x1", 0, 1);
        tokensAt("00x1", 0, 2);
        tokensAt("0y1", 0, 1);
    }

    // ".. or ' c ' (its code)"
    private static void oneCodeInQuotes() {
        faultAt("''", 0, 0);
        one("'a'", 2, -1, 'a');
        faultAt("'ab'", 0, 0);
        faultAt("'''", 0, 0);
        one("'\\''", 2, -1, '\'');
        faultAt("'\\'", 0, 0);
        faultAt("'\\'a'", 0, 0);
        tokensAt("'a''b'", 0, 3);
        faultAt("'a'b'", 4, 2);
        faultAt("'", 0, 0);
        faultAt("'a", 0, 0);
        faultAt("'a\n", 0, 0);
        faultAt("'a\"", 0, 0);
        faultAt("'a ", 0, 0);
        faultAt("'\\n", 0, 0);
        faultAt("'\\nn'", 0, 0);
    }

    // "STRINGS: \" c .. \" (at most 200 c);"
    private static void codesInAString() {
        String[] codes = {"s", " ", "\\n", "\\\"", "\\\\"};
        for (String c : codes) {
            for (int n : new int[] {0, 1, 2, 199, 200}) {
                TokenRows x = new TokenRows();
                due(n + " c", cut(x, "\"" + c.repeat(n) + "\""), 1);
                due(n + " c: codes", x.codes(0), n);
                due(n + " c: length", x.length(0), n * c.length() + 2);
                due(n + " c: the last one", x.code(0, n - 1) >= 0, n == 0 ? 0 : 1);
                due(n + " c: none behind it", x.code(0, n), -1);
            }
            for (int n : new int[] {201, 202, 256, 400, 456}) {
                faultAt(";\"" + c.repeat(n) + "\"", 1, 1);
            }
        }
        tokensAt("\"" + "s".repeat(200) + "\"\"" + "s".repeat(200) + "\"", 0, 202);
        faultAt("\"" + "s".repeat(199) + "\\nn\"", 0, 0);
        faultAt("\"" + "s".repeat(200), 0, 0);
        faultAt("\"" + "s".repeat(199), 0, 0);
    }

    // "c is 32 .. 126 but \ and ' (in a string: but \ and "), .."
    private static void plainCodes() {
        for (int b = 0; b < 256; b++) {
            boolean plain = b >= 32 && b <= 126 && b != '\\';
            if (plain && b != '\'') {
                one("'" + (char) b + "'", 2, -1, b);
            } else {
                faultAt("'" + (char) b + "'", 0, 0);
            }
            TokenRows x = new TokenRows();
            if (plain && b != '"') {
                due("in a string: " + b, cut(x, "\"" + (char) b + "z\""), 1);
                due("in a string, its code: " + b, x.code(0, 0), b);
                due("in a string, the next code: " + b, x.code(0, 1), 'z');
            } else if (b != '"') {
                faultAt("\"" + (char) b + "\"", 0, 0);
            }
        }
        faultAt("\"\"\"", 2, 1);
    }

    // ".. or one of \n (10) \0 (0) \\ \' \";"
    private static void escapedCodes() {
        for (int b = 0; b < 256; b++) {
            int code = b == 'n' ? 10 : b == '0' ? 0 : b == '\\' || b == '\'' || b == '"' ? b : -1;
            String escaped = "\\" + (char) b;
            if (code < 0) {
                faultAt("'" + escaped + "'", 0, 0);
                faultAt("\"" + escaped + "\"", 0, 0);
            } else {
                one("'" + escaped + "'", 2, -1, code);
                TokenRows x = new TokenRows();
                due("escaped in a string: " + b, cut(x, "\"a" + escaped + "b\""), 1);
                due("escaped in a string, codes: " + b, x.codes(0), 3);
                due("escaped in a string, its code: " + b, x.code(0, 1), code);
                due("escaped in a string, the next code: " + b, x.code(0, 2), 'b');
            }
        }
        faultAt("\"\\", 0, 0);
        faultAt("'\\", 0, 0);
        faultAt("\"\\\"", 0, 0);
        one("\"\\\\\"", 3, -1, 0);
        faultAt("\"\\\\\\\"", 0, 0);
    }

    // "TOKENS, the longest"
    private static void longestToken() {
        String[] signs = ("( ) { } [ ] , ; ? : = += -= *= /= %= &= |= ^= <<= >>= || && | ^ & == != < > <= >= << >> "
            + "+ - * / % ! ~ ++ --").split(" ");
        for (String first : signs) {
            for (String second : signs) {
                String both = first + second;
                if (!both.startsWith("//") && !both.startsWith("/*") && !both.startsWith("//", 1) && !both.startsWith("/*", 1)) {
                    longestFirst(both, signs);
                }
            }
        }
        tokensAt("a1", 0);
        tokensAt("1a", 0, 1);
        tokensAt("a 1", 0, 2);
        tokensAt("-1", 0, 1);
        tokensAt("intx", 0);
        tokensAt("int x", 0, 4);
        tokensAt("0x1f", 0);
        tokensAt("a\"\"'b'c", 0, 1, 3, 6);
    }

    private static void longestFirst(String text, String[] signs) {
        int longest = 0;
        int which = -1;
        for (int s = 0; s < signs.length; s++) {
            if (text.startsWith(signs[s]) && signs[s].length() > longest) {
                longest = signs[s].length();
                which = s;
            }
        }
        TokenRows x = new TokenRows();
        cut(x, text);
        due(text + ": the longest is first", x.length(0), longest);
        due(text + ": its number", x.which(0), which);
        due(text + ": the next place", x.from(1), longest < text.length() ? longest : -1);
    }

    // "Only the first n bytes of the tray count": the same bytes behind the end make no token longer.
    private static void endOfTheTextEndsTheToken() {
        endedAfter("n".repeat(25), 24, 1, -1);
        endedAfter("n".repeat(25), 25, -1, 0);
        endedAfter("21474836470", 10, 1, -1);
        endedAfter("21474836470", 11, -1, 0);
        endedAfter("0x123456789", 10, 1, -1);
        endedAfter("0x123456789", 11, -1, 0);
        endedAfter("0x1", 2, 2, -1);
        endedAfter("0x1", 3, 1, -1);
        endedAfter("\"a\"", 2, -1, 0);
        endedAfter("\"a\"", 3, 1, -1);
        endedAfter("\"\\n\"", 2, -1, 0);
        endedAfter("\"\\n\"", 3, -1, 0);
        endedAfter("\"\\n\"", 4, 1, -1);
        endedAfter("'a'", 1, -1, 0);
        endedAfter("'a'", 2, -1, 0);
        endedAfter("'a'", 3, 1, -1);
        endedAfter("'\\n'", 2, -1, 0);
        endedAfter("'\\n'", 3, -1, 0);
        endedAfter("/**/", 1, 1, -1);
        endedAfter("/**/", 2, -1, 0);
        endedAfter("/**/", 3, -1, 0);
        endedAfter("/**/", 4, 0, -1);
        endedAfter("//", 1, 1, -1);
        endedAfter("//", 2, 0, -1);
        endedAfter("<<=", 1, 1, -1);
        endedAfter("<<=", 2, 1, -1);
        endedAfter("<<=", 3, 1, -1);
        endedAfter("//\u0001", 2, 0, -1);
        endedAfter("//\u0001", 3, -1, 2);
        endedAfter("/*\u0001", 2, -1, 0);
        endedAfter("/*\u0001", 3, -1, 2);
        TokenRows x = new TokenRows();
        String[] signs = {"<", "<<", "<<="};
        int[] numbers = {28, 32, 19};
        for (int n = 1; n <= 3; n++) {
            feedAll(x, "<<=");
            x.end(n);
            x.cut();
            due(signs[n - 1] + " before the end", x.which(0), numbers[n - 1]);
            due(signs[n - 1] + " before the end: length", x.length(0), n);
        }
        cut(x, "interns");
        cut(x, "int");
        due("what an older text had behind the end does not count", x.kind(0), 4);
    }

    private static void endedAfter(String text, int n, int answer, int place) {
        TokenRows x = new TokenRows();
        // The bytes lie behind the end in both rows that the object may hold.
        for (int k = 0; k < 3; k++) {
            feedAll(x, text);
            x.end(n);
            due(text + " ended after " + n, x.cut(), answer);
            due(text + " ended after " + n + ": place", x.place(), place);
        }
    }

    // "Each token has a LINE: 1 and the bytes 10 before it."
    private static void linesOfTokens() {
        lineOfLast("a", 1);
        lineOfLast("\na", 2);
        lineOfLast("\n\na", 3);
        lineOfLast("a\n", 1);
        lineOfLast("a\nb", 2);
        lineOfLast("\ta", 1);
        lineOfLast("\ra", 1);
        lineOfLast("\r\na", 2);
        lineOfLast("\n\ra", 2);
        lineOfLast("//\na", 2);
        lineOfLast("a//\n", 1);
        lineOfLast("/*\n*/a", 2);
        lineOfLast("/*\n\n*/a", 3);
        lineOfLast("/**\n**/a", 2);
        lineOfLast("/**/\na", 2);
        lineOfLast("a/*\n*/", 1);
        lineOfLast("\"\\n\"a", 1);
        lineOfLast("'\\n'a", 1);
        lineOfLast("\n\"\\n\"", 2);
        lineOfLast("\n".repeat(127) + "a", 128);
        lineOfLast("\n".repeat(255) + "a", 256);
        lineOfLast("\n".repeat(256) + "a", 257);
        lineOfLast("\n".repeat(9000) + "a", 9001);
    }

    private static void lineOfLast(String text, int line) {
        TokenRows x = new TokenRows();
        cut(x, text);
        due("line in " + text.length() + " bytes", x.line(x.tokens() - 1), line);
        cut(x, "a");
        due("the next cut begins with line 1", x.line(0), 1);
    }

    // "A FAULT is the first place at which no token begins: a byte that may not occur, .."
    private static void faultIsAByteThatMayNotOccur() {
        for (int b = 0; b < 256; b++) {
            if (!mayOccur(b)) {
                String c = String.valueOf((char) b);
                faultAt(c, 0, 0);
                faultAt(c + c, 0, 0);
                faultAt(" " + c + "a", 1, 0);
                faultAt("a" + c, 1, 1);
                faultAt("1" + c, 1, 1);
                faultAt("0x" + c, 2, 2);
                faultAt("+" + c, 1, 1);
                faultAt("/" + c, 1, 1);
                faultAt("\"\"" + c, 2, 1);
                faultAt("n".repeat(24) + c, 24, 1);
                faultAt("2147483647" + c, 10, 1);
            }
        }
    }

    // ".. in a blank too, ended or not; .."
    private static void faultInABlank() {
        for (int b = 0; b < 256; b++) {
            String c = String.valueOf((char) b);
            if (mayOccur(b)) {
                tokensAt("a /* " + c + " */", 0);
                tokensAt("a // " + c + "// ", 0);
                faultAt("a /* " + c + " ", 2, 1);
            } else {
                faultAt("a /*" + c + "*/ b", 4, 1);
                faultAt("a /* *" + c + "/ */ b", 6, 1);
                faultAt("a /*" + c, 4, 1);
                faultAt("a /* " + c + " ", 5, 1);
                faultAt("a /*\n\n" + c + c, 6, 1);
                faultAt("a //" + c + "\nb", 4, 1);
                faultAt("a //" + c, 4, 1);
                faultAt("a // " + c + " ", 5, 1);
                faultAt("a /**/" + c, 6, 1);
                faultAt("a //\n" + c, 5, 1);
            }
        }
    }

    // A string and ' c ' hold c alone, so one with any other byte in it does not end: the fault is its first byte.
    private static void faultInsideQuotes() {
        for (int b = 0; b < 256; b++) {
            if (b < 32 || b > 126) {
                String c = String.valueOf((char) b);
                faultAt("a \"" + c + "\"", 2, 1);
                faultAt("a \"b" + c + "\"", 2, 1);
                faultAt("a \"b" + c, 2, 1);
                faultAt("a \"\\" + c + "\"", 2, 1);
                faultAt("a '" + c + "'", 2, 1);
                faultAt("a 'b" + c, 2, 1);
                faultAt("a '\\" + c + "'", 2, 1);
            }
        }
    }

    // A byte of a text may begin no token all the same: # $ . @ \ and `.
    private static void faultThatBeginsNothing() {
        for (String c : new String[] {"#", "$", ".", "@", "\\", "`"}) {
            faultAt(c, 0, 0);
            faultAt(" " + c, 1, 0);
            faultAt("a" + c + "b", 1, 1);
            faultAt("0" + c + "5", 1, 1);
            faultAt("<<" + c, 2, 1);
            tokensAt("/*" + c + "*/ a //" + c, 6);
            one("\"" + ("\\".equals(c) ? "\\\\" : c) + "\"", 3, -1, 0);
        }
    }

    // ".. else the first byte of what begins as a blank with a slash and a star, a name, number or string
    // and is too great, too long, or does not end."
    private static void faultIsTheFirstByteElse() {
        String[] faulty = {"/* a", "/*", "n".repeat(25), "2147483648", "0x123456789", "'a", "''", "\"a", "\"",
            "\"" + "a".repeat(201) + "\""};
        for (String text : faulty) {
            faultAt(text, 0, 0);
            faultAt(" " + text, 1, 0);
            faultAt("\n\n" + text, 2, 0);
            faultAt("a;b;" + text, 4, 4);
            faultAt("/* \" */" + text, 7, 0);
            faultAt("//'\n" + text, 4, 0);
            faultAt("\"//\"" + text, 4, 1);
        }
    }

    // "A FAULT is the first place .."
    private static void faultIsTheFirstOne() {
        faultAt("\u0001 @", 0, 0);
        faultAt("@ \u0001", 0, 0);
        faultAt("a @ " + "n".repeat(25), 2, 1);
        faultAt("n".repeat(25) + "\u0001", 0, 0);
        faultAt("2147483648 \u0001", 0, 0);
        faultAt("a \"b\n\u0001", 2, 1);
        faultAt("a 'bc\u0001", 2, 1);
        faultAt("/* \u0001 \u0002", 3, 0);
        faultAt("/* a /* \u0001 */", 8, 0);
        faultAt("\" /* \u0001 */", 0, 0);
    }

    // "TokenRows(): Nothing in the tray, no tokens."
    private static void newObject() {
        due("new: end(-1)", new TokenRows().end(-1), -1);
        due("new: end(0)", new TokenRows().end(0), 0);
        due("new: end(1)", new TokenRows().end(1), -1);
        due("new: cut", new TokenRows().cut(), 0);
        due("new: feed", new TokenRows().feed(0, 0, 0, 0, 0), 20);
        due("new: tokens", new TokenRows().tokens(), 0);
        due("new: place", new TokenRows().place(), -1);
        TokenRows x = new TokenRows();
        for (int i : new int[] {LEAST, -1, 0, 1, GREATEST}) {
            noneAt(x, i);
        }
    }

    private static void newObjectsShareNothing() {
        TokenRows x = new TokenRows();
        cut(x, ALL_KINDS + " @");
        x.feed(0, 0, 0, 0, 0);
        TokenRows y = new TokenRows();
        due("beside another: tokens", y.tokens(), 0);
        due("beside another: place", y.place(), -1);
        due("beside another: end(1)", y.end(1), -1);
        noneAt(y, 0);
        cut(y, "b");
        due("the other one: tokens", x.tokens(), 5);
        due("the other one: length", x.length(0), 2);
        due("the other one: tray", x.end(20), 20);
    }

    // "An object is used for at most 512 calls after it has been made; .."
    private static void callsOfAnObject() {
        TokenRows x = new TokenRows();
        for (int k = 1; k <= MOST_CALLS - 2; k++) {
            due("call " + k + ": feed", x.feed(0x3b3b3b3b, 0x3b3b3b3b, 0x3b3b3b3b, 0x3b3b3b3b, 0x3b3b0a3b), 20 * k);
        }
        due("call 511: cut", x.cut(), 19 * 510);
        due("call 512: the last token's line", x.line(19 * 510 - 1), 511);
        TokenRows y = new TokenRows();
        for (int k = 1; k <= MOST_CALLS - 1; k++) {
            due("call " + k + ": feed", y.feed(0x61616120, 0x61616120, 0x61616120, 0x61616120, 0x61616120), 20 * k);
        }
        due("call 512: cut", y.cut(), 5 * 511);
        TokenRows z = new TokenRows();
        for (int k = 1; k <= MOST_CALLS; k++) {
            due("call " + k + ": cut", z.cut(), 0);
        }
        // What a later call answers is free, but it must end, and may not throw.
        y.cut();
        z.same(z.feed(-1, -1, -1, -1, -1), z.cut());
    }

    // "The twenty bytes of five ints, the highest first, go into the tray: how many it has then; .."
    private static void feedTakesTheHighestByteFirst() {
        for (int place = 0; place < 20; place++) {
            int[] five = {0x20202020, 0x20202020, 0x20202020, 0x20202020, 0x20202020};
            int shift = 24 - place % 4 * 8;
            five[place / 4] = five[place / 4] & ~(255 << shift) | 'a' << shift;
            TokenRows x = new TokenRows();
            due("feed: tray", x.feed(five[0], five[1], five[2], five[3], five[4]), 20);
            due("feed: one name", x.cut(), 1);
            due("feed: its place", x.from(0), place);
            five[place / 4] = five[place / 4] & ~(255 << shift) | 0xe1 << shift;
            x.feed(five[0], five[1], five[2], five[3], five[4]);
            due("feed: a byte above 127", x.cut(), -1);
            due("feed: its place is the fault", x.place(), place);
        }
        TokenRows y = new TokenRows();
        for (int k = 1; k <= 5; k++) {
            due("feed " + k, y.feed(LEAST, GREATEST, -1, 0, 1), 20 * k);
        }
    }

    // "-1, and none does, if it would have more than 16000, .."
    // This limit and the next lie beyond what 512 calls can feed; the class keeps to them all the same.
    private static void feedUpToTheTraysLimit() {
        for (int room = 19; room <= 21; room++) {
            TokenRows x = new TokenRows();
            for (int k = 1; k <= 800; k++) {
                due("feed: up to 16000", x.feed(0x3b3b3b3b, 0x3b3b3b3b, 0x3b3b3b3b, 0x3b3b3b3b, 0x3b3b3b3b), 20 * k);
            }
            due("feed: 16020", x.feed(0, 0, 0, 0, 0), -1);
            due("feed: none went in", x.end(16001), -1);
            due("feed: all of 16000 stays", x.end(16000), 16000);
            x.end(16000 - room);
            int full = room < 20 ? -1 : 16000 - room + 20;
            due("feed: room for " + room, x.feed(0x3b3b3b3b, 0x3b3b3b3b, 0x3b3b3b3b, 0x3b3b3b3b, 0x3b3b3b3b), full);
            due("feed: room for " + room + ", cut", x.cut(), room < 20 ? 16000 - room : full);
            due("feed: room for " + room + ", the last one", x.from(x.tokens() - 1), x.tokens() - 1);
        }
    }

    // ".. or more than 65536 bytes were fed in all."
    private static void feedUpToTheLimitInAll() {
        TokenRows x = new TokenRows();
        for (int k = 1; k <= 3275; k++) {
            x.feed(0, 0, 0, 0, 0);
            x.end(0);
        }
        due("feed: 65520 in all", x.feed(0x61000000, 0, 0, 0, 0), 20);
        due("feed: 65540 in all", x.feed(0, 0, 0, 0, 0), -1);
        due("feed: none went in", x.end(21), -1);
        due("feed: what was there stays", x.end(1), 1);
        due("feed: and is cut", x.cut(), 1);
        due("feed: a cut makes no room", x.feed(0, 0, 0, 0, 0), -1);
        due("feed: the tray is empty", x.end(1), -1);
        TokenRows y = new TokenRows();
        for (int k = 1; k <= 900; k++) {
            y.feed(0, 0, 0, 0, 0);
        }
        for (int k = 801; k <= 3276; k++) {
            y.end(0);
            due("feed: what was refused was not fed", y.feed(0, 0, 0, 0, 0), 20);
        }
    }

    private static void refusedFeedLeavesAll() {
        TokenRows x = new TokenRows();
        cut(x, ALL_KINDS + " @");
        for (int k = 1; k <= 800; k++) {
            x.feed(0x3b3b3b3b, 0x3b3b3b3b, 0x3b3b3b3b, 0x3b3b3b3b, 0x3b3b3b3b);
        }
        due("feed refused", x.feed(-1, -1, -1, -1, -1), -1);
        allKindsAreTold(x);
        due("feed refused: place", x.place(), ALL_KINDS.length() + 1);
        due("feed refused: cut", x.cut(), 16000);
    }

    // "Only the first n bytes of the tray count: n; -1, .. if n is below 0 or it has not so many."
    private static void endAtItsLimits() {
        for (int fed = 0; fed <= 3; fed++) {
            int has = 20 * fed;
            for (int n : new int[] {LEAST, LEAST + 1, -2, -1, 0, 1, 19, 20, 21, has - 1, has, has + 1, has + 20, GREATEST}) {
                TokenRows x = new TokenRows();
                for (int k = 0; k < fed; k++) {
                    x.feed(0x3b3b3b3b, 0x3b3b3b3b, 0x3b3b3b3b, 0x3b3b3b3b, 0x3b3b3b3b);
                }
                boolean refused = n < 0 || n > has;
                due("end(" + n + ") of " + has, x.end(n), refused ? -1 : n);
                due("end(" + n + ") of " + has + ": cut", x.cut(), refused ? has : n);
            }
        }
    }

    private static void endTakesTheRestAway() {
        TokenRows x = new TokenRows();
        feedAll(x, "abcdefghijklmnopqrst");
        due("end(10)", x.end(10), 10);
        due("end(11) behind it", x.end(11), -1);
        due("end(10) again", x.end(10), 10);
        due("end(9) behind it", x.end(9), 9);
        due("end(10) no longer", x.end(10), -1);
        due("feed goes on behind the end", x.feed(0x3b3b3b3b, 0x3b3b3b3b, 0x3b3b3b3b, 0x3b3b3b3b, 0x3b3b3b3b), 29);
        due("end: cut", x.cut(), 21);
        due("end: the name", x.length(0), 9);
        due("end: the first sign", x.from(1), 9);
    }

    // ".. and all stays .."
    private static void refusedEndLeavesAll() {
        for (int n : new int[] {LEAST, -1, 21, GREATEST}) {
            TokenRows x = new TokenRows();
            cut(x, ALL_KINDS + " @");
            feedAll(x, "abcdefghijklmnopqrst");
            due("end refused", x.end(n), -1);
            allKindsAreTold(x);
            due("end refused: place", x.place(), ALL_KINDS.length() + 1);
            due("end refused: the tray", x.end(20), 20);
            due("end refused: cut", x.cut(), 1);
            due("end refused: the name", x.length(0), 20);
        }
    }

    // "Cuts the tray's text .. how many tokens it has": also if that is none.
    private static void cutOfNothing() {
        TokenRows x = new TokenRows();
        due("cut of an empty tray", x.cut(), 0);
        due("cut of an empty tray, again", x.cut(), 0);
        feedAll(x, "abc");
        x.end(0);
        due("cut of a tray ended at 0", x.cut(), 0);
        due("cut of a tray ended at 0: place", x.place(), -1);
        due("cut of one blank", cut(x, " "), 0);
        due("cut of one byte", cut(x, "a"), 1);
        due("cut of two tokens", cut(x, "a;"), 2);
    }

    // "Cuts the tray's text, which is used up"
    private static void cutUsesTheTextUp() {
        for (String text : new String[] {"a b c", "@", "a /*", " "}) {
            TokenRows x = new TokenRows();
            cut(x, text);
            due("used up: end(1)", x.end(1), -1);
            due("used up: end(0)", x.end(0), 0);
            due("used up: feed", x.feed(0x61620a63, 0, 0, 0, 0), 20);
            due("used up: end(4)", x.end(4), 4);
            due("used up: cut", x.cut(), 2);
            due("used up: the first place", x.from(0), 0);
            due("used up: the first line", x.line(0), 1);
            due("used up: cut again", x.cut(), 0);
        }
    }

    // "-1 a fault (place()): those before it are told all the same."
    private static void cutAfterAFault() {
        TokenRows x = new TokenRows();
        due("fault at 0", cut(x, "@ a b"), -1);
        due("fault at 0: place", x.place(), 0);
        due("fault at 0: tokens", x.tokens(), 0);
        noneAt(x, 0);
        due("fault at the last byte", cut(x, ALL_KINDS + " @"), -1);
        due("fault at the last byte: place", x.place(), ALL_KINDS.length() + 1);
        allKindsAreTold(x);
        noneAt(x, 5);
        due("no fault", cut(x, ALL_KINDS + " "), 5);
        due("no fault: place", x.place(), -1);
        allKindsAreTold(x);
    }

    private static void cutForgetsTheOneBefore() {
        TokenRows x = new TokenRows();
        due("five tokens", cut(x, ALL_KINDS), 5);
        due("then two", cut(x, "1 b"), 2);
        due("then two: tokens", x.tokens(), 2);
        due("then two: kind", x.kind(0), 2);
        noneAt(x, 2);
        noneAt(x, 4);
        due("then a fault", cut(x, "b ' "), -1);
        due("then a fault: tokens", x.tokens(), 1);
        noneAt(x, 1);
        due("then another fault", cut(x, "'"), -1);
        due("then another fault: place", x.place(), 0);
        noneAt(x, 0);
        due("then none", x.cut(), 0);
        due("then none: place", x.place(), -1);
    }

    // As many tokens as bytes, and as many bytes as can be fed with a cut and a question behind them.
    private static void cutOfManyTokens() {
        TokenRows x = new TokenRows();
        feedAll(x, ";".repeat(10180) + "?".repeat(20));
        due("many: cut", x.cut(), 10200);
        due("many: the last one", x.which(10199), 8);
        TokenRows y = new TokenRows();
        feedAll(y, " ".repeat(10199) + "\"");
        due("many: a fault at the last byte", y.cut(), -1);
        due("many: its place", y.place(), 10199);
        TokenRows z = new TokenRows();
        feedAll(z, "/*" + " ".repeat(10195) + "*/a");
        due("many: a long blank", z.cut(), 1);
        due("many: behind it", z.from(0), 10199);
    }

    // "The place of the fault of the latest cut(); -1 if it had none or there was none."
    private static void placeOfTheLatestCut() {
        TokenRows x = new TokenRows();
        due("place: no cut yet", x.place(), -1);
        x.feed(0, 0, 0, 0, 0);
        due("place: fed, no cut yet", x.place(), -1);
        x.cut();
        due("place: 0", x.place(), 0);
        feedAll(x, "a b c @ d");
        due("place: 0 while the next text is fed", x.place(), 0);
        x.end(-1);
        x.end(7);
        due("place: 0 until the next cut", x.place(), 0);
        x.cut();
        due("place: 6", x.place(), 6);
        due("place: 6, asked again", x.place(), 6);
        x.cut();
        due("place: none", x.place(), -1);
        cut(x, " @");
        due("place: 1", x.place(), 1);
    }

    // "How many tokens are told."
    private static void tokensTold() {
        TokenRows x = new TokenRows();
        feedAll(x, "a b c");
        due("tokens: no cut yet", x.tokens(), 0);
        x.end(5);
        x.cut();
        due("tokens: 3", x.tokens(), 3);
        x.feed(0x61206120, 0x61206120, 0x61206120, 0x61206120, 0x61206120);
        x.end(6);
        due("tokens: 3 until the next cut", x.tokens(), 3);
        x.end(7);
        x.end(-1);
        due("tokens: 3, end refused", x.tokens(), 3);
        x.end(3);
        x.cut();
        due("tokens: 2", x.tokens(), 2);
        cut(x, "a @ b");
        due("tokens: 1 before a fault", x.tokens(), 1);
        cut(x, "@ b");
        due("tokens: 0 before a fault", x.tokens(), 0);
    }

    // ".. if there is no such token": 0 of kind, length, line and worth; -1 of which, from, codes and code.
    private static void noSuchToken() {
        String[] last = {"ab", "17", "\"cde\"", "int", "+="};
        for (String text : last) {
            TokenRows x = new TokenRows();
            cut(x, "; " + text);
            noneAt(x, -1);
            due("the first one is there", x.kind(0), 5);
            due("the last one is there", x.from(1), 2);
            due("the last one is there: length", x.length(1), text.length());
            noneAt(x, 2);
            noneAt(x, 3);
        }
        TokenRows y = new TokenRows();
        cut(y, ALL_KINDS);
        for (int i : new int[] {LEAST, LEAST + 1, -16000, -2, -1, 5, 6, 255, 256, 15999, 16000, 16001, 65536, GREATEST - 1, GREATEST}) {
            noneAt(y, i);
        }
        allKindsAreTold(y);
    }

    private static void noTokenBehindAFault() {
        TokenRows x = new TokenRows();
        cut(x, ALL_KINDS);
        cut(x, "a b @ c d");
        due("before the fault", x.kind(1), 1);
        for (int i = 2; i < 6; i++) {
            noneAt(x, i);
        }
    }

    // "1 a name, 2 a number, 3 a string, 4 a word, 5 a sign; .."
    private static void kindsOfTokens() {
        TokenRows x = new TokenRows();
        cut(x, ALL_KINDS + " 0x1 'a' \"\" ;");
        int[] kinds = {1, 2, 3, 4, 5, 2, 2, 3, 5};
        for (int i = 0; i < kinds.length; i++) {
            due("kind " + i, x.kind(i), kinds[i]);
        }
    }

    // "Of a word or sign its number in its list above, from 0 on; -1 of others."
    private static void whichOfWordsAndSigns() {
        TokenRows x = new TokenRows();
        cut(x, "int void continue return ( ) ++ -- a 0 \"\" '0' 0x0");
        int[] which = {0, 1, 10, 11, 0, 1, 41, 42, -1, -1, -1, -1, -1};
        for (int i = 0; i < which.length; i++) {
            due("which " + i, x.which(i), which[i]);
        }
    }

    // "Its first byte; .."
    private static void fromFirstToLast() {
        tokensAt("a", 0);
        tokensAt(" a", 1);
        tokensAt("/**/a//", 4);
        tokensAt("a b", 0, 2);
        tokensAt("\"a\"'b'c0x1+=d", 0, 3, 6, 10, 12);
        TokenRows x = new TokenRows();
        cut(x, " ".repeat(255) + "a" + " ".repeat(256) + "b");
        due("from 255", x.from(0), 255);
        due("from 512", x.from(1), 512);
    }

    // "How many bytes it has; .."
    private static void lengthFromOneOn() {
        TokenRows x = new TokenRows();
        cut(x, "; += <<= a ab 1 0x1 'a' '\\n' \"\" \"a\" \"\\n\"");
        int[] lengths = {1, 2, 3, 1, 2, 1, 3, 3, 4, 2, 3, 4};
        for (int i = 0; i < lengths.length; i++) {
            due("length " + i, x.length(i), lengths[i]);
        }
        cut(x, "\"" + "\\n".repeat(200) + "\"");
        due("length of the longest string", x.length(0), 402);
        cut(x, "0".repeat(1000));
        due("length of a long number", x.length(0), 1000);
    }

    // "Of a number its worth; else 0."
    private static void worthOfOtherKinds() {
        TokenRows x = new TokenRows();
        cut(x, "a \"b\" return -- 0 1 '\\0' 0xffffffff \"\"");
        int[] worths = {0, 0, 0, 0, 0, 1, 0, -1, 0};
        for (int i = 0; i < worths.length; i++) {
            due("worth " + i, x.worth(i), worths[i]);
        }
    }

    // "Of a string how many c it has; else -1."
    private static void codesOfOtherKinds() {
        TokenRows x = new TokenRows();
        cut(x, "a 5 'b' return -- \"\" \"c\" \"\\\"\" \"\\\\n\"");
        int[] codes = {-1, -1, -1, -1, -1, 0, 1, 1, 2};
        for (int i = 0; i < codes.length; i++) {
            due("codes " + i, x.codes(i), codes[i]);
        }
    }

    // "Code k of a string; -1 if there is none."
    private static void codeAtItsLimits() {
        TokenRows x = new TokenRows();
        cut(x, "a 5 'b' return -- \"\" \"c\" \"d\\ne\"");
        for (int i = 0; i <= 5; i++) {
            for (int k : new int[] {LEAST, -1, 0, 1, GREATEST}) {
                due("code(" + i + ", " + k + ")", x.code(i, k), -1);
            }
        }
        for (int k : new int[] {LEAST, LEAST + 1, -2, -1, 3, 4, 5, 200, 201, GREATEST - 1, GREATEST}) {
            due("code(7, " + k + ")", x.code(7, k), -1);
        }
        due("code(6, -1)", x.code(6, -1), -1);
        due("code(6, 0)", x.code(6, 0), 'c');
        due("code(6, 1)", x.code(6, 1), -1);
        due("code(7, 0)", x.code(7, 0), 'd');
        due("code(7, 1)", x.code(7, 1), 10);
        due("code(7, 2)", x.code(7, 2), 'e');
        for (int i : new int[] {LEAST, -1, 8, 16000, GREATEST}) {
            due("code(" + i + ", 0)", x.code(i, 0), -1);
        }
        cut(x, "\"" + "\\0".repeat(198) + "yz\"");
        due("code(0, 197)", x.code(0, 197), 0);
        due("code(0, 198)", x.code(0, 198), 'y');
        due("code(0, 199)", x.code(0, 199), 'z');
        due("code(0, 200)", x.code(0, 200), -1);
        due("code(0, 201)", x.code(0, 201), -1);
    }

    // "Whether two tokens have the same bytes; .."
    private static void sameBytes() {
        alike("a", "a", 1);
        alike("a", "b", 0);
        alike("a", "A", 0);
        alike("a", "aa", 0);
        alike("ab", "ac", 0);
        alike("ab", "cb", 0);
        alike("abc", "axc", 0);
        alike("int", "int", 1);
        alike("int", "ints", 0);
        alike("1", "1", 1);
        alike("1", "01", 0);
        alike("1", "0x1", 0);
        alike("0x1a", "0x1A", 0);
        alike("97", "'a'", 0);
        alike("'a'", "\"a\"", 0);
        alike("a", "'a'", 0);
        alike("\"\"", "\"\"", 1);
        alike("\"\"", "\"a\"", 0);
        alike("\"\\'\"", "\"'\"", 0);
        alike("+", "++", 0);
        alike("<<=", "<<=", 1);
        alike("<<=", ">>=", 0);
        alike("n".repeat(24), "n".repeat(24), 1);
        alike("n".repeat(24), "n".repeat(23) + "m", 0);
        alike("\"" + "\\n".repeat(200) + "\"", "\"" + "\\n".repeat(200) + "\"", 1);
        alike("\"" + "\\n".repeat(200) + "\"", "\"" + "\\n".repeat(199) + "\\0\"", 0);
    }

    private static void alike(String first, String second, int want) {
        TokenRows x = new TokenRows();
        cut(x, first + " " + second);
        due(first + " and " + second, x.same(0, 1), want);
        due(second + " and " + first, x.same(1, 0), want);
        cut(x, first + "\n/**/" + second);
        due(first + " and, on another line, " + second, x.same(0, 1), want);
        due(first + " and itself", x.same(0, 0), 1);
        due(second + " and itself", x.same(1, 1), 1);
    }

    // ".. false if one is none."
    private static void sameIfOneIsNone() {
        TokenRows x = new TokenRows();
        due("same: no tokens", x.same(0, 0), 0);
        cut(x, "a a a");
        cut(x, "a a @ a");
        for (int none : new int[] {LEAST, -2, -1, 2, 3, 15999, 16000, GREATEST}) {
            due("same(" + none + ", 0)", x.same(none, 0), 0);
            due("same(0, " + none + ")", x.same(0, none), 0);
            due("same(" + none + ", 1)", x.same(none, 1), 0);
            due("same(1, " + none + ")", x.same(1, none), 0);
            due("same(" + none + ", " + none + ")", x.same(none, none), 0);
        }
        due("same(-1, 2)", x.same(-1, 2), 0);
        due("same(0, 1)", x.same(0, 1), 1);
    }

    private static void questionsChangeNothing() {
        TokenRows x = new TokenRows();
        cut(x, ALL_KINDS + " @");
        feedAll(x, "abcdefghijklmnopqrst");
        for (int k = 0; k < 2; k++) {
            allKindsAreTold(x);
            noneAt(x, 5);
            due("asked: place", x.place(), ALL_KINDS.length() + 1);
        }
        due("asked: tray", x.feed(0, 0, 0, 0, 0), 40);
    }

    private static void allKindsAreTold(TokenRows x) {
        int[][] rows = {
            {1, -1, 0, 2, 1, 0, -1},
            {2, -1, 3, 2, 1, 17, -1},
            {3, -1, 6, 5, 1, 0, 3},
            {4, 0, 12, 3, 1, 0, -1},
            {5, 11, 16, 2, 1, 0, -1},
        };
        due("told: tokens", x.tokens(), rows.length);
        for (int i = 0; i < rows.length; i++) {
            due("told: kind " + i, x.kind(i), rows[i][0]);
            due("told: which " + i, x.which(i), rows[i][1]);
            due("told: from " + i, x.from(i), rows[i][2]);
            due("told: length " + i, x.length(i), rows[i][3]);
            due("told: line " + i, x.line(i), rows[i][4]);
            due("told: worth " + i, x.worth(i), rows[i][5]);
            due("told: codes " + i, x.codes(i), rows[i][6]);
        }
        for (int k = 0; k < 3; k++) {
            due("told: code " + k, x.code(2, k), 'c' + k);
        }
        due("told: no code 3", x.code(2, 3), -1);
        due("told: same", x.same(0, 0), 1);
        due("told: not same", x.same(0, 1), 0);
    }

    private static boolean mayOccur(int b) {
        return b == 9 || b == 10 || b == 13 || b >= 32 && b <= 126;
    }

    private static boolean isLetter(int b) {
        return b >= 'a' && b <= 'z' || b >= 'A' && b <= 'Z' || b == '_';
    }
}

/** Terms, 1: the tape, tokens, grammar and depth, sentence by sentence, and promises 2 to 5. */
final class LanguageEdgeTest {
    private static final String LAYER = "layer a 1 xs 1;";
    private static final String[] KEYWORDS = {"layer", "xs", "share", "yearly", "after", "reinstate", "at", "net", "of",
        "when", "and", "or", "not", "min", "max", "line", "year", "amount"};
    private static final String[] OPTIONS = {" share 5", " yearly 5", " after 5", " reinstate 1", " net of z", " when 1 < 2"};

    public static void main(String[] args) {
        theTapeIsEmptyAtFirst();
        theTapeHoldsAtMost2000Bytes();
        theHighestByteIsTheFirstOne();
        theFirstBytesAreKept();
        theTapeIsEmptyBehindTeach();
        blanksStandAtTheBeginningAndAtTheEnd();
        blanksStandBetweenTokens();
        blanksHaveToStandBetweenTwoWords();
        theLongestTokenIsRead();
        wordsBeginWithALetter();
        wordsGoOnWithLettersAndDigits();
        wordsHaveAtMost10Bytes();
        numbersHave1To7Digits();
        keywordsAreNoNames();
        optionsStandOnceAndInTheirOrder();
        repeatedPartsStandAnyNumberOfTimes();
        optionsTakeNumbersAlone();
        comparisonsStandBetweenTwoSums();
        Check.end();
    }

    /** "at first empty" */
    private static void theTapeIsEmptyAtFirst() {
        LossHouse house = new LossHouse();
        Check.same("count(4)", house.count(4), 0);
        Check.same("teach() of an empty tape", house.teach(), 0);
        Check.same("errorAt()", house.errorAt(), -1);
        Check.same("count(0)", house.count(0), 0);
    }

    /** "a row of at most 2000 bytes": the last one is read, too. */
    private static void theTapeHoldsAtMost2000Bytes() {
        Check.reads(Check.times(" ", 1985) + LAYER);
        Check.reads(Check.times(" ", 1986) + "layer a 1 xs 1", 1, 2000);
        Check.reads(Check.times("\n", 1985) + "layer a 1 xs 1!", 1, 1999);
        Check.reads(Check.times(" ", 2000));
        LossHouse house = new LossHouse();
        for (int i = 1; i <= 99; i++) {
            house.feed(0, 0, 0, 0, 0);
        }
        Check.same("feed to 2000", house.feed(0, 0, 0, 0, 0), 2000);
        Check.noState("feed behind 2000", house, () -> house.feed(0, 0, 0, 0, 0));
        house.trim(1981);
        Check.noState("feed to 2001", house, () -> house.feed(0, 0, 0, 0, 0));
        house.trim(1980);
        Check.same("feed to 2000", house.feed(0, 0, 0, 0, 0), 2000);
    }

    /** "the four bytes of each number, the highest one first" */
    private static void theHighestByteIsTheFirstOne() {
        LossHouse house = new LossHouse();
        Check.same("feed", house.feed(0x6c617965, 0x72206120, 0x31322078, 0x73203334, 0x3b200a20), 20);
        Check.same("teach()", house.teach(), 0);
        Check.same("limit", house.terms(0, 0, 0), 12);
        Check.same("retention", house.terms(0, 0, 1), 34);
        // each byte of a number below 0, from the highest one on, is a byte of the tape
        int[] bytes = {0x20202020, 0x202020ff, 0x2020ff20, 0x20ff2020, 0xff202020};
        for (int k = 1; k <= 4; k++) {
            house.feed(0x20202020, 0x20202020, bytes[k], 0x20202020, 0x20202020);
            Check.same("teach()", house.teach(), 1);
            Check.same("errorAt()", house.errorAt(), 12 - k);
        }
        house.feed(0x20202020, 0x20202020, 0x20202020, 0x20202020, 0x20202021);
        Check.same("teach()", house.teach(), 1);
        Check.same("errorAt()", house.errorAt(), 19);
    }

    /** "Shortens the tape to its first bytes." */
    private static void theFirstBytesAreKept() {
        trimmed(LAYER + "!", 15, 0, -1);
        trimmed(LAYER + "!", 16, 1, 15);
        trimmed(LAYER + "!", 14, 1, 14);
        trimmed(LAYER, 1, 1, 0);
        trimmed(LAYER, 0, 0, -1);
        LossHouse house = new LossHouse();
        Check.write(house, "layer a 7 xs");
        house.feed(0x20353b21, 0x21212121, 0x21212121, 0x21212121, 0x21212121);
        house.trim(15);
        Check.same("teach() of what is fed behind trim", house.teach(), 0);
        Check.same("retention", house.terms(0, 0, 1), 5);
    }

    private static void trimmed(String text, int n, int error, int position) {
        LossHouse house = new LossHouse();
        Check.write(house, text);
        Check.same("trim(" + n + ")", house.trim(n), n);
        Check.same("count(4)", house.count(4), n);
        Check.same("teach()", house.teach(), error);
        Check.same("errorAt()", house.errorAt(), position);
    }

    /** "it is empty behind it"; "If it has an error, the layers stay, too (but the tape is empty)." */
    private static void theTapeIsEmptyBehindTeach() {
        String[] texts = {"layer b 3 xs 4;", "layer", "layer b 1 xs 1; layer b 1 xs 1;", "layer b 1 xs 1 net of c;",
            "layer b 1 xs 1;layer c 1 xs 1;layer d 1 xs 1;layer e 1 xs 1;layer f 1 xs 1;layer g 1 xs 1;layer h 1 xs 1;"
                + "layer i 1 xs 1;layer j 1 xs 1;", "layer b 1 xs 1 share 0;"};
        int[] positions = {-1, 5, 22, 22, 126, 21};
        for (int error = 0; error <= 5; error++) {
            LossHouse house = Check.houseWith("layer a 8 xs 2 share 50 yearly 9 reinstate 1 at 7;");
            house.open(0, 0, 10);
            Check.taught(house, texts[error], error, positions[error]);
            Check.same("count(0) behind the error " + error, house.count(0), 1);
            Check.same("limit behind the error " + error, house.terms(0, 0, 0), error == 0 ? 3 : 8);
            Check.same("retention behind the error " + error, house.terms(0, 0, 1), error == 0 ? 4 : 2);
            Check.same("bound behind the error " + error, house.terms(0, 0, 3), error == 0 ? -1 : 9);
            Check.same("share behind the error " + error, house.layer(0, 0), error == 0 ? 100 : 50);
            Check.same("at behind the error " + error, house.layer(0, 4), error == 0 ? -1 : 7);
            Check.same("count(7) behind the error " + error, house.count(7), error == 0 ? 7 : 6);
            Check.same("count(1): claims stay", house.count(1), 1);
            Check.same("teach() of the tape that is empty now", house.teach(), 0);
            Check.same("errorAt() of the latest teach()", house.errorAt(), -1);
            Check.same("count(0) behind an empty text", house.count(0), 0);
        }
    }

    /** "Blanks (32) and line ends (10) can stand .. at the beginning and at the end": no other byte can. */
    private static void blanksStandAtTheBeginningAndAtTheEnd() {
        for (int b = 0; b <= 255; b++) {
            boolean isBlank = b == 32 || b == 10;
            Check.reads((char) b + LAYER, isBlank ? 0 : 1, isBlank ? -1 : 0);
            Check.reads(LAYER + (char) b, isBlank ? 0 : 1, isBlank ? -1 : 15);
            Check.reads("" + (char) b, isBlank ? 0 : 1, isBlank ? -1 : 0);
        }
        Check.reads(" \n \n\n  " + LAYER + "\n\n \n  ");
    }

    /** "Blanks (32) and line ends (10) can stand between tokens" */
    private static void blanksStandBetweenTokens() {
        for (int b = 0; b <= 255; b++) {
            boolean isDigit = b >= '0' && b <= '9';
            boolean isOperator = "+-*/".indexOf((char) b) >= 0;
            boolean isGood = b == 32 || b == 10 || isDigit;
            Check.reads("layer a 1" + (char) b + "xs 1;", isGood ? 0 : 1, isGood ? -1 : isOperator ? 10 : 9);
        }
        Check.reads("layer a 1 xs 1 when ( 1 + 2 ) * 3 <= min ( 4 , 5 ) or [ - 1 = - 1 ] ;");
        Check.reads("layer\n\na\n1\n \nxs\n1\nwhen\n(\n1\n)\n<\n1\n;\n");
        Check.reads("layer a(1)xs(1)when(1+2)*3<=min(4,5)or[-1=-1];layer b(1)xs(1)net of a,a;");
    }

    /** ".. and have to stand between two tokens that would otherwise be read as one" */
    private static void blanksHaveToStandBetweenTwoWords() {
        Check.reads("layer a 1xs 1share 3yearly 4after 5reinstate 1at 6net of z;", 3, 57);
        Check.reads("layera 1 xs 1;", 1, 0);
        Check.reads("layer a1 xs 1;", 1, 9);
        Check.reads("layer a 1 xs1;", 1, 10);
        Check.reads("layer a 1 xs 1 share3;", 1, 15);
        Check.reads("layer a 1 xs 1 reinstate 1 at1;", 1, 27);
        Check.reads("layer a 1 xs 1 netof a;", 1, 15);
        Check.reads("layer a 1 xs 1 net ofa;", 1, 19);
        Check.reads("layer a 1 xs 1 when not1 < 2;", 1, 20);
        Check.reads("layer a 1 xs 1 when not 1 < 2and 3 < 4or 5 < 6;");
        Check.reads("layer a 1 xs 1 when 1 < 2 and3 < 4;", 1, 26);
        Check.reads("layer a lineline xs 1;", 1, 8);
        Check.reads("layer a 1 2 xs 1;", 1, 10);
        LossHouse house = Check.houseWith("layer a 12 xs 1;");
        Check.same("two digits are one number", house.terms(0, 0, 0), 12);
    }

    /** "The longest possible token is always read." */
    private static void theLongestTokenIsRead() {
        for (String sign : new String[] {"<=", ">="}) {
            LossHouse house = Check.houseWith("layer a 1 xs 0 when 1" + sign + "1;");
            house.open(0, 0, 1);
            Check.same("gets when 1" + sign + "1", house.gets(0, 0, false), 1);
            Check.reads("layer a 1 xs 1 when 1" + sign.charAt(0) + " =1;", 1, 23);
            Check.reads("layer a 1 xs 1 when 1" + sign.charAt(0) + "\n=1;", 1, 23);
            Check.reads("layer a 1 xs 1 when 1" + sign + "=1;", 1, 23);
        }
        Check.reads("layer a 1 xs 1 when 1=<1;", 1, 22);
        Check.reads("layer a 1 xs 1 when 1=>1;", 1, 22);
        Check.reads("layer a 1 xs 1 when 1<>1;", 1, 22);
        Check.reads("layer a 1 xs 1 when 1<-1;");
        Check.reads("layer a 1 xs 1 when 1<", 1, 22);
        Check.reads("layer layerxs 1 xs 1;");
        Check.reads("layer xs1 1 xs 1;");
        Check.reads("layer a minx(1, 2) xs 1;", 1, 8);
        Check.reads("layer a linex xs 1;", 1, 8);
        Check.reads("layer a line1 xs 1;", 1, 8);
        Check.reads("layer a 1line xs 1;", 1, 9);
    }

    /** "A word: a letter a to z, .." */
    private static void wordsBeginWithALetter() {
        for (int b = 0; b <= 255; b++) {
            boolean isLetter = b >= 'a' && b <= 'z';
            boolean isBlank = b == 32 || b == 10;
            Check.reads("layer " + (char) b + " 1 xs 1;", isLetter ? 0 : 1, isLetter ? -1 : isBlank ? 8 : 6);
        }
    }

    /** ".. followed by letters a to z and digits" */
    private static void wordsGoOnWithLettersAndDigits() {
        for (int b = 0; b <= 255; b++) {
            boolean isOfWord = b >= 'a' && b <= 'z' || b >= '0' && b <= '9';
            boolean isGood = isOfWord || b == 32 || b == 10 || b == '-';
            // "at" is a keyword
            int wrongAt = b == 't' ? 6 : isGood ? -1 : b == '(' ? 11 : 7;
            Check.reads("layer a" + (char) b + " 1 xs 1;", wrongAt < 0 ? 0 : 1, wrongAt);
            // a name of two bytes is another one than that of its first byte
            boolean isSame = isGood && !isOfWord;
            Check.reads("layer a 1 xs 1; layer a" + (char) b + " 1 xs 1;", wrongAt >= 0 ? 1 : isSame ? 2 : 0,
                    wrongAt >= 0 ? wrongAt + 16 : isSame ? 22 : -1);
        }
    }

    /** "at most 10 bytes"; error 1 for a word that is too long, at its first byte */
    private static void wordsHaveAtMost10Bytes() {
        for (int n = 1; n <= 14; n++) {
            boolean isGood = n <= 10;
            String letters = "abcdefghijklmn".substring(0, n);
            String digits = "z1234567890123".substring(0, n);
            for (String word : new String[] {letters, digits}) {
                Check.reads("layer " + word + " 1 xs 1;", isGood ? 0 : 1, isGood ? -1 : 6);
                Check.reads("layer q 1 xs 1 net of " + word + ";", isGood ? 3 : 1, 22);
                Check.reads("layer a 1 " + word + " 1;", 1, 10);
            }
        }
        Check.reads("layer layerlayer 1 xs 1;");
        Check.reads("layer layerlayerl 1 xs 1;", 1, 6);
        Check.reads("layer " + Check.times("a", 1900) + " 1 xs 1;", 1, 6);
        // names are the same ones with all their bytes alone
        Check.reads("layer abcdefghij 1 xs 1; layer abcdefghik 1 xs 1;");
        Check.reads("layer abcdefghij 1 xs 1; layer bbcdefghij 1 xs 1;");
        Check.reads("layer abcdefghij 1 xs 1; layer abcdefghij 1 xs 1;", 2, 31);
        Check.reads("layer z999999999 1 xs 1; layer z99999999 1 xs 1; layer z999999999 1 xs 1;", 2, 55);
    }

    /** "A number: 1 to 7 digits."; error 1 for a number that is too long, at its first byte */
    private static void numbersHave1To7Digits() {
        for (int n = 1; n <= 10; n++) {
            String digits = "1234567890".substring(0, n);
            String zeros = Check.times("0", n - 1) + "1";
            boolean isGood = n <= 7;
            Check.reads("layer a " + digits + " xs 1;", isGood ? 0 : 1, isGood ? -1 : 8);
            Check.reads("layer a 1 xs " + digits + ";", isGood ? 0 : 1, isGood ? -1 : 13);
            Check.reads("layer a 1 xs 1 share " + zeros + ";", isGood ? 0 : 1, isGood ? -1 : 21);
            Check.reads("layer a 1 xs 1 reinstate " + zeros + " at " + zeros + ";", isGood ? 0 : 1, isGood ? -1 : 25);
            Check.reads("layer a 1 xs 1 reinstate 1 at " + zeros + ";", isGood ? 0 : 1, isGood ? -1 : 30);
        }
        LossHouse house = Check.houseWith("layer a 9999999 xs 0000000 yearly 1234567 after 0000089;");
        int[] due = {9999999, 0, 89, 1234567};
        for (int what = 0; what <= 3; what++) {
            Check.same("terms(0, 0, " + what + ")", house.terms(0, 0, what), due[what]);
        }
    }

    /** "The keywords are: .. All other words are names." */
    private static void keywordsAreNoNames() {
        for (String keyword : KEYWORDS) {
            String longer = keyword + "a";
            String shorter = keyword.substring(0, keyword.length() - 1);
            Check.reads("layer " + keyword + " 1 xs 1;", 1, 6);
            Check.reads("layer " + longer + " 1 xs 1;");
            Check.reads("layer " + shorter + " 1 xs 1;");
            Check.reads("layer " + longer + " 1 xs 1; layer b 1 xs 1 net of " + longer + ";");
            Check.reads("layer b 1 xs 1 net of " + keyword + ";", 1, 22);
            Check.reads("layer b 1 xs 1 net of " + shorter + ";", 3, 22);
        }
        Check.reads("layer xs1 1 xs 1; layer if 1 xs 1; layer turned 1 xs 1; layer name 1 xs 1; layer number 1 xs 1;");
    }

    /** "[ x ] .. means x or nothing", and the options stand in the order of the grammar. */
    private static void optionsStandOnceAndInTheirOrder() {
        String head = "layer z 1 xs 1; layer a 1 xs 1";
        for (int i = 0; i < OPTIONS.length; i++) {
            Check.reads(head + OPTIONS[i] + ";");
            for (int k = 0; k < OPTIONS.length; k++) {
                int wrongAt = head.length() + OPTIONS[i].length() + 1;
                Check.reads(head + OPTIONS[i] + OPTIONS[k] + ";", i < k ? 0 : 1, i < k ? -1 : wrongAt);
            }
        }
        Check.reads(head + String.join("", OPTIONS) + ";");
        for (int left = 0; left < OPTIONS.length; left++) {
            Check.reads(head + String.join("", OPTIONS).replace(OPTIONS[left], "") + ";");
        }
    }

    /** "{ x } any number of times, also none" */
    private static void repeatedPartsStandAnyNumberOfTimes() {
        for (int n = 0; n <= 4; n++) {
            LossHouse house = Check.houseWith("layer a 1 xs 1 reinstate 4" + Check.times(" at 7", n) + ";");
            for (int k = 0; k < 4; k++) {
                Check.same("at " + k + " of " + n, house.layer(0, 4 + k), k < n ? 7 : -1);
            }
        }
        for (int n = 0; n <= 50; n += 10) {
            Check.reads("layer a 1 xs 1; layer b 1 xs 1 net of a" + Check.times(", a", n) + ";");
            Check.reads("layer a 1 xs 1 when 1 < 2" + Check.times(" and 1 < 2", n) + ";");
            Check.reads("layer a 1 xs 1 when 1 < 2" + Check.times(" or 1 < 2", n) + ";");
            Check.reads("layer a 1" + Check.times(" + 1", n) + Check.times(" * 1", n) + " xs 1;");
        }
        for (int n = 0; n <= 8; n++) {
            StringBuilder text = new StringBuilder();
            for (int k = 0; k < n; k++) {
                text.append("layer ").append((char) ('a' + k)).append(" 1 xs 1;");
            }
            LossHouse house = Check.houseWith(text.toString());
            Check.same("layers of " + text, house.count(0), n);
        }
        Check.reads("layer a 1 xs 1 at 7;", 1, 15);
        Check.reads("layer a 1 xs 1 net of a,;", 1, 24);
        Check.reads("layer a 1 xs 1 net of , a;", 1, 22);
    }

    /** Behind share, reinstate and at there are numbers, behind layer and net of there are names: no sums. */
    private static void optionsTakeNumbersAlone() {
        for (String wrong : new String[] {"-1", "(1)", "line", "a", ";", "min(1, 2)", "+1"}) {
            Check.reads("layer a 1 xs 1 share " + wrong + ";", 1, 21);
            Check.reads("layer a 1 xs 1 reinstate " + wrong + ";", 1, 25);
            Check.reads("layer a 1 xs 1 reinstate 1 at " + wrong + ";", 1, 30);
        }
        Check.reads("layer a 1 xs 1 share 1 + 1;", 1, 23);
        Check.reads("layer a 1 xs 1 reinstate 1 + 1;", 1, 27);
        Check.reads("layer a 1 xs 1 reinstate 1 at 1 + 1;", 1, 32);
        Check.reads("layer a 1 xs 1 yearly 1 + 1 after 1 + 1;");
        Check.reads("layer 1 1 xs 1;", 1, 6);
        Check.reads("layer a 1 xs 1 net of 1;", 1, 22);
        Check.reads("layer a 1 xs 1 net of (a);", 1, 22);
    }

    private static void comparisonsStandBetweenTwoSums() {
        for (String sign : new String[] {"<", ">", "=", "<=", ">="}) {
            Check.reads("layer a 1 xs 1 when 1 + 1 " + sign + " 2 * 2;");
            Check.reads("layer a 1 xs 1 when " + sign + " 1;", 1, 20);
            Check.reads("layer a 1 xs 1 when 1 " + sign + ";", 1, 22 + sign.length());
            Check.reads("layer a 1 xs 1 when 1 " + sign + " 2 " + sign + " 3;", 1, 25 + sign.length());
            Check.reads("layer a 1 " + sign + " 2 xs 1;", 1, 10);
        }
        Check.reads("layer a 1 xs 1 when 1;", 1, 21);
        Check.reads("layer a 1 xs 1 when (1 < 2);", 1, 23);
        Check.reads("layer a 1 xs 1 when [1] < 2;", 1, 22);
        Check.reads("layer a 1 xs 1 when [1 < 2] = [1 < 2];", 1, 28);
        Check.reads("layer a 1 xs 1 when 1 < [2];", 1, 24);
        Check.reads("layer a 1 xs 1 when 1 < not 2;", 1, 24);
        Check.reads("layer a 1 xs 1 when;", 1, 19);
    }
}

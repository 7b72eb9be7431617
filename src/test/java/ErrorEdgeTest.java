/** Terms, 1: depth, the number of tokens, and errors 1 to 5, sentence by sentence. */
final class ErrorEdgeTest {
    private static final String LAYER = "layer a 1 xs 1;";
    private static final String[] SUM_OPENERS = {"(", "-", "min(", "max(", "min(1,", "max(1,"};
    private static final String[] TEST_OPENERS = {"not ", "["};
    private static final String EIGHT = "layer a 1 xs 1;layer b 1 xs 1;layer c 1 xs 1;layer d 1 xs 1;"
            + "layer e 1 xs 1;layer f 1 xs 1;layer g 1 xs 1;layer h 1 xs 1;";

    public static void main(String[] args) {
        sumsAreAtMost8Deep();
        testsAreAtMost8Deep();
        theDepthIs0AtTheBeginning();
        theDepthEndsWithWhatOpenedIt();
        aMinusTurnsOneValue();
        aNotTurnsOneSingle();
        the401stTokenIsWrong();
        theEndOfTheTapeIsNotCounted();
        theEndOfTheTapeIsWrongAtItsLength();
        aByteWithWhichNoTokenBegins();
        theFirstWrongTokenIsTold();
        error1ComesAheadOfAllOthers();
        theFirstErrorFromTheLeftIsTold();
        theSmallestErrorOfATokenIsTold();
        error2ForANameToldAhead();
        error3ForANameThatIsNotToldAhead();
        error4ForThe9thLayer();
        error5ForAShare();
        error5ForReinstate();
        error5ForANumberBehindAt();
        error5ForOneMoreAt();
        errorAtTellsOfTheLatestTeach();
        Check.end();
    }

    // ---- depth

    /** "the (, [, - or not behind which the depth would be 9", in all mixtures of one opener behind others */
    private static void sumsAreAtMost8Deep() {
        String[][] places = {{"layer a ", " xs 1;"}, {"layer a 1 xs ", ";"}, {"layer a 1 xs 1 yearly ", ";"},
            {"layer a 1 xs 1 after ", ";"}, {"layer a 1 xs 1 when ", " < 1;"}, {"layer a 1 xs 1 when 1 < ", ";"}};
        for (String filler : SUM_OPENERS) {
            for (String last : SUM_OPENERS) {
                for (String[] place : places) {
                    nested(place[0], filler, last, last + "1" + closed(last), place[1]);
                }
            }
        }
    }

    private static void testsAreAtMost8Deep() {
        for (String filler : TEST_OPENERS) {
            for (String last : TEST_OPENERS) {
                nested("layer a 1 xs 1 when ", filler, last, last + "1 < 2" + closed(last), ";");
            }
            for (String last : SUM_OPENERS) {
                nested("layer a 1 xs 1 when ", filler, last, last + "1" + closed(last) + " < 2", ";");
            }
        }
    }

    /** Within seven fillers the last opener is good, within eight it is wrong, at its ( if it has one. */
    private static void nested(String head, String filler, String last, String inner, String tail) {
        for (int n = 7; n <= 8; n++) {
            String text = head + Check.times(filler, n) + inner + Check.times(closed(filler), n) + tail;
            int wrongAt = head.length() + n * filler.length() + Math.max(last.indexOf('('), 0);
            Check.reads(text, n == 7 ? 0 : 1, n == 7 ? -1 : wrongAt);
        }
    }

    private static String closed(String opener) {
        switch (opener) {
            case "(":
            case "min(1,":
            case "max(1,": return ")";
            case "min(":
            case "max(": return ",1)";
            case "[": return "]";
            default: return "";
        }
    }

    /** "It is 0 at the beginning" */
    private static void theDepthIs0AtTheBeginning() {
        String sum = "((((((((1))))))))";
        String test = "[[[[[[[[1 < 2]]]]]]]]";
        Check.reads("layer a " + sum + " xs " + sum + " yearly " + sum + " after " + sum + " when " + test + ";"
                + "layer b " + sum + " xs " + sum + " when " + sum + " < " + sum + ";");
    }

    /** "1 greater between a ( and its ), a [ and its ]" */
    private static void theDepthEndsWithWhatOpenedIt() {
        String sum = "((((((((1))))))))";
        String test = "[[[[[[[[1 < 2]]]]]]]]";
        String seven = "(((((((1)))))))";
        Check.reads("layer a " + sum + " + " + sum + " - " + sum + " * " + sum + " / " + sum + " xs 1;");
        Check.reads("layer a (" + seven + " + " + seven + ") xs min(" + seven + ", " + seven + ");");
        Check.reads("layer a (1 + " + sum + ") xs 1;", 1, 20);
        Check.reads("layer a min(1, " + sum + ") xs 1;", 1, 22);
        Check.reads("layer a max(" + sum + ", 1) xs 1;", 1, 19);
        Check.reads("layer a 1 xs 1 when " + test + " and " + test + " or " + test + ";");
        Check.reads("layer a 1 xs 1 when [1 < 2 and " + test + "];", 1, 38);
        Check.reads("layer a 1 xs 1 when " + sum + " < " + sum + " and " + sum + " < 1;");
        Check.reads("layer a 1 xs 1 when [[[[" + "((((1)))) < ((((1))))" + "]]]] and " + sum + " = 1;");
        Check.reads("layer a 1 xs 1 when [[[[" + "((((1)))) < (((((1)))))" + "]]]];", 1, 40);
        // min and max alone go no deeper, their ( does
        Check.reads("layer a ((((((((min", 1, 19);
        Check.reads("layer a ((((((((min(", 1, 19);
        Check.reads("layer a (((((((min(", 1, 19);
        Check.reads("layer a (((((((min(1, 1)))))))) xs 1;");
    }

    /** "behind a - in front (of a value) for what it turns" */
    private static void aMinusTurnsOneValue() {
        String sum = "((((((((1))))))))";
        Check.reads("layer a 1 - " + sum + " - " + sum + " xs 1;");
        Check.reads("layer a -1 - " + sum + " xs 1;");
        Check.reads("layer a -1 * " + sum + " xs 1;");
        Check.reads("layer a -" + sum + " xs 1;", 1, 16);
        Check.reads("layer a 1 --" + sum + " xs 1;", 1, 19);
        Check.reads("layer a --------1 xs 1;");
        Check.reads("layer a ---------1 xs 1;", 1, 16);
        Check.reads("layer a 1---------1 xs 1;");
        Check.reads("layer a 1----------1 xs 1;", 1, 18);
        Check.reads("layer a --------1---------1*--------1 xs --------1;");
        Check.reads("layer a -(-(-(-(-1)))) xs 1;", 1, 16);
        Check.reads("layer a -(-(-(-(1)))) xs 1;");
        tells("--------5", 5);
        tells("1---------5", -4);
        tells("1--------5", 6);
        tells("-2-3", -5);
        tells("-2*3+10", 4);
    }

    /** "behind a not for what it turns" */
    private static void aNotTurnsOneSingle() {
        String test = "[[[[[[[[1 < 2]]]]]]]]";
        Check.reads("layer a 1 xs 1 when not 1 < 2 and " + test + ";");
        Check.reads("layer a 1 xs 1 when not 1 < 2 or " + test + ";");
        Check.reads("layer a 1 xs 1 when not " + test + ";", 1, 31);
        Check.reads("layer a 1 xs 1 when " + Check.times("not ", 8) + "1 < 2;");
        Check.reads("layer a 1 xs 1 when " + Check.times("not ", 9) + "1 < 2;", 1, 52);
        Check.reads("layer a 1 xs 1 when " + Check.times("not ", 7) + "-1 < -2;");
        Check.reads("layer a 1 xs 1 when " + Check.times("not ", 8) + "1 < -2;", 1, 56);
        holds("not 1 < 2 or 1 < 2", true);
        holds("not 2 < 1 and 2 < 1", false);
        holds("not [2 < 1 and 2 < 1]", true);
        holds(Check.times("not ", 7) + "1 < 2", false);
        holds(Check.times("not ", 8) + "1 < 2", true);
    }

    private static void tells(String sum, int due) {
        holds(sum + " = " + due, true);
    }

    private static void holds(String test, boolean due) {
        LossHouse house = Check.houseWith("layer a 1 xs 0 when " + test + ";");
        house.open(0, 0, 1);
        Check.same(test, house.gets(0, 0, false), due ? 1 : 0);
    }

    // ---- error 1

    /** "the token that would be the 401st": layer a 1 xs 1 ; are 6 tokens, each +1 two more. */
    private static void the401stTokenIsWrong() {
        String full = "layer a 1" + Check.times("+1", 197) + " xs 1;";
        LossHouse house = Check.houseWith(full);
        Check.same("limit", house.terms(0, 0, 0), 198);
        for (String next : new String[] {";", "layer", "layer b 1 xs 1;", "a", "7", "!", "abcdefghijk", "12345678", "(", "-"}) {
            Check.reads(full + next, 1, 409);
            Check.reads(full + " \n" + next, 1, 411);
        }
        // the 401st is a good token by the grammar, and one that ends a text
        String longer = "layer a 1" + Check.times("+1", 198) + " xs 1";
        Check.reads(longer + ";", 1, 409);
        Check.reads(longer, 1, 409);
        Check.reads("layer a -1" + Check.times("+1", 197) + " xs 1;", 1, 409);
        Check.reads("layer a -1" + Check.times("+1", 196) + " xs 1;");
        // a wrong token ahead of it is the first one
        Check.reads("layer a 1" + Check.times("+1", 196) + "+* xs 1;;", 1, 402);
        // many layers: the 67th begins with the 397th token
        String many = Check.times("layer a 1 xs 1;", 66);
        Check.reads(many, 2, 21);
        Check.reads(many + "layer b 1 xs", 1, 1002);
        Check.reads(many + "layer b 1 xs 1;", 1, 1003);
        Check.reads(Check.times(";", 2000), 1, 0);
    }

    /** "(the end of the tape not counted)" */
    private static void theEndOfTheTapeIsNotCounted() {
        String full = "layer a 1" + Check.times("+1", 197) + " xs 1;";
        Check.reads(full);
        Check.reads(full + " \n ");
        Check.reads("layer a 1" + Check.times("+1", 196) + " xs 1;");
        // 400 tokens that are no text: the end of the tape is wrong, though it would be the 401st
        Check.reads("layer a -1" + Check.times("+1", 197) + " xs 1", 1, 409);
        Check.reads("layer a -1" + Check.times("+1", 197) + " xs 1 \n", 1, 411);
        Check.reads("layer a 1" + Check.times("+1", 197) + " xs 1", 1, 408);
    }

    /** "the end of the tape (at its length)" */
    private static void theEndOfTheTapeIsWrongAtItsLength() {
        String text = "layer ab 12 xs min(34, 5) share 6 yearly -7 after (8) reinstate 1 at 9 net of z, y"
                + " when not [line <= 2] and year = 3 or amount > 4;";
        for (int n = 1; n < text.length(); n++) {
            // a shorter text of the same is never whole; it is wrong at its end, or at a word that is not whole
            int tokenAt = n;
            while (tokenAt > 0 && Character.isLetterOrDigit(text.charAt(tokenAt - 1))) {
                tokenAt--;
            }
            boolean isCut = Character.isLetterOrDigit(text.charAt(n)) && isKeywordAt(text, tokenAt) && tokenAt < n;
            Check.reads(text.substring(0, n), 1, isCut ? tokenAt : n);
        }
        Check.reads(text, 3, text.indexOf(" z") + 1);
        Check.reads("");
        Check.reads(" ");
        Check.reads("layer   ", 1, 8);
        Check.reads("layer\n", 1, 6);
        Check.reads(Check.times("layer a 1 xs 1;", 3) + "layer", 1, 50);
    }

    /** All words of this text are keywords but these names; a name that is cut is a name still. */
    private static boolean isKeywordAt(String text, int position) {
        return Character.isLetter(text.charAt(position)) && !text.startsWith("ab ", position);
    }

    /** "This includes a byte with which no token begins" */
    private static void aByteWithWhichNoTokenBegins() {
        String begins = "abcdefghijklmnopqrstuvwxyz0123456789()[];,+-*/<=> \n";
        for (int b = 0; b <= 255; b++) {
            if (begins.indexOf((char) b) < 0) {
                Check.reads("layer a 1 xs 1 when 1 " + (char) b + " 2;", 1, 22);
                Check.reads("layer a 1 xs 1 when 1 <" + (char) b + " 2;", 1, 23);
                Check.reads("layer a " + (char) b + "1 xs 1;", 1, 8);
                Check.reads("layer a 1 xs 1" + (char) b, 1, 14);
                Check.reads("layer a 1 xs 1 net of b" + (char) b + ";", 1, 23);
            }
        }
    }

    /** "the first token with which the tokens so far are not the beginning of a text" */
    private static void theFirstWrongTokenIsTold() {
        Check.reads("a", 1, 0);
        Check.reads(";", 1, 0);
        Check.reads("layer layer", 1, 6);
        Check.reads("layer a 1 xs 1;;", 1, 15);
        Check.reads("layer a 1 xs 1; a", 1, 16);
        Check.reads("layer a ) ! 12345678", 1, 8);
        Check.reads("layer a 1 xs xs !", 1, 13);
        Check.reads("layer a 1 xs 1 ! layer", 1, 15);
        Check.reads("layer a () xs 1;", 1, 9);
        Check.reads("layer a (1;", 1, 10);
        Check.reads("layer a min(1) xs 1;", 1, 13);
        Check.reads("layer a min(1, 2, 3) xs 1;", 1, 16);
        Check.reads("layer a min 1 xs 1;", 1, 12);
        Check.reads("layer a max 1 xs 1;", 1, 12);
        Check.reads("layer a min xs 1;", 1, 12);
        Check.reads("layer a max xs 1;", 1, 12);
        Check.reads("layer a 1 xs min;", 1, 16);
        Check.reads("layer a 1 xs 1 when [1 < 2) ;", 1, 26);
        Check.reads("layer a 1 xs 1 when 1 < 2 1 < 2;", 1, 26);
        Check.reads("layer a 1 + * 2 xs 1;", 1, 12);
        Check.reads("layer a + 1 xs 1;", 1, 8);
    }

    // ---- errors 2 to 5

    /** "Only if there is no error 1, names and numbers are looked at" */
    private static void error1ComesAheadOfAllOthers() {
        String[] others = {"layer a 1 xs 1;layer a 1 xs 1", "layer a 1 xs 1 net of b", "layer a 1 xs 1 share 0",
            "layer a 1 xs 1 reinstate 5", "layer a 1 xs 1 reinstate 1 at 301", EIGHT + "layer i 1 xs 1"};
        int[] errors = {2, 3, 5, 5, 5, 4};
        int[] positions = {21, 22, 21, 25, 30, 126};
        for (int i = 0; i < others.length; i++) {
            Check.reads(others[i] + ";", errors[i], positions[i]);
            Check.reads(others[i], 1, others[i].length());
            Check.reads(others[i] + "; !", 1, others[i].length() + 2);
            Check.reads(others[i] + "; layer", 1, others[i].length() + 7);
        }
    }

    /** "names and numbers are looked at from left to right, and the first error is told, at its token" */
    private static void theFirstErrorFromTheLeftIsTold() {
        String[] parts = {" share 0", " reinstate 5", " net of z"};
        int[] errors = {5, 5, 3};
        int[] offsets = {7, 11, 8};
        String head = "layer a 1 xs 1";
        for (int i = 0; i < parts.length; i++) {
            for (int k = i; k < parts.length; k++) {
                String both = k > i ? parts[i] + parts[k] : parts[i];
                Check.reads(head + both + "; layer a 1 xs 1;", errors[i], head.length() + offsets[i]);
                Check.reads("layer b 1 xs 1; layer b 1 xs 1" + both + ";", 2, 22);
            }
        }
        Check.reads(head + " share 0; layer b 1 xs 1 share 101;", 5, 21);
        Check.reads(head + " share 1; layer b 1 xs 1 share 101;", 5, 45);
        Check.reads(head + " reinstate 5 at 301;", 5, 25);
        Check.reads(head + " reinstate 4 at 301 at 302;", 5, 30);
        Check.reads(head + "; layer b 1 xs 1 net of a, c, d;", 3, 41);
        Check.reads(head + "; layer b 1 xs 1 net of c, d; layer b 1 xs 1;", 3, 38);
        Check.reads(EIGHT.replace("layer h 1 xs 1;", "layer h 1 xs 1 share 0;") + "layer i 1 xs 1;", 5, 126);
        Check.reads(EIGHT + "layer i 1 xs 1 share 0; layer a 1 xs 1 net of y;", 4, 126);
    }

    /** "of errors at one token the one with the smallest number" */
    private static void theSmallestErrorOfATokenIsTold() {
        for (char name = 'a'; name <= 'i'; name++) {
            Check.reads(EIGHT + "layer " + name + " 1 xs 1;", name <= 'h' ? 2 : 4, 126);
        }
    }

    /** "Error 2: the name behind layer is that of a layer told ahead." */
    private static void error2ForANameToldAhead() {
        StringBuilder text = new StringBuilder();
        for (char name = 'a'; name <= 'h'; name++) {
            for (char again = 'a'; again <= name; again++) {
                boolean isTold = again < name;
                Check.reads(text + "layer " + again + " 1 xs 1;", isTold ? 2 : 0, isTold ? text.length() + 6 : -1);
            }
            text.append("layer ").append(name).append(" 1 xs 1;");
        }
        Check.reads("layer ab 1 xs 1; layer ba 1 xs 1; layer aab 1 xs 1; layer ab0 1 xs 1; layer a0b 1 xs 1;");
        Check.reads("layer a0 1 xs 1; layer a00 1 xs 1; layer a1 1 xs 1; layer aa 1 xs 1; layer a 1 xs 1;");
        Check.reads("layer a0 1 xs 1; layer a00 1 xs 1; layer a0 1 xs 1;", 2, 41);
        // the names of an earlier text are told no more
        LossHouse house = Check.houseWith("layer a 1 xs 1; layer b 1 xs 1;");
        Check.taught(house, "layer b 1 xs 1; layer a 1 xs 1;");
        Check.taught(house, "layer c 1 xs 1; layer c 1 xs 1;", 2, 22);
        Check.taught(house, "layer c 1 xs 1;");
    }

    /** "Error 3: a name behind net of, or a comma, is that of no layer told ahead (its own is none)." */
    private static void error3ForANameThatIsNotToldAhead() {
        Check.reads("layer a 1 xs 1; layer b 1 xs 1 net of a; layer c 1 xs 1 net of b; layer d 1 xs 1 net of a, b, c;");
        Check.reads("layer a 1 xs 1 net of a;", 3, 22);
        Check.reads("layer a 1 xs 1; layer b 1 xs 1 net of b;", 3, 38);
        Check.reads("layer a 1 xs 1; layer b 1 xs 1 net of a, b;", 3, 41);
        Check.reads("layer a 1 xs 1; layer b 1 xs 1 net of c; layer c 1 xs 1;", 3, 38);
        Check.reads("layer a 1 xs 1; layer b 1 xs 1 net of a, c; layer c 1 xs 1;", 3, 41);
        Check.reads("layer a 1 xs 1; layer b 1 xs 1 net of a, a, a;");
        Check.reads("layer ab 1 xs 1; layer b 1 xs 1 net of a;", 3, 39);
        Check.reads("layer a 1 xs 1; layer b 1 xs 1 net of ab;", 3, 38);
        LossHouse house = Check.houseWith("layer a 1 xs 1; layer b 1 xs 1;");
        Check.taught(house, "layer c 1 xs 1; layer d 1 xs 1 net of a;", 3, 38);
        Check.taught(house, "layer c 1 xs 1; layer d 1 xs 1 net of c;");
    }

    /** "Error 4: the name behind layer of the 9th layer." */
    private static void error4ForThe9thLayer() {
        LossHouse house = Check.houseWith(EIGHT);
        Check.same("count(0)", house.count(0), 8);
        Check.reads(EIGHT + "layer i 1 xs 1;", 4, 126);
        Check.reads(EIGHT + "  layer\n\ni 1 xs 1; layer j 1 xs 1;", 4, 129);
        Check.reads(EIGHT + "layer i 1 xs 1 net of a;", 4, 126);
    }

    /** "Error 5: the number behind share is not 1 to 100" */
    private static void error5ForAShare() {
        String[] shares = {"0", "1", "99", "100", "101", "200", "9999999", "0000000", "0000100", "0000101"};
        boolean[] isGood = {false, true, true, true, false, false, false, false, true, false};
        for (int i = 0; i < shares.length; i++) {
            Check.reads("layer a 1 xs 1 share " + shares[i] + ";", isGood[i] ? 0 : 5, isGood[i] ? -1 : 21);
        }
    }

    /** "that behind reinstate is more than 4" */
    private static void error5ForReinstate() {
        String[] numbers = {"0", "1", "4", "5", "100", "9999999", "0000004", "0000005"};
        boolean[] isGood = {true, true, true, false, false, false, true, false};
        for (int i = 0; i < numbers.length; i++) {
            Check.reads("layer a 1 xs 1 reinstate " + numbers[i] + ";", isGood[i] ? 0 : 5, isGood[i] ? -1 : 25);
        }
    }

    /** "that behind at is more than 300" */
    private static void error5ForANumberBehindAt() {
        String[] numbers = {"0", "1", "299", "300", "301", "9999999", "0000300", "0000301"};
        boolean[] isGood = {true, true, true, true, false, false, true, false};
        for (int n = 0; n < 4; n++) {
            String head = "layer a 1 xs 1 reinstate 4" + Check.times(" at 1", n) + " at ";
            for (int i = 0; i < numbers.length; i++) {
                Check.reads(head + numbers[i] + ";", isGood[i] ? 0 : 5, isGood[i] ? -1 : head.length());
            }
        }
    }

    /** "there is one more at than the number behind reinstate tells (at the number behind this at)" */
    private static void error5ForOneMoreAt() {
        for (int told = 0; told <= 4; told++) {
            for (int n = 0; n <= 7; n++) {
                String head = "layer a 1 xs 1 reinstate " + told;
                boolean isGood = n <= told;
                int wrongAt = head.length() + 5 * told + 4;
                Check.reads(head + Check.times(" at 0", n) + ";", isGood ? 0 : 5, isGood ? -1 : wrongAt);
            }
        }
        // each layer has its own ones
        Check.reads("layer a 1 xs 1 reinstate 1 at 1; layer b 1 xs 1 reinstate 1 at 1;");
        Check.reads("layer a 1 xs 1 reinstate 4 at 1; layer b 1 xs 1 reinstate 1 at 1 at 1;", 5, 68);
    }

    /** Promise 5: "-1 if it had none, or there was none" */
    private static void errorAtTellsOfTheLatestTeach() {
        LossHouse house = new LossHouse();
        Check.same("errorAt() without a teach()", house.errorAt(), -1);
        Check.write(house, "layer");
        Check.same("errorAt() ahead of teach()", house.errorAt(), -1);
        Check.same("teach()", house.teach(), 1);
        Check.same("errorAt()", house.errorAt(), 5);
        Check.write(house, LAYER);
        Check.same("errorAt() ahead of the next teach()", house.errorAt(), 5);
        house.trim(0);
        Check.same("errorAt() behind trim()", house.errorAt(), 5);
        Check.taught(house, LAYER);
        Check.taught(house, "layer a 1 xs 1; layer a", 1, 23);
        Check.taught(house, "layer a 1 xs 1; layer a 1 xs 1;", 2, 22);
        Check.taught(house, "");
        Check.taught(house, "!", 1, 0);
        Check.taught(house, LAYER);
    }
}

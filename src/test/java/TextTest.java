/** Promises 1 to 5: a new object, the tape, and what a text may be. */
final class TextTest {
    public static void main(String[] args) {
        newObject();
        feeding();
        trimming();
        teaching();
        tokens();
        grammar();
        depth();
        manyTokens();
        names();
        numbers();
        firstError();
        Check.end();
    }

    private static void newObject() {
        LossHouse house = new LossHouse();
        for (int what = 0; what <= 8; what++) {
            Check.same("count(" + what + ") of a new house", house.count(what), 0);
        }
        Check.same("errorAt() of a new house", house.errorAt(), -1);
        Check.same("setTail of a new house", house.setTail(1000), 1000);
        Check.same("setPremium of a new house", house.setPremium(9, 0, 0), 0);
        Check.same("keenest() of a new house", house.keenest(), -1);
        Check.same("kept() of a new house", house.kept(), 1.0);
    }

    private static void feeding() {
        LossHouse house = new LossHouse();
        // "layer a 5 xs 6 ;" with the highest byte first, and four blanks
        Check.same("feed", house.feed(0x6c617965, 0x72206120, 0x35207873, 0x2036203b, 0x20202020), 20);
        Check.same("teach() of bytes", house.teach(), 0);
        Check.same("limit", house.terms(0, 0, 0), 5);
        Check.same("retention", house.terms(0, 0, 1), 6);
        for (int i = 1; i <= 99; i++) {
            Check.same("feed", house.feed(0, -1, Integer.MIN_VALUE, 0x20202020, 7), 20 * i);
        }
        house.trim(1979);
        Check.same("feed to 1999", house.feed(0, 0, 0, 0, 0), 1999);
        house.trim(1981);
        Check.noState("feed beyond 2000", house, () -> house.feed(0, 0, 0, 0, 0));
        Check.same("count(4)", house.count(4), 1981);
        house.trim(1980);
        Check.same("feed to 2000", house.feed(0, 0, 0, 0, 0), 2000);
        Check.noState("feed behind 2000", house, () -> house.feed(0, 0, 0, 0, 0));
        Check.same("count(4)", house.count(4), 2000);
        Check.same("teach() of 2000 bytes", house.teach(), 1);
        Check.same("feed behind teach()", house.feed(0, 0, 0, 0, 0), 20);
    }

    private static void trimming() {
        LossHouse house = new LossHouse();
        Check.noArgument("trim(1) of nothing", house, () -> house.trim(1));
        Check.noArgument("trim(-1)", house, () -> house.trim(-1));
        Check.same("trim(0) of nothing", house.trim(0), 0);
        house.feed(0x20202020, 0x20202020, 0x20202020, 0x20202020, 0x20202020);
        Check.noArgument("trim(21)", house, () -> house.trim(21));
        Check.noArgument("trim(the least int)", house, () -> house.trim(Integer.MIN_VALUE));
        Check.same("trim(20)", house.trim(20), 20);
        Check.same("trim(7)", house.trim(7), 7);
        Check.same("count(4)", house.count(4), 7);
        Check.noArgument("trim(8)", house, () -> house.trim(8));
        Check.same("feed behind trim", house.feed(0, 0, 0, 0, 0), 27);
    }

    private static void teaching() {
        LossHouse house = new LossHouse();
        Check.taught(house, "");
        Check.same("count(0)", house.count(0), 0);
        Check.taught(house, "layer a 7 xs 0; layer b 8 xs 0;");
        house.open(0, 3, 20);
        Check.same("count(7)", house.count(7), 5);
        Check.taught(house, "layer a 7 xs 0; layer a 8 xs 0;", 2, 22);
        Check.same("count(0) behind an error", house.count(0), 2);
        Check.same("layers behind an error", house.terms(1, 0, 0), 8);
        Check.taught(house, "layer", 1, 5);
        Check.same("count(7) behind an error", house.count(7), 5);
        Check.taught(house, "layer b 9 xs 1 share 50;");
        Check.same("count(0) behind another text", house.count(0), 1);
        Check.same("count(1) behind another text", house.count(1), 1);
        Check.same("share behind another text", house.layer(0, 0), 50);
        Check.same("count(7) behind another text", house.count(7), 16);
        Check.taught(house, " \n ");
        Check.same("count(0) behind blanks", house.count(0), 0);
        Check.same("errorAt() stays", house.errorAt(), -1);
        Check.same("count(7) without layers", house.count(7), 20);
    }

    private static void tokens() {
        LossHouse house = new LossHouse();
        Check.taught(house, "\n layer\na 1xs 2share 3yearly 4after 5reinstate 1at 6when 7<8and 9>=line;\n");
        Check.same("share", house.layer(0, 0), 3);
        Check.same("at", house.layer(0, 4), 6);
        Check.taught(house, "layera 1 xs 1;", 1, 0);
        Check.taught(house, "layer a 1 xs1;", 1, 10);
        Check.taught(house, "layer a1 2 xs 3;");
        Check.taught(house, "layer a 1 2 xs 3;", 1, 10);
        Check.taught(house, "layer abcdefghij 1 xs 1;");
        Check.taught(house, "layer abcdefghijk 1 xs 1;", 1, 6);
        Check.taught(house, "layer a234567890 1 xs 1;");
        Check.taught(house, "layer a2345678901 1 xs 1;", 1, 6);
        Check.taught(house, "layer a 9999999 xs 0000001;");
        Check.same("the greatest number", house.terms(0, 0, 0), 9999999);
        Check.same("a number with zeros", house.terms(0, 0, 1), 1);
        Check.taught(house, "layer a 00000001 xs 1;", 1, 8);
        Check.taught(house, "layer a 1 xs 12345678;", 1, 13);
        Check.taught(house, "layer A 1 xs 1;", 1, 6);
        Check.taught(house, "layer aB 1 xs 1;", 1, 7);
        Check.taught(house, "layer a\t1 xs 1;", 1, 7);
        Check.taught(house, "layer a\r1 xs 1;", 1, 7);
        Check.taught(house, "layer a 1 xs 1;" + (char) 0, 1, 15);
        Check.taught(house, "layer a 1 xs 1" + (char) 0xe1, 1, 14);
        Check.taught(house, "layer a 1 xs 1;" + (char) 0xa0, 1, 15);
        Check.taught(house, "layer a 1 xs 1 when 1 < = 2;", 1, 24);
        Check.taught(house, "layer a 1 xs 1 when 1<=2;");
        Check.taught(house, "layer a 1 xs 1 when 1=>2;", 1, 22);
        Check.taught(house, "layer a 1 xs 1 when 1==2;", 1, 22);
        Check.taught(house, "layer a 1 xs 1 when 1>=2;");
        Check.taught(house, "layer a 1 xs 1 when 1>-2;");
        Check.taught(house, "layer a_b 1 xs 1;", 1, 7);
    }

    private static void grammar() {
        LossHouse house = new LossHouse();
        Check.taught(house, "a", 1, 0);
        Check.taught(house, ";", 1, 0);
        Check.taught(house, "layer a 1 xs 1", 1, 14);
        Check.taught(house, "layer a 1 xs 1  \n", 1, 17);
        Check.taught(house, "layer 1 1 xs 1;", 1, 6);
        Check.taught(house, "layer min 1 xs 1;", 1, 6);
        Check.taught(house, "layer a xs 1;", 1, 8);
        Check.taught(house, "layer a 1 1;", 1, 10);
        Check.taught(house, "layer a 1 xs ;", 1, 13);
        Check.taught(house, "layer a 1 xs 1;;", 1, 15);
        Check.taught(house, "layer a 1 xs 1 layer", 1, 15);
        Check.taught(house, "layer a 1 xs 1 share -1;", 1, 21);
        Check.taught(house, "layer a 1 xs 1 share (5);", 1, 21);
        Check.taught(house, "layer a 1 xs 1 yearly;", 1, 21);
        Check.taught(house, "layer a 1 xs 1 after 5 yearly 5;", 1, 23);
        Check.taught(house, "layer a 1 xs 1 yearly 5 share 5;", 1, 24);
        Check.taught(house, "layer a 1 xs 1 at 5;", 1, 15);
        Check.taught(house, "layer a 1 xs 1 reinstate at 5;", 1, 25);
        Check.taught(house, "layer a 1 xs 1 net a;", 1, 19);
        Check.taught(house, "layer a 1 xs 1 net of;", 1, 21);
        Check.taught(house, "layer a 1 xs 1 net of b c;", 1, 24);
        Check.taught(house, "layer a 1 xs 1 net of b,;", 1, 24);
        Check.taught(house, "layer a 1 xs 1 net of line;", 1, 22);
        Check.taught(house, "layer a 1 xs 1 when;", 1, 19);
        Check.taught(house, "layer a 1 xs 1 when (1 < 2);", 1, 23);
        Check.taught(house, "layer a 1 xs 1 when [1 < 2;", 1, 26);
        Check.taught(house, "layer a 1 xs 1 when 1 < 2 < 3;", 1, 26);
        Check.taught(house, "layer a 1 xs 1 when 1 < 2 or;", 1, 28);
        Check.taught(house, "layer a 1 xs 1 when 1 < 2 not 1 < 2;", 1, 26);
        Check.taught(house, "layer a 1 xs 1 when not;", 1, 23);
        Check.taught(house, "layer a 1 xs 1 when [1 < 2] < 3;", 1, 28);
        Check.taught(house, "layer a 1 xs 1 when 1 < 2 net of a;", 1, 26);
        Check.taught(house, "layer a min(1) xs 1;", 1, 13);
        Check.taught(house, "layer a min 1, 2 xs 1;", 1, 12);
        Check.taught(house, "layer a min xs 1;", 1, 12);
        Check.taught(house, "layer a max;", 1, 11);
        Check.taught(house, "layer a max(1, 2, 3) xs 1;", 1, 16);
        Check.taught(house, "layer a (1 xs 1;", 1, 11);
        Check.taught(house, "layer a 1) xs 1;", 1, 9);
        Check.taught(house, "layer a 1 + xs 1;", 1, 12);
        Check.taught(house, "layer a + 1 xs 1;", 1, 8);
        Check.taught(house, "layer a b xs 1;", 1, 8);
        Check.taught(house, "layer a [1] xs 1;", 1, 8);
        Check.taught(house, "layer a - - 1 - - 1 xs line + year * amount;");
        Check.taught(house, "layer a 1 xs 1; layer b 1 xs 1 share 1 yearly 1 after 1 reinstate 2 at 1 at 2 net of a, a"
                + " when [not [1 < 2] and 3 = 3] or 1 <= amount and line > year;");
        Check.same("count(0)", house.count(0), 2);
    }

    private static void depth() {
        LossHouse house = new LossHouse();
        String eight = Check.times("(", 8) + "1" + Check.times(")", 8);
        Check.taught(house, "layer a " + eight + " xs " + eight + " yearly 1+" + eight + "*" + eight + ";");
        Check.taught(house, "layer a (" + eight + ") xs 1;", 1, 16);
        Check.taught(house, "layer a " + Check.times("-", 8) + "5 xs 1;");
        Check.same("eight signs", house.terms(0, 0, 0), 5);
        Check.taught(house, "layer a " + Check.times("-", 9) + "5 xs 1;", 1, 16);
        Check.taught(house, "layer a ((((((((5 - 1)))))))) xs 1;");
        Check.taught(house, "layer a ((((((((-5)))))))) xs 1;", 1, 16);
        Check.taught(house, "layer a (((((((-min(1, 2)))))))) xs 1;", 1, 19);
        Check.taught(house, "layer a ((((((((min", 1, 19);
        Check.taught(house, "layer a (((((((min(1, 2)))))))) xs 1;");
        Check.taught(house, "layer a ((((((((min(1, 2))))))))) xs 1;", 1, 19);
        Check.taught(house, "layer a (((((((min(1, -2)))))))) xs 1;", 1, 22);
        Check.taught(house, "layer a (((((((max(-1, 2)))))))) xs 1;", 1, 19);
        Check.taught(house, "layer a ((((((min(-1, -2))))))) xs 1;");
        Check.taught(house, "layer a min(((((((((1)))))))), 2) xs 1;", 1, 19);
        Check.taught(house, "layer a min(2, ((((((((1))))))))) xs 1;", 1, 22);
        Check.taught(house, "layer a min(((((((-1)))))), ((((((-1))))))) xs 1;");
        Check.taught(house, "layer a -5 - -5 - -5 - -5 - -5 - -5 - -5 - -5 - -5 - -5 xs 1;");
        String not = Check.times("not ", 8);
        Check.taught(house, "layer a 1 xs 1 when " + not + "1 < 2 and " + not + "[2 < 1];", 1, 94);
        Check.taught(house, "layer a 1 xs 1 when " + not + "1 < 2 and " + not + "2 < 1;");
        Check.taught(house, "layer a 1 xs 1 when not " + not + "1 < 2;", 1, 52);
        Check.taught(house, "layer a 1 xs 1 when [[[[[[[[1 < 2]]]]]]]];");
        Check.taught(house, "layer a 1 xs 1 when [[[[[[[[[1 < 2]]]]]]]]];", 1, 28);
        Check.taught(house, "layer a 1 xs 1 when [[[[not not (-1) < 2]]]];");
        Check.taught(house, "layer a 1 xs 1 when [[[[not not (-(1)) < 2]]]];", 1, 34);
        Check.taught(house, "layer a 1 xs 1 when [[[[[[[[(1) < 2]]]]]]]];", 1, 28);
        Check.taught(house, "layer a 1 xs 1 when [[[[[[[[1 < -2]]]]]]]];", 1, 32);
    }

    private static void manyTokens() {
        LossHouse house = new LossHouse();
        // layer a 1 xs 1; has 6 tokens, each +1 two more
        Check.taught(house, "layer a 1" + Check.times("+1", 197) + " xs 1;");
        Check.same("a long sum", house.terms(0, 0, 0), 198);
        Check.taught(house, "layer a 1" + Check.times("+1", 197) + " xs 1; \n ");
        Check.taught(house, "layer a 1" + Check.times("+1", 197) + " xs 1;;", 1, 409);
        Check.taught(house, "layer a 1" + Check.times("+1", 198) + " xs 1;", 1, 409);
        Check.taught(house, "layer a 1" + Check.times("+1", 198) + " xs 1", 1, 409);
        Check.taught(house, "layer a 1" + Check.times("+1", 197) + " xs 1", 1, 408);
        Check.taught(house, "layer a 1" + Check.times("+1", 197) + " xs 1 layer b", 1, 409);
        Check.taught(house, "layer a 1 xs 1" + Check.times("-1", 197) + " ; layer b 1 xs 1;", 1, 411);
        String ten = Check.times("layer a 1 xs 1;", 66);
        Check.taught(house, ten + "layer b 1 xs", 1, 1002);
        Check.taught(house, ten, 2, 21);
        Check.taught(house, ten + "layer b 1 xs 1;", 1, 1003);
    }

    private static void names() {
        LossHouse house = new LossHouse();
        String eight = "layer a 1 xs 1;layer b 1 xs 1;layer c 1 xs 1;layer d 1 xs 1;"
                + "layer e 1 xs 1;layer f 1 xs 1;layer g 1 xs 1;layer h 1 xs 1;";
        Check.taught(house, eight);
        Check.same("count(0)", house.count(0), 8);
        Check.taught(house, eight + "layer i 1 xs 1;", 4, 126);
        Check.taught(house, eight + "layer h 1 xs 1;", 2, 126);
        Check.taught(house, eight + "layer i 1 xs 1 share 0; layer a 1 xs 1;", 4, 126);
        Check.taught(house, "layer a 1 xs 1; layer aa 1 xs 1; layer a0 1 xs 1; layer aaa 1 xs 1; layer a 1 xs 1;", 2, 74);
        Check.taught(house, "layer abcdefghi9 1 xs 1; layer abcdefghij 1 xs 1; layer abcdefghi9 1 xs 1;", 2, 56);
        Check.taught(house, "layer a 1 xs 1 net of a;", 3, 22);
        Check.taught(house, "layer a 1 xs 1; layer b 1 xs 1 net of a, b;", 3, 41);
        Check.taught(house, "layer a 1 xs 1; layer b 1 xs 1 net of a, c; layer c 1 xs 1;", 3, 41);
        Check.taught(house, "layer a 1 xs 1; layer b 1 xs 1 net of a; layer c 1 xs 1 net of b, a, b;");
        Check.same("net of twice", house.layer(2, 3), 3);
        // the names of an earlier text are no names of this one
        Check.taught(house, "layer d 1 xs 1; layer e 1 xs 1 net of a;", 3, 38);
        Check.taught(house, "layer a 1 xs 1;");
    }

    private static void numbers() {
        LossHouse house = new LossHouse();
        Check.taught(house, "layer a 1 xs 1 share 0;", 5, 21);
        Check.taught(house, "layer a 1 xs 1 share 1;");
        Check.taught(house, "layer a 1 xs 1 share 100;");
        Check.taught(house, "layer a 1 xs 1 share 101;", 5, 21);
        Check.taught(house, "layer a 1 xs 1 reinstate 4;");
        Check.taught(house, "layer a 1 xs 1 reinstate 5;", 5, 25);
        Check.taught(house, "layer a 1 xs 1 reinstate 0;");
        Check.taught(house, "layer a 1 xs 1 reinstate 0 at 0;", 5, 30);
        Check.taught(house, "layer a 1 xs 1 reinstate 1 at 300;");
        Check.taught(house, "layer a 1 xs 1 reinstate 1 at 301;", 5, 30);
        Check.taught(house, "layer a 1 xs 1 reinstate 4 at 0 at 1 at 2 at 3;");
        Check.same("the fourth at", house.layer(0, 7), 3);
        Check.taught(house, "layer a 1 xs 1 reinstate 4 at 0 at 1 at 2 at 3 at 4;", 5, 50);
        Check.taught(house, "layer a 1 xs 1 reinstate 2 at 1 at 2 at 3 at 4;", 5, 40);
        Check.taught(house, "layer a 1 xs 1 reinstate 2 at 1 at 999 at 3;", 5, 35);
        Check.taught(house, "layer a 0 xs 999 share 7 yearly 999 after 0 when 0 < 999;");
    }

    private static void firstError() {
        LossHouse house = new LossHouse();
        Check.taught(house, "layer a 1 xs 1 share 0; layer a 1 xs 1 net of z; layer", 1, 54);
        Check.taught(house, "layer a 1 xs 1 share 0; layer a 1 xs 1 net of z;", 5, 21);
        Check.taught(house, "layer a 1 xs 1; layer a 1 xs 1 share 0 net of z;", 2, 22);
        Check.taught(house, "layer a 1 xs 1; layer b 1 xs 1 net of z; layer a 1 xs 1;", 3, 38);
        Check.taught(house, "layer a 1 xs 1 reinstate 5 net of z;", 5, 25);
        Check.taught(house, "layer a 1 xs 1;");
        Check.same("errorAt() behind a good text", house.errorAt(), -1);
    }
}

/** Sentences on CHEAPEST, GREEDY and PARTS, and promises 15 to 18: each with a test of its own, reckoned by hand. */
public final class ChosenCodesTest {
    private static final int NONE = Due.NONE, OUTSIDE = Due.OUTSIDE, STATE = Due.STATE;

    public static void main(String[] args) {
        whatIsChosen();
        cheapest();
        codes();
        greedy();
        parts();
        Due.end();
    }

    // ---- what CHEAPEST, GREEDY and PARTS are

    private static void whatIsChosen() {
        Due.sentence("T37", "CHEAPEST: of the least PRICE of all its TOKENS together", ChosenCodesTest::leastPrice);
        Due.sentence("T38", "of all CODES that make the TEXT", ChosenCodesTest::ofAllCodes);
        Due.sentence("T39", "of like ones of fewest TOKENS", ChosenCodesTest::fewestTokens);
        Due.sentence("T40", "of like ones that whose first TOKEN has the least number", ChosenCodesTest::leastNumber);
        Due.sentence("T41", "then the second one, and so on", ChosenCodesTest::leastNumbersBehind);
        Due.sentence("T42", "Numbers of TOKENS: PLAIN the letter's", ChosenCodesTest::numbersOfPlain);
        Due.sentence("T43", "Numbers of TOKENS: AGAIN 100 and LENGTH", ChosenCodesTest::numbersOfAgain);
        Due.sentence("T44", "Numbers of TOKENS: COPY 1000, 10 times DISTANCE, and LENGTH", ChosenCodesTest::numbersOfCopy);
        Due.sentence("T45", "GREEDY: a COPY by LONGEST, if that is 2 or more", ChosenCodesTest::greedyCopies);
        Due.sentence("T46", "GREEDY: (an AGAIN, if its DISTANCE is that of the latest COPY)", ChosenCodesTest::greedyAgain);
        Due.sentence("T47", "GREEDY: else PLAIN; then on behind that", ChosenCodesTest::greedyGoesOn);
        Due.sentence("T48", "PARTS: the TEXT cut behind each n letters", ChosenCodesTest::cutBehindEach);
        Due.sentence("T49", "PARTS: CHEAPEST of each part as if it were the TEXT", ChosenCodesTest::eachByItself);
    }

    private static void leastPrice() {
        PricedCopies x = Due.text("abcabcabcabc");
        // three PLAIN ones, COPY by 3 for 8, AGAIN for 4; GREEDY takes 8 letters first, at 10 and 5
        Due.is("cheapest(0)", x.cheapest(0), 24 + 8 + 6);
        Due.tokens("abc four times", x, 0, 1, 2, 1032, 107);
        // 24 PLAIN ones at 24 against 4 TOKENS at 25
        x = Due.text("b".repeat(24));
        x.price(1, 1);
        x.price(4, 7);
        int[] plain = new int[24];
        java.util.Arrays.fill(plain, 1);
        Due.tokens("24 PLAIN ones", x, plain);
        Due.is("cheapest(0) of 24 PLAIN ones", x.cheapest(0), 24);
        // and at 30 each: 30 and 90 and two times 60
        for (int i = 0; i < 18; i++) x.price(i, 30);
        Due.is("cheapest(0) at 30 each", x.cheapest(0), 30 + 90 + 60 + 60);
    }

    private static void ofAllCodes() {
        // a COPY by the DISTANCE of the latest one is a CODE's, too, if AGAIN is dear
        PricedCopies x = Due.text("a".repeat(17));
        x.price(17, 30);
        Due.tokens("AGAIN dear", x, 0, 1018, 1018);
        // COPY for less than what is alike
        x = Due.text("aaaaa");
        x.price(12, 30);
        x.price(0, 1);
        x.price(4, 1);
        x.price(5, 1);
        x.price(11, 1);
        Due.tokens("LENGTH 4 dear", x, 0, 0, 1013);
        // a COPY by a DISTANCE that is not LONGEST's, so that AGAIN comes cheap
        x = Due.text("aaaaaaaa");
        Due.setPrices(x, 8, 8, 8, 8, 4, 30, 3);
        Due.tokens("DISTANCE 1 dear", x, 0, 0, 1026);
        // AGAIN behind a PLAIN one, and behind an AGAIN
        x = Due.text("ababcbcb");
        Due.tokens("ababcbcb", x, 0, 1, 1022, 2, 103);
        x = Due.text("a".repeat(24));
        Due.tokens("24 times a", x, 0, 1017, 108, 108);
        // nothing is copied at the first PLACE, or from ahead of it
        Due.tokens("d", Due.text("d"), 3);
        Due.tokens("dd", Due.text("dd"), 3, 3);
    }

    private static void fewestTokens() {
        PricedCopies x = Due.text("aaa");
        x.price(0, 4);
        x.price(4, 5);
        Due.is("aaa by 3 or by 2 TOKENS", x.cheapest(0), 12);
        Due.tokens("fewest TOKENS, though of greater numbers", x, 0, 1012);
        x.price(4, 6);
        Due.tokens("aaa, the fewest dearer by 1", x, 0, 0, 0);
        x.price(4, 4);
        Due.tokens("aaa, the fewest cheaper by 1", x, 0, 1012);
        // 24 PLAIN ones at 24 against 4 TOKENS at 24
        x = Due.text("b".repeat(24));
        x.price(1, 1);
        x.price(4, 6);
        Due.is("cheapest(0) of 4 TOKENS", x.cheapest(0), 24);
        Due.tokens("4 TOKENS of the same PRICE", x, 1, 1017, 108, 108);
    }

    private static void leastNumber() {
        // the first TOKEN is PLAIN in every CODE; here the next one tells them apart: a PLAIN one or a COPY
        PricedCopies x = Due.text("aaaa");
        x.price(11, 30);
        Due.is("aaaa without LENGTH 3", x.cheapest(0), 23);
        Due.tokens("PLAIN ahead of COPY", x, 0, 0, 1012);
        // LENGTH 2 and 3, or 3 and 2
        x = Due.text("aaaaaa");
        x.price(12, 30);
        x.price(13, 30);
        x.price(17, 30);
        Due.is("aaaaaa by LENGTHS 2 and 3", x.cheapest(0), 22);
        Due.tokens("the lesser LENGTH first", x, 0, 1012, 1013);
    }

    private static void leastNumbersBehind() {
        // AGAIN or COPY at the same PRICE
        PricedCopies x = Due.text("aaaaa");
        x.price(12, 30);
        x.price(17, 6);
        Due.is("aaaaa without LENGTH 4", x.cheapest(0), 22);
        Due.tokens("AGAIN ahead of COPY", x, 0, 1012, 102);
        x.price(17, 7);
        Due.tokens("AGAIN dearer by 1", x, 0, 1012, 1012);
        // PLAIN c and AGAIN, or AGAIN and PLAIN b: a is dear, and so is any LENGTH above 2
        x = Due.text("abcabcab");
        x.price(0, 30);
        for (int what = 11; what <= 16; what++) x.price(what, 30);
        Due.is("abcabcab", x.cheapest(0), 30 + 8 + 8 + 8 + 8 + 4);
        Due.tokens("PLAIN ahead of AGAIN", x, 0, 1, 2, 1032, 2, 102);
        // DISTANCES 2 and 3 have one PRICE, and the last two letters may come by either
        x = Due.text("aaaaa");
        x.price(5, 30);
        x.price(11, 30);
        Due.is("aaaaa without DISTANCE 1, LENGTH 3", x.cheapest(0), 32);
        Due.tokens("the least DISTANCE last", x, 0, 0, 0, 1022);
    }

    private static void numbersOfPlain() {
        Due.tokens("abcd", Due.text("abcd"), 0, 1, 2, 3);
        Due.tokens("dbca", Due.text("dbca"), 3, 1, 2, 0);
    }

    private static void numbersOfAgain() {
        for (int length = 2; length <= 8; length++) {
            PricedCopies x = Due.text("a".repeat(1 + 2 * length));
            for (int what = 10; what <= 16; what++) x.price(what, what == 8 + length ? 1 : 30);
            Due.tokens("AGAIN of LENGTH " + length, x, 0, 1010 + length, 100 + length);
        }
    }

    private static void numbersOfCopy() {
        Due.tokens("DISTANCE 1", Due.text("aaa"), 0, 1012);
        // a is cheap, d and c are dear, and every LENGTH above 2 is: the last two letters come by a COPY
        for (int distance = 2; distance <= 22; distance++) {
            PricedCopies x = Due.text("a".repeat(22 - distance) + "dc" + "a".repeat(distance - 2) + "dc");
            Due.setPrices(x, 1, 1, 30, 30);
            for (int what = 11; what <= 16; what++) x.price(what, 30);
            int[] due = new int[23];
            due[22 - distance] = 3;
            due[23 - distance] = 2;
            due[22] = 1000 + 10 * distance + 2;
            Due.tokens("DISTANCE " + distance, x, due);
        }
        for (int length = 2; length <= 8; length++) {
            Due.tokens("LENGTH " + length, Due.text("a".repeat(1 + length)), 0, 1010 + length);
        }
    }

    private static void dueGreedy(String text, int price, int tokens) {
        PricedCopies x = Due.text(text);
        Due.is("greedy(0) of " + text, x.greedy(0), price);
        Due.is("greedy(1) of " + text, x.greedy(1), tokens);
    }

    private static void greedyCopies() {
        // alike in one letter: PLAIN; in two: COPY
        dueGreedy("aba", 24, 3);
        dueGreedy("abab", 16 + 8, 3);
        dueGreedy("a".repeat(9), 8 + 9, 2);
        dueGreedy("a".repeat(10), 8 + 9 + 8, 3);
        dueGreedy("abcabcabcabc", 24 + 10 + 8, 5);
        // ab from 3 back, then abc from 6 back, which is longer than ab from 3 back
        dueGreedy("abcabdabcd", 24 + 8 + 8 + 9 + 8, 7);
        // ab from 4 back, dab from 3 back, cd from 7 back
        dueGreedy("abcdabdabcd", 32 + 9 + 8 + 9, 7);
        // abcabc from 3 back, not abc from 6 back
        dueGreedy("abcabcabcd", 24 + 4 + 3 + 3 + 8, 5);
        // also where PLAIN ones are cheaper
        PricedCopies x = Due.text("aaa");
        x.price(0, 1);
        Due.is("greedy(0) of aaa, a cheap", x.greedy(0), 1 + 7);
        Due.is("greedy(1) of aaa, a cheap", x.greedy(1), 2);
    }

    private static void greedyAgain() {
        dueGreedy("a".repeat(17), 8 + 9 + 6, 3);
        dueGreedy("a".repeat(24), 8 + 9 + 6 + 6, 4);
        // with a PLAIN one between
        dueGreedy("ababcbcb", 16 + 8 + 8 + 4, 5);
        // another DISTANCE is a COPY, and so is one that was the latest no more
        dueGreedy("ababccabcc", 16 + 8 + 16 + 10, 6);
        dueGreedy("ababccabccdada", 16 + 8 + 16 + 10 + 16 + 8, 9);
        // though AGAIN is dearer
        PricedCopies x = Due.text("a".repeat(17));
        x.price(17, 30);
        Due.is("greedy(0), AGAIN dear", x.greedy(0), 8 + 9 + 33);
        Due.is("greedy(1), AGAIN dear", x.greedy(1), 3);
    }

    private static void greedyGoesOn() {
        dueGreedy("a", 8, 1);
        dueGreedy("abcd", 32, 4);
        // a PLAIN letter at a time, a whole COPY at a time, up to the end
        dueGreedy("aabacadbbcbdccdda", 17 * 8, 17);
        dueGreedy("aabaab", 24 + 4 + 3 + 1, 4);
        dueGreedy("aabaabd", 24 + 4 + 3 + 1 + 8, 5);
    }

    private static void dueParts(String text, int n, int price, int number) {
        PricedCopies x = Due.text(text);
        Due.is("parts(" + n + ", 0) of " + text, x.parts(n, 0), price);
        Due.is("parts(" + n + ", 1) of " + text, x.parts(n, 1), number);
    }

    private static void cutBehindEach() {
        dueParts("aaaaaaaa", 1, 64, 8);
        dueParts("aaaaaaaa", 2, 64, 4);
        // 3, 3 and 2: the last part is shorter, and PLAIN
        dueParts("aaaaaaaa", 3, 15 + 15 + 16, 3);
        dueParts("aaaaaaaa", 4, 15 + 15, 2);
        dueParts("aaaaaaaa", 5, 16 + 15, 2);
        dueParts("aaaaaaaa", 6, 16 + 16, 2);
        dueParts("aaaaaaaa", 7, 17 + 8, 2);
        dueParts("aaaaaaaa", 8, 17, 1);
        dueParts("aaaaaaaa", 9, 17, 1);
        dueParts("aaaaaaaa", 24, 17, 1);
        // behind the first letters, not ahead of the last ones: bbb and ba against b and bba
        dueParts("bbbba", 3, 15 + 16, 2);
    }

    private static void eachByItself() {
        // no part copies from one ahead of it
        dueParts("abcdabcd", 4, 64, 2);
        dueParts("ababab", 2, 48, 3);
        // no part goes on by the DISTANCE of one ahead of it
        dueParts("a".repeat(12), 4, 15 + 15 + 15, 3);
        // no part copies beyond its end
        dueParts("aaaaaab", 4, 15 + 24, 2);
        // nor by an AGAIN: LENGTH 8 alone is cheap, and 3 letters are left behind a COPY
        PricedCopies eight = Due.text("a".repeat(24));
        for (int what = 10; what <= 15; what++) eight.price(what, 30);
        eight.price(16, 1);
        Due.is("parts(12, 0), LENGTH 8 cheap", eight.parts(12, 0), 2 * (8 + 7 + 24));
        // each is CHEAPEST, not GREEDY
        dueParts("abcabcabcabc" + "abcabcabcabc", 12, 38 + 38, 2);
        // by PRICES as they are
        PricedCopies x = Due.text("aaaaaaaa");
        x.price(0, 1);
        Due.is("parts(4, 0), a cheap", x.parts(4, 0), 8);
    }

    // ---- promise 15

    private static void cheapest() {
        Due.sentence("P15.1", "cheapest: what = 0 its PRICE", ChosenCodesTest::cheapestPrice);
        Due.sentence("P15.2", "cheapest: 1 how many TOKENS", ChosenCodesTest::cheapestTokens);
        Due.sentence("P15.3", "cheapest: 2 how many letters the CODE has", ChosenCodesTest::cheapestLetters);
        Due.sentence("P15.4", "cheapest: 10 to 33 the number of the TOKEN of that place", ChosenCodesTest::cheapestNumbers);
        Due.sentence("P15.5", "cheapest: (from 10 on; NONE)", ChosenCodesTest::cheapestNone);
        Due.sentence("P15.6", "cheapest: STATE: no TEXT", ChosenCodesTest::cheapestRefused);
        Due.sentence("P15.7", "cheapest: OUTSIDE: what", ChosenCodesTest::cheapestOutside);
    }

    private static void dueCheapest(String text, int price, int tokens, int letters) {
        PricedCopies x = Due.text(text);
        Due.is("cheapest(0) of " + text, x.cheapest(0), price);
        Due.is("cheapest(1) of " + text, x.cheapest(1), tokens);
        Due.is("cheapest(2) of " + text, x.cheapest(2), letters);
    }

    private static void cheapestPrice() {
        Due.is("cheapest(0) of d", Due.text("d").cheapest(0), 8);
        Due.is("cheapest(0) of 17", Due.text("a".repeat(17)).cheapest(0), 23);
        PricedCopies x = Due.text("dd");
        x.price(3, 1);
        Due.is("cheapest(0) at the least", x.cheapest(0), 2);
        x = Due.text("aabacadbbcbdccdda");
        for (int what = 0; what < 18; what++) x.price(what, 30);
        Due.is("cheapest(0) of 17 PLAIN ones at the most", x.cheapest(0), 17 * 30);
    }

    private static void cheapestTokens() {
        Due.is("cheapest(1) of d", Due.text("d").cheapest(1), 1);
        Due.is("cheapest(1) of 17", Due.text("a".repeat(17)).cheapest(1), 3);
        Due.is("cheapest(1) of 24", plain24().cheapest(1), 24);
    }

    private static void cheapestLetters() {
        dueCheapest("d", 8, 1, 1);
        dueCheapest("abcd", 32, 4, 4);
        dueCheapest("aaa", 15, 2, 3);
        dueCheapest("a".repeat(17), 23, 3, 5);
        dueCheapest("abcabcabcabc", 38, 5, 7);
        dueCheapest("aabbaabbccddaabbaabbccdd", 64 + 10 + 11 + 6, 11, 14);
        Due.is("cheapest(2) of 24 PLAIN ones", plain24().cheapest(2), 24);
    }

    /** 24 PLAIN TOKENS: as many as there can be. */
    private static PricedCopies plain24() {
        PricedCopies x = Due.text("abcdabcdabcdabcdabcdabcd");
        Due.setPrices(x, 1, 1, 1, 1, 30);
        x.price(17, 30);
        return x;
    }

    private static void cheapestNumbers() {
        PricedCopies x = Due.text("abcabcabcabc");
        Due.is("cheapest(10)", x.cheapest(10), 0);
        Due.is("cheapest(11)", x.cheapest(11), 1);
        Due.is("cheapest(12)", x.cheapest(12), 2);
        Due.is("cheapest(13)", x.cheapest(13), 1032);
        Due.is("cheapest(14)", x.cheapest(14), 107);
        PricedCopies full = plain24();
        for (int i = 0; i < 24; i++) Due.is("cheapest(" + (10 + i) + ") of 24", full.cheapest(10 + i), i % 4);
    }

    private static void cheapestNone() {
        PricedCopies x = Due.text("abcabcabcabc");
        for (int what = 15; what <= 33; what++) Due.is("cheapest(" + what + ")", x.cheapest(what), NONE);
        // TOKENS of a longer TEXT are gone
        x = plain24();
        x.cheapest(33);
        Due.retext(x, "ab");
        Due.is("cheapest(11) of ab", x.cheapest(11), 1);
        for (int what = 12; what <= 33; what++) Due.is("cheapest(" + what + ") of ab", x.cheapest(what), NONE);
    }

    private static void cheapestRefused() {
        PricedCopies x = new PricedCopies();
        for (int what : new int[] {0, 1, 2, 10, 33}) Due.is("cheapest(" + what + ") without a TEXT", x.cheapest(what), STATE);
        Due.write(x, "aaa");
        Due.is("cheapest(0) with a page alone", x.cheapest(0), STATE);
    }

    private static void cheapestOutside() {
        PricedCopies x = Due.text("aaa");
        for (int what = 3; what <= 9; what++) Due.is("cheapest(" + what + ")", x.cheapest(what), OUTSIDE);
        for (int what : new int[] {-1, 34, 35, 100}) Due.is("cheapest(" + what + ")", x.cheapest(what), OUTSIDE);
        for (int far : Due.FAR) Due.is("cheapest(" + far + ")", x.cheapest(far), OUTSIDE);
    }

    // ---- promise 16

    private static void codes() {
        Due.sentence("P16.1", "A letter of the CODE of CHEAPEST, by its place (from 0)", ChosenCodesTest::codeTells);
        Due.sentence("P16.2", "PLAIN as its letter; COPY as A to X and a figure; AGAIN as = and a figure", ChosenCodesTest::codeSigns);
        Due.sentence("P16.3", "codeOf: NONE", ChosenCodesTest::codeNone);
        Due.sentence("P16.4", "codeOf: STATE: no TEXT", ChosenCodesTest::codeRefused);
    }

    private static void dueCode(PricedCopies x, String code) {
        for (int i = 0; i < code.length(); i++) Due.is("codeOf(" + i + ") of " + code, x.codeOf(i), code.charAt(i));
        Due.is("codeOf() behind " + code, x.codeOf(code.length()), NONE);
    }

    private static void codeTells() {
        dueCode(Due.text("d"), "d");
        dueCode(Due.text("a".repeat(17)), "aA8=8");
        dueCode(Due.text("abcabcabcabc"), "abcC2=7");
        dueCode(Due.text("aabbaabbccddaabbaabbccdd"), "aabbD4ccddL4=8");
        dueCode(plain24(), "abcdabcdabcdabcdabcdabcd");
        // it is read back as the TEXT it was made for, at the same PRICE
        PricedCopies x = Due.text("aabbaabbccddaabbaabbccdd");
        int price = x.cheapest(0);
        String code = "";
        for (int i = 0; x.codeOf(i) != NONE && i < 30; i++) code += (char) x.codeOf(i);
        Due.write(x, code);
        Due.is("priced() of " + code, x.priced(), price);
        Due.is("decode() of " + code, x.decode(), 24);
        Due.text(x, "aabbaabbccddaabbaabbccdd");
    }

    private static void codeSigns() {
        dueCode(Due.text("abcd"), "abcd");
        for (int length = 2; length <= 8; length++) {
            dueCode(Due.text("c".repeat(1 + length)), "cA" + length);
            PricedCopies x = Due.text("a".repeat(1 + 2 * length));
            for (int what = 10; what <= 16; what++) x.price(what, what == 8 + length ? 1 : 30);
            dueCode(x, "aA" + length + "=" + length);
        }
        for (int distance = 2; distance <= 22; distance++) {
            String first = "a".repeat(22 - distance) + "dc" + "a".repeat(distance - 2);
            PricedCopies x = Due.text(first + "dc");
            Due.setPrices(x, 1, 1, 30, 30);
            for (int what = 11; what <= 16; what++) x.price(what, 30);
            dueCode(x, first + (char) ('A' + distance - 1) + "2");
        }
    }

    private static void codeNone() {
        PricedCopies x = Due.text("aaa");
        Due.is("codeOf(2)", x.codeOf(2), '2');
        for (int place = 3; place <= 40; place++) Due.is("codeOf(" + place + ")", x.codeOf(place), NONE);
        Due.is("codeOf(-1)", x.codeOf(-1), NONE);
        for (int far : Due.FAR) Due.is("codeOf(" + far + ")", x.codeOf(far), NONE);
        PricedCopies full = plain24();
        Due.is("codeOf(23) of 24", full.codeOf(23), 'd');
        Due.is("codeOf(24) of 24", full.codeOf(24), NONE);
    }

    private static void codeRefused() {
        PricedCopies x = new PricedCopies();
        for (int place : new int[] {0, -1, 24, 100}) Due.is("codeOf(" + place + ") without a TEXT", x.codeOf(place), STATE);
        Due.write(x, "aaa");
        Due.is("codeOf(0) with a page alone", x.codeOf(0), STATE);
    }

    // ---- promise 17

    private static void greedy() {
        Due.sentence("P17.1", "GREEDY: what = 0 its PRICE, 1 how many TOKENS", ChosenCodesTest::greedyTells);
        Due.sentence("P17.2", "greedy: STATE: no TEXT", ChosenCodesTest::greedyRefused);
        Due.sentence("P17.3", "greedy: OUTSIDE: what", ChosenCodesTest::greedyOutside);
    }

    private static void greedyTells() {
        dueGreedy("d", 8, 1);
        PricedCopies x = Due.text("a".repeat(17));
        Due.is("greedy(0)", x.greedy(0), 23);
        x.price(4, 30);
        x.price(17, 30);
        Due.is("greedy(0) by PRICES as they are", x.greedy(0), 8 + 30 + 2 + 3 + 30 + 3);
        Due.is("greedy(1) heeds no PRICE", x.greedy(1), 3);
        Due.retext(x, "ab");
        Due.is("greedy(0) of another TEXT", x.greedy(0), 16);
        Due.is("greedy(1) of another TEXT", x.greedy(1), 2);
    }

    private static void greedyRefused() {
        PricedCopies x = new PricedCopies();
        Due.is("greedy(0) without a TEXT", x.greedy(0), STATE);
        Due.is("greedy(1) without a TEXT", x.greedy(1), STATE);
        Due.write(x, "aaa");
        Due.is("greedy(0) with a page alone", x.greedy(0), STATE);
    }

    private static void greedyOutside() {
        PricedCopies x = Due.text("aaa");
        for (int what : new int[] {-1, 2, 3, 10}) Due.is("greedy(" + what + ")", x.greedy(what), OUTSIDE);
        for (int far : Due.FAR) Due.is("greedy(" + far + ")", x.greedy(far), OUTSIDE);
    }

    // ---- promise 18

    private static void parts() {
        Due.sentence("P18.1", "PARTS by n: what = 0 all PRICES together", ChosenCodesTest::partsPrice);
        Due.sentence("P18.2", "parts: 1 how many parts", ChosenCodesTest::partsNumber);
        Due.sentence("P18.3", "parts: 2 by how much more that is than CHEAPEST", ChosenCodesTest::partsMore);
        Due.sentence("P18.4", "parts: STATE: no TEXT", ChosenCodesTest::partsRefused);
        Due.sentence("P18.5", "parts: OUTSIDE: n (1 to 24)", ChosenCodesTest::partsOutsideN);
        Due.sentence("P18.6", "parts: OUTSIDE: what", ChosenCodesTest::partsOutsideWhat);
        Due.sentence("P18.7", "parts tells alone", ChosenCodesTest::partsChangesNothing);
    }

    private static void partsPrice() {
        PricedCopies x = Due.text("a".repeat(24));
        Due.is("parts(1, 0)", x.parts(1, 0), 24 * 8);
        Due.is("parts(12, 0)", x.parts(12, 0), 2 * (8 + 7 + 6));
        Due.is("parts(23, 0)", x.parts(23, 0), 8 + 9 + 6 + 6 + 8);
        Due.is("parts(24, 0)", x.parts(24, 0), 8 + 9 + 6 + 6);
    }

    private static void partsNumber() {
        for (int size = 1; size <= 24; size++) {
            PricedCopies x = Due.text("c".repeat(size));
            for (int n = 1; n <= 24; n++) {
                int number = 0;
                for (int left = size; left > 0; left -= n) number++;
                Due.is("parts(" + n + ", 1) of " + size, x.parts(n, 1), number);
            }
        }
    }

    private static void partsMore() {
        PricedCopies x = Due.text("aaaaaaaa");
        int[] more = {64 - 17, 64 - 17, 46 - 17, 30 - 17, 31 - 17, 32 - 17, 25 - 17, 0, 0};
        for (int n = 1; n <= 9; n++) Due.is("parts(" + n + ", 2)", x.parts(n, 2), more[n - 1]);
        Due.is("parts(24, 2)", x.parts(24, 2), 0);
        Due.is("parts(4, 2) of abcdabcd", Due.text("abcdabcd").parts(4, 2), 64 - 42);
        Due.is("parts(1, 2) of d", Due.text("d").parts(1, 2), 0);
    }

    private static void partsRefused() {
        PricedCopies x = new PricedCopies();
        for (int what = 0; what <= 2; what++) Due.is("parts(1, " + what + ") without a TEXT", x.parts(1, what), STATE);
        Due.write(x, "aaa");
        Due.is("parts(1, 0) with a page alone", x.parts(1, 0), STATE);
    }

    private static void partsOutsideN() {
        PricedCopies x = Due.text("aaaa");
        for (int what = 0; what <= 2; what++) {
            for (int n : new int[] {0, -1, 25, 26}) Due.is("parts(" + n + ", " + what + ")", x.parts(n, what), OUTSIDE);
            for (int far : Due.FAR) Due.is("parts(" + far + ", " + what + ")", x.parts(far, what), OUTSIDE);
        }
        Due.is("parts(1, 1)", x.parts(1, 1), 4);
        Due.is("parts(24, 1)", x.parts(24, 1), 1);
    }

    private static void partsOutsideWhat() {
        PricedCopies x = Due.text("aaaa");
        for (int n : new int[] {1, 4, 24}) {
            for (int what : new int[] {-1, 3, 4, 10}) Due.is("parts(" + n + ", " + what + ")", x.parts(n, what), OUTSIDE);
            for (int far : Due.FAR) Due.is("parts(" + n + ", " + far + ")", x.parts(n, far), OUTSIDE);
        }
    }

    private static void partsChangesNothing() {
        PricedCopies x = Due.text("abcabcabcabc");
        Due.write(x, "aA");
        long before = x.digest();
        for (int n = 24; n >= 1; n--) for (int what = 0; what <= 2; what++) x.parts(n, what);
        Due.tokens("behind parts()", x, 0, 1, 2, 1032, 107);
        Due.is("digest() behind parts()", x.digest(), before);
    }
}

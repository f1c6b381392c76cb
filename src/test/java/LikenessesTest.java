/** Sentences on LIKENESS, LONGEST and CHAIN, and promises 12 to 14: each with a test of its own, reckoned by hand. */
public final class LikenessesTest {
    private static final int NONE = Due.NONE, UNKNOWN = Due.UNKNOWN, OUTSIDE = Due.OUTSIDE;

    public static void main(String[] args) {
        whatIsLike();
        letters();
        longest();
        chains();
        Due.end();
    }

    private static void dueLongest(String text, int place, int length, int distance) {
        PricedCopies x = Due.text(text);
        Due.is("longest(" + place + ", 0) of " + text, x.longest(place, 0), length);
        Due.is("longest(" + place + ", 1) of " + text, x.longest(place, 1), distance);
    }

    private static void dueChain(String text, int place, int... chain) {
        PricedCopies x = Due.text(text);
        for (int k = 0; k < chain.length; k++) Due.is("chain(" + place + ", " + k + ") of " + text, x.chain(place, k), chain[k]);
        Due.is("chain(" + place + ", " + chain.length + ") of " + text, x.chain(place, chain.length), NONE);
    }

    // ---- what LIKENESS, LONGEST and CHAIN are

    private static void whatIsLike() {
        Due.sentence("T28", "how many letters from each on are the same, one by one", LikenessesTest::oneByOne);
        Due.sentence("T29", "(8 at most", LikenessesTest::eightAtMost);
        Due.sentence("T30", "the TEXT's end ends it, too", LikenessesTest::theEndEndsIt);
        Due.sentence("T31", "it may run beyond the later PLACE)", LikenessesTest::beyondTheLaterPlace);
        Due.sentence("T32", "LONGEST: the greatest LIKENESS of it and an earlier one", LikenessesTest::theGreatest);
        Due.sentence("T33", "by the least DISTANCE of such", LikenessesTest::theLeastDistance);
        Due.sentence("T34", "0 by DISTANCE 0, if that is below 2", LikenessesTest::belowTwo);
        Due.sentence("T35", "CHAIN: earlier PLACES whose LIKENESS with it is 2 or more", LikenessesTest::chainOfTwoOrMore);
        Due.sentence("T36", "CHAIN: the latest first", LikenessesTest::latestFirst);
    }

    private static void oneByOne() {
        // ab and ab, then c and a: that d and d come behind is no matter
        dueLongest("abcdabad", 4, 2, 4);
        dueLongest("abcdabcc", 4, 3, 4);
        dueLongest("abcdabcd", 4, 4, 4);
        dueLongest("abcdabcda", 5, 4, 4);
        dueLongest("dabcacbd", 4, 0, 0);
    }

    private static void eightAtMost() {
        // 7, 8, 9 letters alike, and an unlike one behind them
        dueLongest("abacadbcabacadbd", 8, 7, 8);
        dueLongest("abacadbbcabacadbbd", 9, 8, 9);
        dueLongest("abacadbbdcabacadbbdd", 10, 8, 10);
        dueLongest("abacadbbdc".repeat(2) + "aa", 10, 8, 10);
        dueLongest("abcd".repeat(6), 4, 8, 4);
        dueLongest("a".repeat(24), 1, 8, 1);
        // ten letters alike by DISTANCE 10 are no more than eight by DISTANCE 9
        dueLongest("aaaaaaaaabaaaaaaaaab", 10, 8, 9);
    }

    private static void theEndEndsIt() {
        dueLongest("abcabc", 3, 3, 3);
        dueLongest("abcabc", 4, 2, 3);
        dueLongest("abcabc", 5, 0, 0);
        dueLongest("a".repeat(24), 16, 8, 1);
        dueLongest("a".repeat(24), 17, 7, 1);
        dueLongest("a".repeat(24), 22, 2, 1);
        dueLongest("a".repeat(24), 23, 0, 0);
        dueChain("abab", 3);
        // letters of a TEXT that is gone stand behind no end
        PricedCopies x = Due.text("abababab");
        Due.retext(x, "abab");
        Due.is("longest(2, 0) of abab behind a longer TEXT", x.longest(2, 0), 2);
        Due.is("longest(3, 0) of abab behind a longer TEXT", x.longest(3, 0), 0);
    }

    private static void beyondTheLaterPlace() {
        dueLongest("aa", 1, 0, 0);
        dueLongest("aaa", 1, 2, 1);
        dueLongest("aaaaa", 1, 4, 1);
        dueLongest("ababa", 2, 3, 2);
        dueLongest("abababab", 2, 6, 2);
        dueLongest("abcabcabcd", 3, 6, 3);
        dueLongest("dabcabcabcabc", 4, 8, 3);
    }

    private static void theGreatest() {
        dueLongest("abcdabdabcd", 7, 4, 7);
        dueLongest("abcabdabc", 6, 3, 6);
        dueLongest("abdabcabd", 6, 3, 6);
        dueLongest("bcabcdabcd", 6, 4, 4);
        // the very first PLACE is an earlier one, too
        dueLongest("cdaabbcd", 6, 2, 6);
        dueLongest("dc" + "ab".repeat(10) + "dc", 22, 2, 22);
    }

    private static void theLeastDistance() {
        dueLongest("abcabdab", 6, 2, 3);
        dueLongest("abcabcabc", 6, 3, 3);
        dueLongest("aaaaaa", 3, 3, 1);
        dueLongest("abdabdcab", 7, 2, 4);
        dueLongest("abcdabcdabcd", 8, 4, 4);
    }

    private static void belowTwo() {
        dueLongest("a", 0, 0, 0);
        dueLongest("aaaa", 0, 0, 0);
        dueLongest("abcd", 3, 0, 0);
        // alike in one letter alone
        dueLongest("aba", 2, 0, 0);
        dueLongest("abac", 2, 0, 0);
        dueLongest("aab", 1, 0, 0);
        // alike in two
        dueLongest("abab", 2, 2, 2);
        dueLongest("abac" + "ab", 4, 2, 4);
    }

    private static void chainOfTwoOrMore() {
        dueChain("aaaa", 0);
        dueChain("aaaa", 3);
        // the a at 2 is like the a at 4 in one letter alone
        dueChain("abacab", 4, 0);
        dueChain("abacacad", 4, 2);
        dueChain("abacacad", 6);
        dueChain("abcabcabc", 6, 3, 0);
        dueChain("dabcdabc", 5, 1);
    }

    private static void latestFirst() {
        dueChain("aaaa", 1, 0);
        dueChain("aaaa", 2, 1, 0);
        // the greatest LIKENESS is the first one's here, the last one's there
        dueChain("abcabdabc", 6, 3, 0);
        dueChain("abdabcabc", 6, 3, 0);
        dueChain("abacabadabac", 8, 4, 0);
        int[] all = new int[22];
        for (int k = 0; k < 22; k++) all[k] = 21 - k;
        dueChain("a".repeat(24), 22, all);
    }

    // ---- promise 12

    private static void letters() {
        Due.sentence("P12.1", "The letter at a PLACE (0 to 3)", LikenessesTest::letterAt);
        Due.sentence("P12.2", "at: UNKNOWN", LikenessesTest::letterUnknown);
    }

    private static void letterAt() {
        PricedCopies x = Due.text("abcddcbaabcddcbaabcddcba");
        int[] due = {0, 1, 2, 3, 3, 2, 1, 0};
        for (int place = 0; place < 24; place++) Due.is("at(" + place + ")", x.at(place), due[place % 8]);
    }

    private static void letterUnknown() {
        PricedCopies x = new PricedCopies();
        Due.is("at(0) without a TEXT", x.at(0), UNKNOWN);
        Due.write(x, "ab");
        Due.is("at(0) with a page alone", x.at(0), UNKNOWN);
        x.text();
        Due.is("at(1) of ab", x.at(1), 1);
        Due.is("at(2) of ab", x.at(2), UNKNOWN);
        Due.is("at(-1) of ab", x.at(-1), UNKNOWN);
        for (int far : Due.FAR) Due.is("at(" + far + ")", x.at(far), UNKNOWN);
        Due.retext(x, "d".repeat(24));
        Due.is("at(23) of 24", x.at(23), 3);
        Due.is("at(24) of 24", x.at(24), UNKNOWN);
        Due.retext(x, "c");
        for (int place = 1; place <= 24; place++) Due.is("at(" + place + ") of a shorter TEXT", x.at(place), UNKNOWN);
    }

    // ---- promise 13

    private static void longest() {
        Due.sentence("P13.1", "LONGEST: what = 0 how long, 1 its DISTANCE", LikenessesTest::longestTells);
        Due.sentence("P13.2", "longest: UNKNOWN", LikenessesTest::longestUnknown);
        Due.sentence("P13.3", "longest: OUTSIDE", LikenessesTest::longestOutside);
    }

    private static void longestTells() {
        PricedCopies x = Due.text("abcabcabcabc");
        int[] lengths = {0, 0, 0, 8, 8, 7, 6, 5, 4, 3, 2, 0};
        for (int place = 0; place < 12; place++) {
            Due.is("longest(" + place + ", 0)", x.longest(place, 0), lengths[place]);
            Due.is("longest(" + place + ", 1)", x.longest(place, 1), lengths[place] == 0 ? 0 : 3);
        }
    }

    private static void longestUnknown() {
        PricedCopies x = new PricedCopies();
        Due.is("longest(0, 0) without a TEXT", x.longest(0, 0), UNKNOWN);
        Due.retext(x, "abab");
        for (int what = 0; what <= 1; what++) {
            Due.is("longest(-1, " + what + ")", x.longest(-1, what), UNKNOWN);
            Due.is("longest(4, " + what + ")", x.longest(4, what), UNKNOWN);
            Due.is("longest(24, " + what + ")", x.longest(24, what), UNKNOWN);
            for (int far : Due.FAR) Due.is("longest(" + far + ", " + what + ")", x.longest(far, what), UNKNOWN);
        }
        Due.is("longest(3, 0)", x.longest(3, 0), 0);
        Due.retext(x, "ab".repeat(12));
        Due.is("longest(22, 0) of 24", x.longest(22, 0), 2);
        Due.is("longest(23, 0) of 24", x.longest(23, 0), 0);
        Due.is("longest(24, 0) of 24", x.longest(24, 0), UNKNOWN);
    }

    private static void longestOutside() {
        PricedCopies x = Due.text("abab");
        for (int place = 0; place < 4; place++) {
            for (int what : new int[] {-1, 2, 3}) Due.is("longest(" + place + ", " + what + ")", x.longest(place, what), OUTSIDE);
            for (int far : Due.FAR) Due.is("longest(" + place + ", " + far + ")", x.longest(place, far), OUTSIDE);
        }
    }

    // ---- promise 14

    private static void chains() {
        Due.sentence("P14.1", "CHAIN of a PLACE: the PLACE at k (from 0)", LikenessesTest::chainTells);
        Due.sentence("P14.2", "chain: NONE: it has not so many", LikenessesTest::chainEnds);
        Due.sentence("P14.3", "chain: (also k below 0)", LikenessesTest::chainBelow);
        Due.sentence("P14.4", "chain: UNKNOWN: place", LikenessesTest::chainUnknown);
    }

    private static void chainTells() {
        dueChain("abcabcabcabc", 3, 0);
        dueChain("abcabcabcabc", 9, 6, 3, 0);
        dueChain("abcabcabcabc", 10, 7, 4, 1);
        dueChain("abcabcabcabc", 11);
    }

    private static void chainEnds() {
        PricedCopies x = Due.text("aaaaa");
        for (int place = 0; place < 5; place++) {
            int has = place == 4 ? 0 : place;
            for (int k = has; k < has + 30; k++) Due.is("chain(" + place + ", " + k + ")", x.chain(place, k), NONE);
            Due.is("chain(" + place + ", far)", x.chain(place, Integer.MAX_VALUE), NONE);
            Due.is("chain(" + place + ", 65536)", x.chain(place, 65536), NONE);
        }
    }

    private static void chainBelow() {
        PricedCopies x = Due.text("aaaaa");
        for (int place = 0; place < 5; place++) {
            for (int k : new int[] {-1, -2, -256, -65536, Integer.MIN_VALUE}) {
                Due.is("chain(" + place + ", " + k + ")", x.chain(place, k), NONE);
            }
        }
    }

    private static void chainUnknown() {
        PricedCopies x = new PricedCopies();
        Due.is("chain(0, 0) without a TEXT", x.chain(0, 0), UNKNOWN);
        Due.retext(x, "aaaa");
        for (int place : new int[] {-1, 4, 5, 24}) Due.is("chain(" + place + ", 0)", x.chain(place, 0), UNKNOWN);
        for (int far : Due.FAR) Due.is("chain(" + far + ", 0)", x.chain(far, 0), UNKNOWN);
        // though k has nothing there, either
        Due.is("chain(4, -1)", x.chain(4, -1), UNKNOWN);
        Due.is("chain(-1, 99)", x.chain(-1, 99), UNKNOWN);
    }
}

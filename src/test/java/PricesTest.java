/** Sentences on PRICES, ROUNDS and REST, and promises 8 to 11: each with a test of its own, reckoned by hand. */
public final class PricesTest {
    private static final int NONE = Due.NONE, UNKNOWN = Due.UNKNOWN, OUTSIDE = Due.OUTSIDE, STATE = Due.STATE;

    // Both were found by a search with the class; ModelTest holds them against the model.
    /** Three PRICES of CHEAPEST take turns from its second ROUND on, for ever. */
    private static final String NEVER_RESTS = "aaababbabbabaabaab";
    /** It rests behind 12 ROUNDS and no sooner, by these PRICES. */
    private static final String RESTS_BY_12 = "abbbacbbbbcabacabbaabac";
    private static final int[] PRICES_BY_12 = {2, 8, 2, 2, 1, 5, 5, 8, 3, 1, 2, 8, 8, 2, 5, 6, 2, 4};

    public static void main(String[] args) {
        whatPricesAre();
        whatRoundsAre();
        pricesTold();
        rounds();
        rests();
        Due.end();
    }

    // ---- what PRICES are

    private static void whatPricesAre() {
        Due.sentence("T14", "PRICES .. at first", PricesTest::pricesAtFirst);
        Due.sentence("T15", "of DISTANCES 1, 2 to 3, 4 to 7, 8 to 15, 16 to 24", PricesTest::pricesOfDistances);
        Due.sentence("T16", "10 to 16 of LENGTHS 2 to 8", PricesTest::pricesOfLengths);
        Due.sentence("T17", "of PLAIN that of its letter", PricesTest::priceOfPlain);
        Due.sentence("T18", "of a COPY those of COPY, of its DISTANCE, of its LENGTH, together", PricesTest::priceOfCopy);
        Due.sentence("T19", "of AGAIN those of AGAIN and of its LENGTH", PricesTest::priceOfAgain);
    }

    private static void pricesAtFirst() {
        PricedCopies x = new PricedCopies();
        for (int letter = 0; letter <= 3; letter++) Due.is("a letter's PRICE at first", x.priceOf(letter), 8);
        Due.is("COPY's at first", x.priceOf(4), 4);
        for (int i = 0; i < 5; i++) Due.is("a DISTANCE's at first", x.priceOf(5 + i), 2 + i);
        int[] lengths = {1, 1, 2, 2, 3, 3, 3};
        for (int i = 0; i < 7; i++) Due.is("a LENGTH's at first", x.priceOf(10 + i), lengths[i]);
        Due.is("AGAIN's at first", x.priceOf(17), 3);
    }

    private static void pricesOfDistances() {
        // DISTANCES 23 and 24 have no room in any CODE
        for (int distance = 1; distance <= 22; distance++) {
            PricedCopies x = Due.page("a".repeat(22) + (char) ('A' + distance - 1) + "2");
            Due.setPrices(x, 1, 1, 1, 1, 1, 10, 14, 18, 22, 26);
            int due = distance == 1 ? 10 : distance <= 3 ? 14 : distance <= 7 ? 18 : distance <= 15 ? 22 : 26;
            Due.is("priced() of DISTANCE " + distance, x.priced(), 22 + 1 + due + 1);
        }
    }

    private static void pricesOfLengths() {
        for (int length = 2; length <= 8; length++) {
            PricedCopies copy = Due.page("aA" + length);
            for (int i = 0; i < 7; i++) copy.price(10 + i, 11 + 2 * i);
            Due.is("priced() of COPY, LENGTH " + length, copy.priced(), 8 + 4 + 2 + 11 + 2 * (length - 2));
            PricedCopies again = Due.page("aA2=" + length);
            for (int i = 0; i < 7; i++) again.price(10 + i, 11 + 2 * i);
            Due.is("priced() of AGAIN, LENGTH " + length, again.priced(), 25 + 3 + 11 + 2 * (length - 2));
        }
    }

    /** What priced() of a CODE grows by, when one PRICE alone grows by 1. */
    private static void dueTaken(String code, int... taken) {
        for (int what = 0; what < 18; what++) {
            PricedCopies x = Due.page(code);
            int before = x.priced();
            x.price(what, Due.FIRST_PRICES[what] + 1);
            Due.is("PRICE " + what + " is taken by " + code, x.priced() - before, taken[what]);
        }
    }

    private static void priceOfPlain() {
        dueTaken("a", 1, 0, 0, 0, 0, 0, 0, 0, 0, 0, 0, 0, 0, 0, 0, 0, 0, 0);
        dueTaken("d", 0, 0, 0, 1, 0, 0, 0, 0, 0, 0, 0, 0, 0, 0, 0, 0, 0, 0);
        dueTaken("abbcccdddd", 1, 2, 3, 4, 0, 0, 0, 0, 0, 0, 0, 0, 0, 0, 0, 0, 0, 0);
    }

    private static void priceOfCopy() {
        dueTaken("aA2", 1, 0, 0, 0, 1, 1, 0, 0, 0, 0, 1, 0, 0, 0, 0, 0, 0, 0);
        dueTaken("abB5", 1, 1, 0, 0, 1, 0, 1, 0, 0, 0, 0, 0, 0, 1, 0, 0, 0, 0);
        dueTaken("cA8H3H3", 0, 0, 1, 0, 3, 1, 0, 0, 2, 0, 0, 2, 0, 0, 0, 0, 1, 0);
        dueTaken("aA8A8Q7", 1, 0, 0, 0, 3, 2, 0, 0, 0, 1, 0, 0, 0, 0, 0, 1, 2, 0);
    }

    private static void priceOfAgain() {
        dueTaken("aA2=3", 1, 0, 0, 0, 1, 1, 0, 0, 0, 0, 1, 1, 0, 0, 0, 0, 0, 1);
        dueTaken("abcdD4=4=8", 1, 1, 1, 1, 1, 0, 0, 1, 0, 0, 0, 0, 2, 0, 0, 0, 1, 2);
    }

    // ---- what a ROUND is

    private static void whatRoundsAre() {
        Due.sentence("T20", "of letters ALL is how many PLAIN ones there are, SIZE 4", PricesTest::roundOfLetters);
        Due.sentence("T21", "of COPY, of AGAIN ALL is how many TOKENS, SIZE 3", PricesTest::roundOfKinds);
        Due.sentence("T22", "of DISTANCES ALL is how many COPIES, SIZE 5", PricesTest::roundOfDistances);
        Due.sentence("T23", "of LENGTHS ALL is how many COPIES and AGAINS, SIZE 7", PricesTest::roundOfLengths);
        Due.sentence("T24", "divided by 1 more than that PRICE is taken, rounded down", PricesTest::roundDivides);
        Due.sentence("T25", "1 and 2 times LOG .. (rounded down each time)", PricesTest::roundByLog);
        Due.sentence("T26", "of CHEAPEST it is counted how often each PRICE is taken", PricesTest::roundOfCheapest);
        Due.sentence("T27", "REST: PRICES that a ROUND does not alter", PricesTest::restIsWhatStays);
    }

    /** By these PRICES CHEAPEST is PLAIN throughout: 24 at the most, where any other TOKEN takes 60. */
    private static PricedCopies plainOnly(String text) {
        PricedCopies x = Due.text(text);
        Due.setPrices(x, 1, 1, 1, 1, 30, 30, 30, 30, 30, 30, 30, 30, 30, 30, 30, 30, 30, 30);
        Due.is("cheapest(1) of PLAIN ones", x.cheapest(1), text.length());
        return x;
    }

    /** CHEAPEST is a PLAIN one, so many COPIES by DISTANCE 1 and LENGTH 2, and so many AGAINS of LENGTH 2. */
    private static PricedCopies shortCopies(int copies, int agains) {
        PricedCopies x = Due.text("a".repeat(1 + 2 * (copies + agains)));
        int again = agains == 0 ? 30 : 1;
        Due.setPrices(x, 30, 30, 30, 30, 1, 1, 30, 30, 30, 30, 1, 30, 30, 30, 30, 30, 30, again);
        Due.is("count(2) of short copies", x.count(2), 1);
        Due.is("count(3) of short copies", x.count(3), agains);
        Due.is("count(4) of short copies", x.count(4), copies);
        return x;
    }

    private static void roundOfLetters() {
        // 7 is below 8, 15 below 16: what is not taken tells how many there are, and 4
        int[][] due = {{1, 5}, {2, 5}, {3, 5}, {4, 7}, {5, 7}, {10, 7}, {11, 7}, {12, 9}, {13, 9}, {24, 9}};
        for (int[] pair : due) {
            PricedCopies x = plainOnly("a".repeat(pair[0]));
            x.round();
            for (int i = 1; i <= 3; i++) Due.is("a letter not taken, PLAIN ones " + pair[0], x.priceOf(i), pair[1]);
            Due.is("the letter taken alone, PLAIN ones " + pair[0], x.priceOf(0), pair[0] < 3 ? 3 : 1);
        }
        // COPIES are no PLAIN ones: 1 and 4
        PricedCopies x = shortCopies(11, 0);
        x.round();
        Due.is("a letter not taken, beside COPIES", x.priceOf(1), 5);
    }

    private static void roundOfKinds() {
        int[][] due = {{1, 5}, {4, 5}, {5, 7}, {12, 7}, {13, 9}, {24, 9}};
        for (int[] pair : due) {
            PricedCopies x = plainOnly("a".repeat(pair[0]));
            x.round();
            Due.is("COPY not taken, TOKENS " + pair[0], x.priceOf(4), pair[1]);
            Due.is("AGAIN not taken, TOKENS " + pair[0], x.priceOf(17), pair[1]);
        }
        // 12 TOKENS and 3: 15 by 12, by 1; then 15 by 2, by 11
        PricedCopies copies = shortCopies(11, 0);
        copies.round();
        Due.is("COPY taken 11 times", copies.priceOf(4), 1);
        Due.is("AGAIN not taken beside COPIES", copies.priceOf(17), 7);
        PricedCopies agains = shortCopies(1, 10);
        agains.round();
        Due.is("COPY taken once", agains.priceOf(4), 5);
        Due.is("AGAIN taken 10 times", agains.priceOf(17), 1);
    }

    private static void roundOfDistances() {
        int[][] due = {{1, 5}, {2, 5}, {3, 7}, {10, 7}, {11, 9}};
        for (int[] pair : due) {
            PricedCopies x = shortCopies(pair[0], 0);
            x.round();
            for (int i = 6; i <= 9; i++) Due.is("a DISTANCE not taken, COPIES " + pair[0], x.priceOf(i), pair[1]);
            Due.is("the DISTANCE taken alone, COPIES " + pair[0], x.priceOf(5), pair[0] <= 3 ? 3 : 1);
        }
        PricedCopies none = plainOnly("abcd");
        none.round();
        for (int i = 5; i <= 9; i++) Due.is("a DISTANCE without COPIES", none.priceOf(i), 5);
        // AGAINS are not counted, nor do they take their DISTANCE: 1 and 5, by 2
        PricedCopies agains = shortCopies(1, 10);
        agains.round();
        Due.is("the DISTANCE taken, AGAINS too", agains.priceOf(5), 3);
        Due.is("a DISTANCE not taken, AGAINS too", agains.priceOf(6), 5);
    }

    private static void roundOfLengths() {
        int[][] due = {{1, 0, 7}, {8, 0, 7}, {9, 0, 9}, {11, 0, 9}, {1, 1, 7}, {1, 7, 7}, {1, 8, 9}, {1, 10, 9}};
        for (int[] row : due) {
            PricedCopies x = shortCopies(row[0], row[1]);
            x.round();
            String where = "COPIES " + row[0] + ", AGAINS " + row[1];
            for (int i = 11; i <= 16; i++) Due.is("a LENGTH not taken, " + where, x.priceOf(i), row[2]);
            int all = row[0] + row[1];
            Due.is("the LENGTH taken alone, " + where, x.priceOf(10), all == 1 ? 5 : all <= 5 ? 3 : 1);
        }
        PricedCopies none = plainOnly("abcd");
        none.round();
        for (int i = 10; i <= 16; i++) Due.is("a LENGTH without COPIES", none.priceOf(i), 5);
    }

    private static void roundDivides() {
        // 7 PLAIN ones and 4: 11 by 5, by 3, by 2, by 1 is 2, 3, 5, 11
        PricedCopies x = plainOnly("aaaabbc");
        x.round();
        Due.is("11 by 5", x.priceOf(0), 3);
        Due.is("11 by 3", x.priceOf(1), 3);
        Due.is("11 by 2", x.priceOf(2), 5);
        Due.is("11 by 1", x.priceOf(3), 7);
        // 10 and 4: 14 by 7 is 2, by 4 is 3, by 2 is 7
        x = plainOnly("aaaaaabbbc");
        x.round();
        Due.is("14 by 7", x.priceOf(0), 3);
        Due.is("14 by 4", x.priceOf(1), 3);
        Due.is("14 by 2", x.priceOf(2), 5);
        // 9 and 4: 13 by 7 is 1
        x = plainOnly("aaaaaabbc");
        x.round();
        Due.is("13 by 7", x.priceOf(0), 1);
        // all 24 of one letter: 28 by 25 is 1
        x = plainOnly("d".repeat(24));
        x.round();
        Due.is("28 by 25", x.priceOf(3), 1);
    }

    private static void roundByLog() {
        // what is not taken, by how many PLAIN ones and 4: LOG of 5, 7, 8, 15, 16, 28; what is taken: 1, 2, 3, 4
        int[][] due = {{1, 1, 5}, {3, 1, 5}, {4, 1, 7}, {11, 1, 7}, {12, 1, 9}, {24, 1, 9}};
        for (int[] row : due) {
            PricedCopies x = plainOnly("b".repeat(row[0]));
            x.round();
            Due.is("LOG of " + (row[0] + 4), x.priceOf(0), row[2]);
        }
        PricedCopies x = plainOnly("abcddddd");
        x.round();
        // 8 and 4: 12 by 2 is 6; 12 by 6 is 2
        Due.prices("abcddddd", x, 5, 5, 5, 3, 7, 5, 5, 5, 5, 5, 5, 5, 5, 5, 5, 5, 5, 7);
    }

    private static void roundOfCheapest() {
        // CHEAPEST is aabbD4ccddL4=8, GREEDY is another row, and the TEXT has 24 letters
        PricedCopies x = Due.text("aabbaabbccddaabbaabbccdd");
        Due.tokens("ahead of the ROUND", x, 0, 0, 1, 1, 1044, 2, 2, 3, 3, 1124, 108);
        Due.is("round()", x.round(), 18);
        Due.prices("behind the ROUND", x, 5, 5, 5, 5, 5, 5, 5, 3, 3, 5, 7, 7, 3, 7, 7, 7, 5, 5);
        // CHEAPEST by PRICES as they were, all of them at once: the next ROUND has its own
        PricedCopies y = Due.text("aaaa");
        Due.tokens("aaaa", y, 0, 1013);
        y.round();
        Due.prices("aaaa, a ROUND", y, 3, 5, 5, 5, 3, 3, 5, 5, 5, 5, 7, 5, 7, 7, 7, 7, 7, 5);
        Due.tokens("aaaa, behind a ROUND", y, 0, 0, 0, 0);
        y.round();
        Due.prices("aaaa, two ROUNDS", y, 1, 7, 7, 7, 5, 5, 5, 5, 5, 5, 5, 5, 5, 5, 5, 5, 5, 5);
    }

    private static void restIsWhatStays() {
        PricedCopies x = Due.text("aaaa");
        x.round();
        x.round();
        Due.is("a ROUND at REST", x.round(), 0);
        Due.prices("at REST", x, 1, 7, 7, 7, 5, 5, 5, 5, 5, 5, 5, 5, 5, 5, 5, 5, 5, 5);
        Due.is("rest(0) at REST", x.rest(0), 0);
        // one PRICE that is another one, and no other row for it, is no REST
        for (int what = 1; what <= 17; what++) {
            int was = x.price(what, 9);
            Due.is("rest(0) with PRICE " + what + " another", x.rest(0), 1);
            x.price(what, was);
            Due.is("rest(0) with PRICE " + what + " as it was", x.rest(0), 0);
        }
    }

    // ---- promises 8 and 9

    private static void pricesTold() {
        Due.sentence("P8.1", "A PRICE becomes v: what it was", PricesTest::priceBecomes);
        Due.sentence("P8.2", "price: what follows from PRICES follows", PricesTest::priceIsHeeded);
        Due.sentence("P8.3", "price: UNKNOWN: what (0 to 17)", PricesTest::priceUnknown);
        Due.sentence("P8.4", "price: OUTSIDE: v (1 to 30)", PricesTest::priceOutside);
        Due.sentence("P9.1", "priceOf: A PRICE", PricesTest::priceOfTells);
        Due.sentence("P9.2", "priceOf: UNKNOWN", PricesTest::priceOfUnknown);
    }

    private static void priceBecomes() {
        for (int what = 0; what < 18; what++) {
            PricedCopies x = new PricedCopies();
            int was = Due.FIRST_PRICES[what];
            for (int v = 1; v <= 30; v++) {
                Due.is("price(" + what + ", " + v + ")", x.price(what, v), was);
                Due.is("priceOf(" + what + ")", x.priceOf(what), v);
                was = v;
            }
            Due.is("price(" + what + ", 30) once more", x.price(what, 30), 30);
        }
        // no PRICE alters another one
        for (int what = 0; what < 18; what++) {
            PricedCopies y = new PricedCopies();
            y.price(what, 29);
            for (int i = 0; i < 18; i++) {
                Due.is("priceOf(" + i + ") behind price(" + what + ")", y.priceOf(i), i == what ? 29 : Due.FIRST_PRICES[i]);
            }
        }
    }

    private static void priceIsHeeded() {
        PricedCopies x = Due.text("aaaa");
        Due.is("cheapest(0) ahead", x.cheapest(0), 15);
        Due.is("rest(0) ahead", x.rest(0), 2);
        x.price(5, 30);
        Due.is("cheapest(0) behind price()", x.cheapest(0), 24);
        Due.is("greedy(0) behind price()", x.greedy(0), 43);
        Due.tokens("behind price()", x, 0, 0, 1022);
        x.price(0, 1);
        Due.is("cheapest(0) behind another price()", x.cheapest(0), 4);
        Due.is("parts(3, 0) behind another price()", x.parts(3, 0), 4);
        Due.is("count(2) behind another price()", x.count(2), 4);
    }

    private static void priceUnknown() {
        PricedCopies x = new PricedCopies();
        for (int what : new int[] {-1, 18, 19, 100}) Due.is("price(" + what + ", 5)", x.price(what, 5), UNKNOWN);
        for (int far : Due.FAR) Due.is("price(" + far + ", 5)", x.price(far, 5), UNKNOWN);
        Due.is("price(0, 9)", x.price(0, 9), 8);
        Due.is("price(17, 9)", x.price(17, 9), 3);
    }

    private static void priceOutside() {
        for (int what = 0; what < 18; what++) {
            PricedCopies x = new PricedCopies();
            for (int v : new int[] {0, -1, 31, 32}) Due.is("price(" + what + ", " + v + ")", x.price(what, v), OUTSIDE);
            for (int far : Due.FAR) Due.is("price(" + what + ", " + far + ")", x.price(what, far), OUTSIDE);
            Due.is("priceOf() behind what is outside", x.priceOf(what), Due.FIRST_PRICES[what]);
            Due.is("price(" + what + ", 1)", x.price(what, 1), Due.FIRST_PRICES[what]);
            Due.is("price(" + what + ", 30)", x.price(what, 30), 1);
        }
    }

    private static void priceOfTells() {
        PricedCopies x = new PricedCopies();
        Due.prices("priceOf() of a new object", x, Due.FIRST_PRICES);
        Due.setPrices(x, 1, 2, 3, 4, 5, 6, 7, 8, 9, 10, 11, 12, 13, 14, 15, 16, 17, 18);
        Due.prices("priceOf()", x, 1, 2, 3, 4, 5, 6, 7, 8, 9, 10, 11, 12, 13, 14, 15, 16, 17, 18);
        Due.retext(x, "abab");
        Due.prices("priceOf() behind text()", x, 1, 2, 3, 4, 5, 6, 7, 8, 9, 10, 11, 12, 13, 14, 15, 16, 17, 18);
    }

    private static void priceOfUnknown() {
        PricedCopies x = new PricedCopies();
        for (int what : new int[] {-1, 18, 19, 100}) Due.is("priceOf(" + what + ")", x.priceOf(what), UNKNOWN);
        for (int far : Due.FAR) Due.is("priceOf(" + far + ")", x.priceOf(far), UNKNOWN);
    }

    // ---- promise 10

    private static void rounds() {
        Due.sentence("P10.1", "A ROUND: how many PRICES are others then", PricesTest::roundTellsHowMany);
        Due.sentence("P10.2", "round: STATE: no TEXT", PricesTest::roundRefused);
    }

    private static void roundTellsHowMany() {
        PricedCopies x = Due.text("aaaa");
        // PRICE 8 alone is 5 still
        Due.is("round 1", x.round(), 17);
        Due.is("round 2", x.round(), 12);
        Due.is("round 3", x.round(), 0);
        Due.is("round 4", x.round(), 0);
        for (int what = 0; what <= 17; what++) {
            x.price(what, what == 0 ? 2 : 9);
            Due.is("round() with PRICE " + what + " another", x.round(), 1);
        }
        x.price(1, 9);
        x.price(17, 9);
        Due.is("round() with two others", x.round(), 2);
        Due.is("round() of all 18", Due.text("aabbaabbccddaabbaabbccdd").round(), 18);
    }

    private static void roundRefused() {
        PricedCopies x = new PricedCopies();
        Due.is("round() without a TEXT", x.round(), STATE);
        Due.write(x, "aaaa");
        Due.is("round() with a page alone", x.round(), STATE);
        Due.is("count(5) behind it", x.count(5), 0);
        Due.prices("behind a refused round()", x, Due.FIRST_PRICES);
        x.text();
        Due.is("round() with a TEXT", x.round(), 17);
    }

    // ---- promise 11

    private static void rests() {
        Due.sentence("P11.1", "ROUNDS from PRICES as they are", PricesTest::restFromHere);
        Due.sentence("P11.2", "rest: as they would be", PricesTest::restChangesNothing);
        Due.sentence("P11.3", "rest: how many (0 ..) till there is REST", PricesTest::restNone);
        Due.sentence("P11.4", "rest: how many (.. to 12) till there is REST", PricesTest::restTwelve);
        Due.sentence("P11.5", "rest: (NONE: not by 12)", PricesTest::restNever);
        Due.sentence("P11.6", "rest: 1 the PRICE of CHEAPEST then, 2 how many TOKENS that has", PricesTest::restThen);
        Due.sentence("P11.7", "rest: (or behind 12)", PricesTest::restBehindTwelve);
        Due.sentence("P11.8", "rest: STATE: no TEXT", PricesTest::restRefused);
        Due.sentence("P11.9", "rest: OUTSIDE: what", PricesTest::restOutside);
    }

    private static PricedCopies restsByTwelve() {
        PricedCopies x = Due.text(RESTS_BY_12);
        Due.setPrices(x, PRICES_BY_12);
        return x;
    }

    private static void restFromHere() {
        PricedCopies x = Due.text("aaaa");
        Due.is("rest(0) at first", x.rest(0), 2);
        x.round();
        Due.is("rest(0) behind a ROUND", x.rest(0), 1);
        x.round();
        Due.is("rest(0) behind two", x.rest(0), 0);
        x.price(3, 6);
        Due.is("rest(0) behind price()", x.rest(0), 1);
        Due.retext(x, "aabb");
        Due.is("rest(0) of another TEXT", x.rest(0), 1);
        Due.is("rest(1) of another TEXT", x.rest(1), 12);
        Due.is("rest(2) of another TEXT", x.rest(2), 4);
    }

    private static void restChangesNothing() {
        for (PricedCopies x : new PricedCopies[] {Due.text("aaaa"), Due.text(NEVER_RESTS), restsByTwelve()}) {
            Due.write(x, "aA");
            int[] prices = new int[18];
            for (int i = 0; i < 18; i++) prices[i] = x.priceOf(i);
            int price = x.cheapest(0);
            for (int what = 0; what <= 2; what++) x.rest(what);
            Due.prices("behind rest()", x, prices);
            Due.is("count(5) behind rest()", x.count(5), 0);
            Due.is("count(0) behind rest()", x.count(0), 2);
            Due.is("cheapest(0) behind rest()", x.cheapest(0), price);
        }
    }

    private static void restNone() {
        PricedCopies x = Due.text("aaaa");
        Due.setPrices(x, 1, 7, 7, 7, 5, 5, 5, 5, 5, 5, 5, 5, 5, 5, 5, 5, 5, 5);
        Due.is("rest(0) at REST", x.rest(0), 0);
        Due.is("rest(1) at REST", x.rest(1), 4);
        Due.is("rest(2) at REST", x.rest(2), 4);
        x.price(3, 6);
        Due.is("rest(0) a ROUND ahead of it", x.rest(0), 1);
    }

    private static void restTwelve() {
        PricedCopies x = restsByTwelve();
        for (int left = 12; left >= 0; left--) {
            Due.is("rest(0), " + left + " ROUNDS ahead of REST", x.rest(0), left);
            int others = x.round();
            Due.is("round() alters", others > 0 ? 1 : 0, left > 0 ? 1 : 0);
        }
        Due.is("rest(0) at REST", x.rest(0), 0);
    }

    private static void restNever() {
        PricedCopies x = Due.text(NEVER_RESTS);
        Due.is("rest(0)", x.rest(0), NONE);
        for (int i = 0; i < 40; i++) {
            Due.is("round() never rests", x.round() > 0 ? 1 : 0, 1);
            Due.is("rest(0) behind a ROUND", x.rest(0), NONE);
        }
    }

    private static void restThen() {
        PricedCopies x = Due.text("aaaa");
        Due.is("rest(1) of aaaa", x.rest(1), 4);
        Due.is("rest(2) of aaaa", x.rest(2), 4);
        x = Due.text("d");
        Due.is("rest(0) of d", x.rest(0), 1);
        Due.is("rest(1) of d", x.rest(1), 3);
        Due.is("rest(2) of d", x.rest(2), 1);
        dueRestAsRoundsTell(Due.text("cccaababbb"), Due.text("cccaababbb"));
        dueRestAsRoundsTell(Due.text("abababbbbbaababbabaaaa"), Due.text("abababbbbbaababbabaaaa"));
        dueRestAsRoundsTell(restsByTwelve(), restsByTwelve());
    }

    /** A ROUND at REST alters nothing, so one more than it takes does no harm. */
    private static void dueRestAsRoundsTell(PricedCopies asked, PricedCopies done) {
        int rounds = 0;
        while (rounds < 13 && done.round() > 0) rounds++;
        Due.is("rest(0)", asked.rest(0), rounds);
        Due.is("rest(1) is the PRICE behind " + rounds + " ROUNDS", asked.rest(1), done.cheapest(0));
        Due.is("rest(2) is how many TOKENS behind " + rounds + " ROUNDS", asked.rest(2), done.cheapest(1));
    }

    private static void restBehindTwelve() {
        PricedCopies x = Due.text(NEVER_RESTS);
        Due.is("rest(1)", x.rest(1), 34);
        Due.is("rest(2)", x.rest(2), 18);
        // behind 11 and behind 13 ROUNDS stand other ones
        int[][] due = {{33, 13}, {34, 18}, {54, 9}};
        PricedCopies done = Due.text(NEVER_RESTS);
        for (int i = 0; i < 11; i++) done.round();
        for (int[] pair : due) {
            Due.is("cheapest(0)", done.cheapest(0), pair[0]);
            Due.is("cheapest(1)", done.cheapest(1), pair[1]);
            done.round();
        }
    }

    private static void restRefused() {
        PricedCopies x = new PricedCopies();
        for (int what = 0; what <= 2; what++) Due.is("rest(" + what + ") without a TEXT", x.rest(what), STATE);
        Due.write(x, "aaaa");
        Due.is("rest(0) with a page alone", x.rest(0), STATE);
    }

    private static void restOutside() {
        PricedCopies x = Due.text("aaaa");
        for (int what : new int[] {-1, 3, 4, 10}) Due.is("rest(" + what + ")", x.rest(what), OUTSIDE);
        for (int far : Due.FAR) Due.is("rest(" + far + ")", x.rest(far), OUTSIDE);
    }
}

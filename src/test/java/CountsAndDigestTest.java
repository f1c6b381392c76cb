import java.math.BigInteger;

/** Promises 19 and 20: each sentence with a test of its own, reckoned by hand. */
public final class CountsAndDigestTest {
    private static final int OUTSIDE = Due.OUTSIDE, NONE = Due.NONE;
    private static final String RICH = "aabbaabbccddaabbaabbccdd";
    private static final String NEVER_RESTS = "aaababbabbabaabaab";

    public static void main(String[] args) {
        counts();
        digests();
        Due.end();
    }

    // ---- promise 19

    private static void counts() {
        Due.sentence("P19.1", "count: 0 letters of THE PAGE", CountsAndDigestTest::lettersOfThePage);
        Due.sentence("P19.2", "count: 1 letters of the TEXT", CountsAndDigestTest::lettersOfTheText);
        Due.sentence("P19.3", "count: 2 to 4 TOKENS of CHEAPEST that are PLAIN, AGAIN, COPIES", CountsAndDigestTest::kindsOfTokens);
        Due.sentence("P19.4", "count: (0 without a TEXT)", CountsAndDigestTest::noTokens);
        Due.sentence("P19.5", "count: 5 ROUNDS by round(), ever", CountsAndDigestTest::roundsEver);
        Due.sentence("P19.6", "count: 6 how often a TEXT was read by text()", CountsAndDigestTest::textsRead);
        Due.sentence("P19.7", "count: 7 by decode()", CountsAndDigestTest::codesRead);
        Due.sentence("P19.8", "count: OUTSIDE", CountsAndDigestTest::countOutside);
    }

    private static void lettersOfThePage() {
        PricedCopies x = new PricedCopies();
        Due.is("count(0) at first", x.count(0), 0);
        for (int i = 1; i <= 30; i++) {
            x.letter('?');
            Due.is("count(0) behind " + i, x.count(0), i);
        }
        x.letter('?');
        Due.is("count(0) when full", x.count(0), 30);
        x.blank();
        Due.is("count(0) behind blank()", x.count(0), 0);
        Due.retext(x, "abc");
        Due.is("count(0) behind text()", x.count(0), 0);
        Due.write(x, "aA2");
        Due.is("count(0) beside a TEXT", x.count(0), 3);
        x.decode();
        Due.is("count(0) behind decode()", x.count(0), 0);
    }

    private static void lettersOfTheText() {
        PricedCopies x = Due.page("abc");
        Due.is("count(1) without a TEXT", x.count(1), 0);
        x.blank();
        for (int n : new int[] {24, 1, 7}) {
            Due.retext(x, RICH.substring(0, n));
            Due.is("count(1) of " + n, x.count(1), n);
        }
        Due.write(x, "aA8=8");
        Due.is("count(1) beside a page", x.count(1), 7);
        x.decode();
        Due.is("count(1) behind decode()", x.count(1), 17);
    }

    private static void dueKinds(String where, PricedCopies x, int plain, int again, int copies) {
        Due.is("count(2) of " + where, x.count(2), plain);
        Due.is("count(3) of " + where, x.count(3), again);
        Due.is("count(4) of " + where, x.count(4), copies);
    }

    private static void kindsOfTokens() {
        dueKinds("d", Due.text("d"), 1, 0, 0);
        // each asked first of all
        Due.is("count(2) alone", Due.text(RICH).count(2), 8);
        Due.is("count(3) alone", Due.text(RICH).count(3), 1);
        Due.is("count(4) alone", Due.text(RICH).count(4), 2);
        PricedCopies x = Due.text(RICH);
        dueKinds(RICH, x, 8, 1, 2);
        Due.retext(x, "a".repeat(24));
        dueKinds("24 times a", x, 1, 2, 1);
        x.price(17, 30);
        dueKinds("AGAIN dear", x, 1, 0, 3);
        x.price(0, 1);
        x.price(4, 30);
        dueKinds("COPY dear", x, 24, 0, 0);
        x = Due.text("aaaa");
        dueKinds("aaaa", x, 1, 0, 1);
        x.round();
        dueKinds("aaaa behind a ROUND", x, 4, 0, 0);
    }

    private static void noTokens() {
        PricedCopies x = new PricedCopies();
        dueKinds("a new object", x, 0, 0, 0);
        Due.write(x, "aA2");
        dueKinds("a page alone", x, 0, 0, 0);
        x.text();
        dueKinds("a refused text()", x, 0, 0, 0);
    }

    private static void roundsEver() {
        PricedCopies x = new PricedCopies();
        x.round();
        Due.is("count(5) behind a refused round()", x.count(5), 0);
        Due.retext(x, "aaaa");
        for (int i = 1; i <= 5; i++) {
            // those that alter nothing are ROUNDS, too
            x.round();
            Due.is("count(5) behind " + i, x.count(5), i);
        }
        x.rest(0);
        Due.is("count(5) behind rest()", x.count(5), 5);
        Due.retext(x, "abab");
        Due.is("count(5) with another TEXT", x.count(5), 5);
        Due.write(x, "aA2");
        x.decode();
        x.price(0, 9);
        x.blank();
        x.round();
        Due.is("count(5) ever", x.count(5), 6);
    }

    private static void textsRead() {
        PricedCopies x = new PricedCopies();
        x.text();
        Due.is("count(6) behind a refused text()", x.count(6), 0);
        for (int i = 1; i <= 5; i++) {
            Due.retext(x, "a");
            Due.is("count(6) behind " + i, x.count(6), i);
        }
        Due.write(x, "a");
        x.decode();
        Due.is("count(6) behind decode()", x.count(6), 5);
    }

    private static void codesRead() {
        PricedCopies x = new PricedCopies();
        x.decode();
        Due.is("count(7) behind a refused decode()", x.count(7), 0);
        for (int i = 1; i <= 5; i++) {
            Due.write(x, "aA2");
            x.priced();
            x.decode();
            Due.is("count(7) behind " + i, x.count(7), i);
        }
        Due.retext(x, "a");
        Due.is("count(7) behind text()", x.count(7), 5);
    }

    private static void countOutside() {
        for (PricedCopies x : new PricedCopies[] {new PricedCopies(), Due.text("aaaa")}) {
            for (int what : new int[] {-1, 8, 9, 10}) Due.is("count(" + what + ")", x.count(what), OUTSIDE);
            for (int far : Due.FAR) Due.is("count(" + far + ")", x.count(far), OUTSIDE);
            Due.is("count(7)", x.count(7), 0);
        }
    }

    // ---- promise 20

    private static void digests() {
        Due.sentence("P20.1", "h is 1747, then for each number 31 times h, and it", CountsAndDigestTest::digestOfNothing);
        Due.sentence("P20.2", "digest: each letter of THE PAGE by its code", CountsAndDigestTest::digestOfAPage);
        Due.sentence("P20.3", "digest: these numbers, in order", CountsAndDigestTest::digestInOrder);
        Due.sentence("P20.4", "digest: if there is a TEXT", CountsAndDigestTest::digestWithoutAText);
        Due.sentence("P20.5", "digest: (as longs, wrapping)", CountsAndDigestTest::digestWraps);
        Due.sentence("P20.6", "digest: NONE is a number, too", CountsAndDigestTest::digestOfNone);
        Due.sentence("P20.7", "digest tells alone", CountsAndDigestTest::digestChangesNothing);
    }

    /** By numbers without a bound, cut to 64 bits at the end alone. */
    private static long mixed(int... numbers) {
        BigInteger h = BigInteger.valueOf(1747);
        for (int n : numbers) h = h.multiply(BigInteger.valueOf(31)).add(BigInteger.valueOf(n));
        return h.longValue();
    }

    private static void digestOfNothing() {
        Due.is("digest() of a new object", new PricedCopies().digest(), mixed(
            8, 8, 8, 8, 4, 2, 3, 4, 5, 6, 1, 1, 2, 2, 3, 3, 3, 3, 0, 0, 0, 0, 0, 0, 0, 0));
        PricedCopies x = new PricedCopies();
        Due.setPrices(x, 1, 2, 3, 4, 5, 6, 7, 8, 9, 10, 11, 12, 13, 14, 15, 16, 17, 30);
        Due.is("digest() of other PRICES", x.digest(), mixed(
            1, 2, 3, 4, 5, 6, 7, 8, 9, 10, 11, 12, 13, 14, 15, 16, 17, 30, 0, 0, 0, 0, 0, 0, 0, 0));
    }

    private static void digestOfAPage() {
        PricedCopies x = Due.page(" ~aA=");
        Due.is("digest() of a page", x.digest(), mixed(8, 8, 8, 8, 4, 2, 3, 4, 5, 6, 1, 1, 2, 2, 3, 3, 3, 3,
            32, 126, 97, 65, 61, 5, 0, 0, 0, 0, 0, 0, 0));
        x.blank();
        Due.is("digest() of a blank page", x.digest(), new PricedCopies().digest());
        Due.is("digest() of a full page", Due.page("z".repeat(30)).digest(), mixed(
            8, 8, 8, 8, 4, 2, 3, 4, 5, 6, 1, 1, 2, 2, 3, 3, 3, 3,
            122, 122, 122, 122, 122, 122, 122, 122, 122, 122, 122, 122, 122, 122, 122,
            122, 122, 122, 122, 122, 122, 122, 122, 122, 122, 122, 122, 122, 122, 122,
            30, 0, 0, 0, 0, 0, 0, 0));
    }

    private static void digestInOrder() {
        PricedCopies x = Due.text("aaaa");
        Due.write(x, "=~");
        x.price(3, 9);
        Due.is("digest() of aaaa", x.digest(), mixed(8, 8, 8, 9, 4, 2, 3, 4, 5, 6, 1, 1, 2, 2, 3, 3, 3, 3,
            0, 0, 0, -1, -1,
            0, 3, 1, 0, -1,
            0, 2, 1, 1, 0,
            0, 0, 0, -1, -1,
            15, 2, 3, 0, 1013,
            15, 2,
            2, 4, 4,
            15, 15,
            61, 126,
            2, 4, 1, 0, 1, 0, 1, 0));
        // each number another one's neighbour but once: parts by 4 and by 10, GREEDY and CHEAPEST, 5 and 6 and 7
        x = Due.page("abB6");
        x.decode();
        Due.retext(x, "abcabcabcabc");
        Due.write(x, "ab");
        Due.is("digest() of abc four times", x.digest(), mixed(8, 8, 8, 8, 4, 2, 3, 4, 5, 6, 1, 1, 2, 2, 3, 3, 3, 3,
            0, 0, 0, -1, -1, 1, 0, 0, -1, -1, 2, 0, 0, -1, -1,
            0, 8, 3, 0, -1, 1, 8, 3, 1, -1, 2, 7, 3, 2, -1,
            0, 6, 3, 3, 0, 1, 5, 3, 4, 1, 2, 4, 3, 5, 2,
            0, 3, 3, 6, 3, 1, 2, 3, 7, 4, 2, 0, 0, -1, -1,
            38, 5, 7, 0, 1, 2, 1032, 107,
            42, 5,
            2, 29, 5,
            96, 24 + 10 + 16,
            97, 98,
            2, 12, 3, 1, 1, 0, 1, 1));
    }

    private static void digestWithoutAText() {
        // nothing of CHEAPEST, GREEDY, REST or PARTS, not as refusals, either
        PricedCopies x = new PricedCopies();
        x.price(0, 30);
        Due.is("digest() without a TEXT", x.digest(), mixed(
            30, 8, 8, 8, 4, 2, 3, 4, 5, 6, 1, 1, 2, 2, 3, 3, 3, 3, 0, 0, 0, 0, 0, 0, 0, 0));
        Due.retext(x, "d");
        Due.is("digest() of d", x.digest(), mixed(30, 8, 8, 8, 4, 2, 3, 4, 5, 6, 1, 1, 2, 2, 3, 3, 3, 3,
            3, 0, 0, -1, -1, 8, 1, 1, 3, 8, 1, 1, 3, 1, 8, 8, 0, 1, 1, 0, 0, 0, 1, 0));
    }

    /** The digest that is due by what the other calls tell. */
    private static long reckoned(PricedCopies x, String page) {
        int[] numbers = new int[400];
        int n = 0;
        for (int i = 0; i < 18; i++) numbers[n++] = x.priceOf(i);
        for (int place = 0; place < x.count(1); place++) {
            numbers[n++] = x.at(place);
            numbers[n++] = x.longest(place, 0);
            numbers[n++] = x.longest(place, 1);
            numbers[n++] = x.chain(place, 0);
            numbers[n++] = x.chain(place, 1);
        }
        if (x.count(1) > 0) {
            for (int what = 0; what <= 2; what++) numbers[n++] = x.cheapest(what);
            for (int i = 0; i < x.cheapest(1); i++) numbers[n++] = x.cheapest(10 + i);
            for (int what = 0; what <= 1; what++) numbers[n++] = x.greedy(what);
            for (int what = 0; what <= 2; what++) numbers[n++] = x.rest(what);
            numbers[n++] = x.parts(4, 0);
            numbers[n++] = x.parts(10, 0);
        }
        for (int i = 0; i < page.length(); i++) numbers[n++] = page.charAt(i);
        for (int what = 0; what <= 7; what++) numbers[n++] = x.count(what);
        return mixed(java.util.Arrays.copyOf(numbers, n));
    }

    private static void digestWraps() {
        // as many numbers as there can be; digests below 0 and above it
        boolean below = false;
        boolean above = false;
        for (int v = 1; v <= 30; v++) {
            PricedCopies x = Due.text("abcdabcdabcdabcdabcdabcd");
            Due.setPrices(x, v, 1, 1, 1, 30, 30, 30, 30, 30, 30, 30, 30, 30, 30, 30, 30, 30, 30);
            Due.write(x, "~".repeat(30));
            long due = reckoned(x, "~".repeat(30));
            Due.is("digest() with PRICE " + v, x.digest(), due);
            below |= due < 0;
            above |= due > 0;
        }
        Due.is("digests below 0 and above it", below && above ? 1 : 0, 1);
    }

    private static void digestOfNone() {
        PricedCopies x = Due.text(NEVER_RESTS);
        Due.is("rest(0)", x.rest(0), NONE);
        Due.is("digest() of what never rests", x.digest(), reckoned(x, ""));
        x = Due.text("abcd");
        Due.is("digest() of abcd", x.digest(), mixed(8, 8, 8, 8, 4, 2, 3, 4, 5, 6, 1, 1, 2, 2, 3, 3, 3, 3,
            0, 0, 0, -1, -1, 1, 0, 0, -1, -1, 2, 0, 0, -1, -1, 3, 0, 0, -1, -1,
            32, 4, 4, 0, 1, 2, 3, 32, 4, 1, 20, 4, 32, 32, 0, 4, 4, 0, 0, 0, 1, 0));
    }

    private static void digestChangesNothing() {
        for (String text : new String[] {"d", "aaaa", RICH, NEVER_RESTS}) {
            PricedCopies x = Due.text(text);
            PricedCopies y = Due.text(text);
            Due.write(x, "aA");
            Due.write(y, "aA");
            long first = x.digest();
            for (int i = 0; i < 5; i++) Due.is("digest() once more", x.digest(), first);
            x.letter('2');
            y.letter('2');
            Due.is("round() behind digest()", x.round(), y.round());
            Due.is("decode() behind digest()", x.decode(), y.decode());
            Due.is("digest() of both", x.digest(), y.digest());
        }
    }
}

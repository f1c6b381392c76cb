/** Each promise of the document by answers reckoned by hand: ordinary inputs, edges, refusals. */
public final class PromiseTest {
    private static final int NONE = -1, UNKNOWN = -1001, OUTSIDE = -1002, STATE = -1003, FULL = -1004;
    private static final int[] FIRST_PRICES = {8, 8, 8, 8, 4, 2, 3, 4, 5, 6, 1, 1, 2, 2, 3, 3, 3, 3};
    private static final int[] FAR = {Integer.MIN_VALUE, -1000000, -2, 1000000, Integer.MAX_VALUE};
    private static final String FULL_CODE = "aA8A8A7";
    private static final String NEVER_RESTS = "bacbbaccabcabbbbcabcbbab";

    private static int checks = 0;
    private static int wrong = 0;

    public static void main(String[] args) {
        promise1NewObject();
        promise2Letter();
        promise3Blank();
        promise4Fault();
        promise5Text();
        promise6Decode();
        promise7Priced();
        promise8Price();
        promise9PriceOf();
        promise10Round();
        promise11Rest();
        promise12At();
        promise13Longest();
        promise14Chain();
        promise15Cheapest();
        promise16CodeOf();
        promise17Greedy();
        promise18Parts();
        promise19Count();
        promise20Digest();
        refusalsChangeNothing();
        System.out.println(checks + " checks, " + wrong + " wrong");
        if (wrong != 0) System.exit(1);
    }

    private static void due(String what, long got, long want) {
        checks++;
        if (got == want) return;
        wrong++;
        System.out.println(what + " answered " + got + ", due is " + want);
    }

    private static void write(PricedCopies x, String page) {
        for (int i = 0; i < page.length(); i++) x.letter(page.charAt(i));
    }

    private static PricedCopies withPage(String page) {
        PricedCopies x = new PricedCopies();
        write(x, page);
        return x;
    }

    private static PricedCopies withText(String text) {
        PricedCopies x = withPage(text);
        due("text() of " + text, x.text(), text.length());
        return x;
    }

    private static void dueText(PricedCopies x, String text) {
        due("count(1) of " + text, x.count(1), text.length());
        for (int i = 0; i < text.length(); i++) due("at(" + i + ") of " + text, x.at(i), text.charAt(i) - 'a');
    }

    private static void dueTokens(String where, PricedCopies x, int... tokens) {
        due(where + ": cheapest(1)", x.cheapest(1), tokens.length);
        for (int i = 0; i < 24; i++) {
            due(where + ": cheapest(" + (10 + i) + ")", x.cheapest(10 + i), i < tokens.length ? tokens[i] : NONE);
        }
    }

    private static void duePrices(String where, PricedCopies x, int... prices) {
        for (int i = 0; i < 18; i++) due(where + ": priceOf(" + i + ")", x.priceOf(i), prices[i]);
    }

    private static long mixed(int... numbers) {
        long h = 1747;
        for (int n : numbers) h = 31 * h + n;
        return h;
    }

    private static String repeat(String part, int times) {
        return part.repeat(times);
    }

    private static void promise1NewObject() {
        PricedCopies x = new PricedCopies();
        for (int what = 0; what < 8; what++) due("new: count(" + what + ")", x.count(what), 0);
        duePrices("new", x, FIRST_PRICES);
        due("new: at(0)", x.at(0), UNKNOWN);
        due("new: cheapest(0)", x.cheapest(0), STATE);
        due("new: blank()", x.blank(), 0);
        withText("abab").price(0, 30);
        due("new: priceOf(0) behind another object", new PricedCopies().priceOf(0), 8);
    }

    private static void promise2Letter() {
        PricedCopies x = new PricedCopies();
        due("letter(32)", x.letter(32), 1);
        due("letter(126)", x.letter(126), 2);
        due("letter(31)", x.letter(31), OUTSIDE);
        due("letter(127)", x.letter(127), OUTSIDE);
        for (int far : FAR) due("letter(" + far + ")", x.letter(far), OUTSIDE);
        due("count(0) behind refusals", x.count(0), 2);
        for (int i = 3; i <= 30; i++) due("letter " + i, x.letter('b'), i);
        due("letter 31", x.letter('b'), FULL);
        due("letter 31, outside", x.letter(31), OUTSIDE);
        due("count(0) when full", x.count(0), 30);
        due("blank() when full", x.blank(), 30);
        due("letter behind blank", x.letter('b'), 1);
    }

    private static void promise3Blank() {
        PricedCopies x = withText("abc");
        due("blank() of an empty page", x.blank(), 0);
        write(x, "dd?");
        due("blank()", x.blank(), 3);
        due("count(0) behind blank", x.count(0), 0);
        due("blank() again", x.blank(), 0);
        dueText(x, "abc");
        write(x, "d");
        due("text() behind blank", x.text(), 1);
        dueText(x, "d");
    }

    private static void dueFault(String page, int ofText, int ofCode) {
        PricedCopies x = withPage(page);
        due("fault(false) of '" + page + "'", x.fault(false), ofText);
        due("fault(true) of '" + page + "'", x.fault(true), ofCode);
        due("count(0) behind fault of '" + page + "'", x.count(0), page.length());
    }

    private static void promise4Fault() {
        dueFault("", 0, 0);
        dueFault("a", 1, 1);
        dueFault("abcd", 4, 4);
        dueFault("abcde", 4, 4);
        dueFault("e", 0, 0);
        dueFault("`", 0, 0);
        dueFault(" a", 0, 0);
        dueFault("A2", 0, 0);
        dueFault("=2", 0, 0);
        dueFault("a=2", 1, 1);
        dueFault("aB2", 1, 1);
        dueFault("aA", 1, 2);
        dueFault("aA2=", 1, 4);
        dueFault("aA1", 1, 2);
        dueFault("aA2", 1, 3);
        dueFault("aA8", 1, 3);
        dueFault("aA9", 1, 2);
        dueFault("aAa", 1, 2);
        dueFault("aA=", 1, 2);
        dueFault("aA22", 1, 3);
        dueFault("aA2=1", 1, 4);
        dueFault("aA2=8", 1, 5);
        dueFault("aA2=9", 1, 4);
        dueFault("aA2D2", 1, 3);
        dueFault("aA2C2", 1, 5);
        dueFault("aY2", 1, 1);
        dueFault("a@2", 1, 1);
        dueFault(repeat("abcd", 6), 24, 24);
        dueFault(repeat("abcd", 6) + "a", 24, 24);
        dueFault("aA8A8A8", 1, 6);
        dueFault(FULL_CODE, 1, 7);
        dueFault(FULL_CODE + "a", 1, 7);
        // beyond 24 letters the figure is the fault, even where no LENGTH has room
        dueFault(FULL_CODE + "A2", 1, 8);
        dueFault(FULL_CODE + "=2", 1, 8);
        dueFault(FULL_CODE + "X2", 1, 8);
        dueFault(FULL_CODE + "A", 1, 8);
        dueFault("aA8A8A6W2", 1, 8);
        dueFault("aA8A8A6X2", 1, 7);
        dueFault("aA8A8A6", 1, 7);
        dueFault("aA8A8A5W2", 1, 7);
        dueFault("aA8A8A5V2", 1, 9);
        dueFault("aA8A8A5V3", 1, 8);
    }

    private static void promise5Text() {
        PricedCopies x = new PricedCopies();
        due("text() of an empty page", x.text(), STATE);
        write(x, "abe");
        due("text() of abe", x.text(), STATE);
        due("page behind a refused text()", x.blank(), 3);
        write(x, repeat("d", 25));
        due("text() of 25 letters", x.text(), STATE);
        due("count(6) behind refusals", x.count(6), 0);
        x.blank();
        write(x, repeat("d", 24));
        due("text() of 24 letters", x.text(), 24);
        dueText(x, repeat("d", 24));
        due("page behind text()", x.count(0), 0);
        write(x, "cab");
        due("text() of cab", x.text(), 3);
        dueText(x, "cab");
        due("at(3) of cab", x.at(3), UNKNOWN);
        due("cheapest(0) of cab", x.cheapest(0), 24);
        due("count(6)", x.count(6), 2);
        due("count(7)", x.count(7), 0);
        write(x, "aA2");
        due("text() of a CODE", x.text(), STATE);
        dueText(x, "cab");
    }

    private static void dueDecoded(String code, String text) {
        PricedCopies x = withText("dcba");
        write(x, code);
        due("decode() of " + code, x.decode(), text.length());
        dueText(x, text);
        due("at() behind what " + code + " makes", x.at(text.length()), UNKNOWN);
        due("page behind decode()", x.count(0), 0);
        due("count(7) behind decode()", x.count(7), 1);
        due("count(6) behind decode()", x.count(6), 1);
    }

    private static void dueNoCode(String page) {
        PricedCopies x = withText("dcba");
        write(x, page);
        due("decode() of '" + page + "'", x.decode(), STATE);
        due("priced() of '" + page + "'", x.priced(), STATE);
        dueText(x, "dcba");
        due("page behind a refused decode()", x.count(0), page.length());
        due("count(7) behind a refused decode()", x.count(7), 0);
    }

    private static void promise6Decode() {
        dueDecoded("a", "a");
        dueDecoded("abcd", "abcd");
        dueDecoded("abB3", "ababa");
        dueDecoded("aA8=8", repeat("a", 17));
        dueDecoded("abcC4d=3B2", "abcabcadcadad");
        dueDecoded("abA2=2B2=3", "abbbbbbbbbb");
        dueDecoded("abcA2C2=3", "abcccccccc");
        dueDecoded("abcC2B2=3", "abcababababa".substring(0, 10));
        dueDecoded(FULL_CODE, repeat("a", 24));
        dueDecoded(repeat("abcd", 6), repeat("abcd", 6));
        dueNoCode("");
        dueNoCode("aA");
        dueNoCode("aA2=");
        dueNoCode("A2");
        dueNoCode("a=2");
        dueNoCode("aB2");
        dueNoCode("aA9");
        dueNoCode("e");
        dueNoCode("aA8A8A8");
        dueNoCode(FULL_CODE + "a");
        dueNoCode(FULL_CODE + "A");
        dueNoCode(FULL_CODE + "A2");
        dueNoCode(repeat("abcd", 6) + "a");
    }

    private static void duePriced(String code, int price) {
        PricedCopies x = withPage(code);
        due("priced() of " + code, x.priced(), price);
        due("priced() of " + code + " again", x.priced(), price);
        due("page behind priced()", x.count(0), code.length());
        due("TEXT behind priced()", x.count(1), 0);
    }

    private static void promise7Priced() {
        duePriced("a", 8);
        duePriced("abcd", 32);
        duePriced("aA8=8", 8 + 4 + 2 + 3 + 3 + 3);
        duePriced("abcC4d=3B2", 24 + 4 + 3 + 2 + 8 + 3 + 1 + 4 + 3 + 1);
        for (int length = 2; length <= 8; length++) {
            duePriced("aA" + length, 8 + 4 + 2 + new int[] {1, 1, 2, 2, 3, 3, 3}[length - 2]);
        }
        String made = "aA8A8A5";
        int ofMade = 8 + 9 + 9 + 8;
        for (int d = 1; d <= 22; d++) {
            int ofDistance = d == 1 ? 2 : d < 4 ? 3 : d < 8 ? 4 : d < 16 ? 5 : 6;
            duePriced(made + (char) ('A' + d - 1) + "2", ofMade + 4 + ofDistance + 1);
        }
        PricedCopies x = withPage("abA2=3");
        x.price(1, 30);
        x.price(17, 1);
        x.price(11, 20);
        due("priced() by other PRICES", x.priced(), 8 + 30 + 4 + 2 + 1 + 1 + 20);
        due("priced() of an empty page", new PricedCopies().priced(), STATE);
    }

    private static void promise8Price() {
        PricedCopies x = new PricedCopies();
        for (int what = 0; what < 18; what++) {
            due("price(" + what + ", 30)", x.price(what, 30), FIRST_PRICES[what]);
            due("price(" + what + ", 1)", x.price(what, 1), 30);
            due("price(" + what + ", 0)", x.price(what, 0), OUTSIDE);
            due("price(" + what + ", 31)", x.price(what, 31), OUTSIDE);
            for (int far : FAR) due("price(" + what + ", far)", x.price(what, far), OUTSIDE);
            due("price(" + what + ", 9)", x.price(what, 9), 1);
        }
        due("price(-1, 5)", x.price(-1, 5), UNKNOWN);
        due("price(18, 5)", x.price(18, 5), UNKNOWN);
        due("price(18, 0)", x.price(18, 0), UNKNOWN);
        for (int far : FAR) due("price(far, 5)", x.price(far, 5), UNKNOWN);
        PricedCopies y = withText("aaaa");
        due("cheapest(0) ahead of price()", y.cheapest(0), 15);
        y.price(5, 30);
        due("cheapest(0) behind price()", y.cheapest(0), 24);
        y.price(0, 1);
        due("cheapest(0) behind another", y.cheapest(0), 4);
    }

    private static void promise9PriceOf() {
        PricedCopies x = new PricedCopies();
        duePrices("priceOf", x, FIRST_PRICES);
        due("priceOf(-1)", x.priceOf(-1), UNKNOWN);
        due("priceOf(18)", x.priceOf(18), UNKNOWN);
        for (int far : FAR) due("priceOf(far)", x.priceOf(far), UNKNOWN);
    }

    private static void promise10Round() {
        PricedCopies x = new PricedCopies();
        due("round() without a TEXT", x.round(), STATE);
        due("count(5) behind a refused round()", x.count(5), 0);
        x = withText("aaaa");
        dueTokens("aaaa", x, 0, 1013);
        due("round 1", x.round(), 17);
        duePrices("round 1", x, 3, 5, 5, 5, 3, 3, 5, 5, 5, 5, 7, 5, 7, 7, 7, 7, 7, 5);
        dueTokens("aaaa behind round 1", x, 0, 0, 0, 0);
        due("round 2", x.round(), 12);
        duePrices("round 2", x, 1, 7, 7, 7, 5, 5, 5, 5, 5, 5, 5, 5, 5, 5, 5, 5, 5, 5);
        due("round 3", x.round(), 0);
        due("count(5)", x.count(5), 3);
        // a PLAIN, a COPY, an AGAIN: 3 TOKENS and 3, 1 COPY and 5, 2 LENGTHS and 7
        x = withText(repeat("a", 17));
        due("round() of COPY and AGAIN", x.round(), 15);
        duePrices("COPY and AGAIN", x, 3, 5, 5, 5, 3, 3, 5, 5, 5, 5, 7, 7, 7, 7, 7, 7, 3, 3);
    }

    private static void promise11Rest() {
        PricedCopies x = new PricedCopies();
        due("rest(0) without a TEXT", x.rest(0), STATE);
        due("rest(3) without a TEXT", x.rest(3), STATE);
        x = withText("aaaa");
        due("rest(0)", x.rest(0), 2);
        due("rest(1)", x.rest(1), 4);
        due("rest(2)", x.rest(2), 4);
        duePrices("rest() leaves PRICES", x, FIRST_PRICES);
        due("rest() leaves count(5)", x.count(5), 0);
        due("rest(-1)", x.rest(-1), OUTSIDE);
        due("rest(3)", x.rest(3), OUTSIDE);
        for (int far : FAR) due("rest(far)", x.rest(far), OUTSIDE);
        x.round();
        due("rest(0) behind 1", x.rest(0), 1);
        x.round();
        due("rest(0) behind 2", x.rest(0), 0);
        due("rest(1) behind 2", x.rest(1), 4);
        x.price(3, 6);
        due("rest(0) behind price()", x.rest(0), 1);
        write(x, "aabb");
        x.text();
        due("rest(0) of another TEXT", x.rest(0), 1);
        due("rest(1) of another TEXT", x.rest(1), 12);
        dueRestAsRoundsTell("cccaababbb");
        dueRestAsRoundsTell("abababbbbbaababbabaaaa");
        dueRestAsRoundsTell(NEVER_RESTS);
        due("rest(0) of what never rests", withText(NEVER_RESTS).rest(0), NONE);
    }

    private static void dueRestAsRoundsTell(String text) {
        PricedCopies asked = withText(text);
        PricedCopies done = withText(text);
        PricedCopies ahead = withText(text);
        int rounds = 0;
        boolean resting = ahead.round() == 0;
        while (!resting && rounds < 12) {
            done.round();
            rounds++;
            resting = ahead.round() == 0;
        }
        due("rest(0) of " + text, asked.rest(0), resting ? rounds : NONE);
        due("rest(1) of " + text, asked.rest(1), done.cheapest(0));
        due("rest(2) of " + text, asked.rest(2), done.cheapest(1));
    }

    private static void promise12At() {
        PricedCopies x = new PricedCopies();
        due("at(0) without a TEXT", x.at(0), UNKNOWN);
        x = withText("dbca");
        dueText(x, "dbca");
        due("at(-1)", x.at(-1), UNKNOWN);
        due("at(4)", x.at(4), UNKNOWN);
        for (int far : FAR) due("at(far)", x.at(far), UNKNOWN);
        due("at(23) of 24", withText(repeat("abcd", 6)).at(23), 3);
        due("at(24) of 24", withText(repeat("abcd", 6)).at(24), UNKNOWN);
    }

    private static void dueLongest(String text, int place, int length, int distance) {
        PricedCopies x = withText(text);
        due("longest(" + place + ", 0) of " + text, x.longest(place, 0), length);
        due("longest(" + place + ", 1) of " + text, x.longest(place, 1), distance);
    }

    private static void promise13Longest() {
        dueLongest("abab", 0, 0, 0);
        dueLongest("abab", 1, 0, 0);
        dueLongest("abab", 2, 2, 2);
        dueLongest("abab", 3, 0, 0);
        dueLongest("abcabc", 3, 3, 3);
        dueLongest(repeat("a", 24), 1, 8, 1);
        dueLongest(repeat("a", 24), 16, 8, 1);
        dueLongest(repeat("a", 24), 17, 7, 1);
        dueLongest(repeat("a", 24), 23, 0, 0);
        // the greatest, by the least DISTANCE of such
        dueLongest("abcdabdabcd", 7, 4, 7);
        dueLongest("abcabdabc", 6, 3, 6);
        dueLongest("abcabdab", 6, 2, 3);
        PricedCopies x = withText("abab");
        due("longest(-1, 0)", x.longest(-1, 0), UNKNOWN);
        due("longest(4, 0)", x.longest(4, 0), UNKNOWN);
        due("longest(4, 2)", x.longest(4, 2), UNKNOWN);
        due("longest(0, -1)", x.longest(0, -1), OUTSIDE);
        due("longest(0, 2)", x.longest(0, 2), OUTSIDE);
        for (int far : FAR) due("longest(far, 0)", x.longest(far, 0), UNKNOWN);
        for (int far : FAR) due("longest(2, far)", x.longest(2, far), OUTSIDE);
        due("longest(0, 0) without a TEXT", new PricedCopies().longest(0, 0), UNKNOWN);
        write(x, "dd");
        x.text();
        due("longest(1, 0) of a shorter TEXT", x.longest(1, 0), 0);
        due("longest(2, 0) of a shorter TEXT", x.longest(2, 0), UNKNOWN);
    }

    private static void dueChain(String text, int place, int... chain) {
        PricedCopies x = withText(text);
        for (int k = 0; k < chain.length; k++) due("chain(" + place + ", " + k + ") of " + text, x.chain(place, k), chain[k]);
        due("chain(" + place + ") of " + text + " ends", x.chain(place, chain.length), NONE);
        due("chain(" + place + ", -1) of " + text, x.chain(place, -1), NONE);
        for (int far : FAR) due("chain(" + place + ", far)", x.chain(place, far), NONE);
    }

    private static void promise14Chain() {
        dueChain("aaaa", 0);
        dueChain("aaaa", 1, 0);
        dueChain("aaaa", 2, 1, 0);
        dueChain("aaaa", 3);
        dueChain("abcabdab", 6, 3, 0);
        dueChain("abcabdabc", 6, 3, 0);
        dueChain("abacabadabac", 8, 4, 0);
        dueChain(repeat("a", 24), 22, 21, 20, 19, 18, 17, 16, 15, 14, 13, 12, 11, 10, 9, 8, 7, 6, 5, 4, 3, 2, 1, 0);
        PricedCopies x = withText("aaaa");
        due("chain(-1, 0)", x.chain(-1, 0), UNKNOWN);
        due("chain(4, 0)", x.chain(4, 0), UNKNOWN);
        due("chain(4, -1)", x.chain(4, -1), UNKNOWN);
        for (int far : FAR) due("chain(far, 0)", x.chain(far, 0), UNKNOWN);
        due("chain(0, 0) without a TEXT", new PricedCopies().chain(0, 0), UNKNOWN);
    }

    private static void promise15Cheapest() {
        PricedCopies x = new PricedCopies();
        due("cheapest(0) without a TEXT", x.cheapest(0), STATE);
        due("cheapest(3) without a TEXT", x.cheapest(3), STATE);
        x = withText(repeat("a", 17));
        due("cheapest(0)", x.cheapest(0), 23);
        due("cheapest(2)", x.cheapest(2), 5);
        dueTokens("a 17 times", x, 0, 1018, 108);
        for (int what : new int[] {-1, 3, 9, 34}) due("cheapest(" + what + ")", x.cheapest(what), OUTSIDE);
        for (int far : FAR) due("cheapest(far)", x.cheapest(far), OUTSIDE);
        x = withText("bbbbbbbbbbbbbbbbbbbbbbbb");
        x.price(1, 1);
        // one PRICE more for a row of only 4 TOKENS (1, 12, 6, 6)
        x.price(4, 7);
        int[] plain = new int[24];
        java.util.Arrays.fill(plain, 1);
        dueTokens("24 PLAIN ones", x, plain);
        due("cheapest(0) of 24 PLAIN ones", x.cheapest(0), 24);
        due("cheapest(2) of 24 PLAIN ones", x.cheapest(2), 24);
        x.price(4, 6);
        dueTokens("4 TOKENS of the same PRICE", x, 1, 1017, 108, 108);
        fewestTokens();
        leastNumbers();
    }

    private static void fewestTokens() {
        PricedCopies x = withText("aaa");
        x.price(0, 4);
        x.price(4, 5);
        due("aaa by 3 or by 2 TOKENS of like PRICE", x.cheapest(0), 12);
        dueTokens("fewest TOKENS", x, 0, 1012);
        x.price(4, 6);
        dueTokens("PRICE ahead of fewest TOKENS", x, 0, 0, 0);
    }

    private static void leastNumbers() {
        PricedCopies x = withText("aaaa");
        x.price(11, 30);
        due("aaaa without LENGTH 3", x.cheapest(0), 23);
        dueTokens("PLAIN ahead of COPY", x, 0, 0, 1012);
        x = withText("aaaaa");
        x.price(12, 30);
        x.price(17, 6);
        due("aaaaa without LENGTH 4", x.cheapest(0), 22);
        dueTokens("AGAIN ahead of COPY", x, 0, 1012, 102);
        x.price(17, 7);
        dueTokens("a COPY by the same DISTANCE", x, 0, 1012, 1012);
        // DISTANCES 2 and 3 have one PRICE, and the last two letters may come by either
        x = withText("aaaaa");
        x.price(5, 30);
        x.price(11, 30);
        due("aaaaa without DISTANCE 1, LENGTH 3", x.cheapest(0), 32);
        dueTokens("the least DISTANCE", x, 0, 0, 0, 1022);
        x = withText("aabaaabaaa");
        due("aabaaabaaa", x.cheapest(0), 24 + 8 + 10);
        dueTokens("aabaaabaaa", x, 0, 0, 1, 1032, 1045);
    }

    private static void promise16CodeOf() {
        due("codeOf(0) without a TEXT", new PricedCopies().codeOf(0), STATE);
        due("codeOf(-1) without a TEXT", new PricedCopies().codeOf(-1), STATE);
        dueCode(repeat("a", 17), "aA8=8");
        dueCode("d", "d");
        dueCode(repeat("abc", 4), "abcC2=7");
        dueCode("aabbaabbccddaabbaabbccdd", "aabbD4ccddL4=8");
    }

    private static void dueCode(String text, String code) {
        PricedCopies x = withText(text);
        for (int i = 0; i < code.length(); i++) due("codeOf(" + i + ") of " + text, x.codeOf(i), code.charAt(i));
        due("codeOf() behind the end", x.codeOf(code.length()), NONE);
        due("codeOf(-1)", x.codeOf(-1), NONE);
        for (int far : FAR) due("codeOf(far)", x.codeOf(far), NONE);
        due("cheapest(2) of " + text, x.cheapest(2), code.length());
        write(x, code);
        due("priced() of CHEAPEST", x.priced(), x.cheapest(0));
        due("decode() of CHEAPEST", x.decode(), text.length());
        dueText(x, text);
    }

    private static void dueGreedy(String text, int price, int tokens) {
        PricedCopies x = withText(text);
        due("greedy(0) of " + text, x.greedy(0), price);
        due("greedy(1) of " + text, x.greedy(1), tokens);
    }

    private static void promise17Greedy() {
        dueGreedy("a", 8, 1);
        dueGreedy("abcd", 32, 4);
        dueGreedy(repeat("abc", 4), 24 + 10 + 8, 5);
        dueGreedy(repeat("a", 17), 8 + 9 + 6, 3);
        // a b, then 2 back, c c PLAIN, then 4 back, which is another DISTANCE
        dueGreedy("ababccabcc", 16 + 8 + 16 + 10, 6);
        // AGAIN also with a PLAIN one between
        dueGreedy("ababcbcb", 16 + 8 + 8 + 4, 5);
        PricedCopies x = withText(repeat("a", 17));
        x.price(4, 30);
        x.price(17, 30);
        due("greedy(0) is by PRICES as they are", x.greedy(0), 8 + 30 + 2 + 3 + 30 + 3);
        due("greedy(1) heeds no PRICE", x.greedy(1), 3);
        due("greedy(-1)", x.greedy(-1), OUTSIDE);
        due("greedy(2)", x.greedy(2), OUTSIDE);
        for (int far : FAR) due("greedy(far)", x.greedy(far), OUTSIDE);
        due("greedy(0) without a TEXT", new PricedCopies().greedy(0), STATE);
        due("greedy(2) without a TEXT", new PricedCopies().greedy(2), STATE);
    }

    private static void dueParts(String text, int n, int price, int number, int more) {
        PricedCopies x = withText(text);
        due("parts(" + n + ", 0) of " + text, x.parts(n, 0), price);
        due("parts(" + n + ", 1) of " + text, x.parts(n, 1), number);
        due("parts(" + n + ", 2) of " + text, x.parts(n, 2), more);
    }

    private static void promise18Parts() {
        dueParts("aaaaaaaa", 1, 64, 8, 64 - 17);
        dueParts("aaaaaaaa", 2, 64, 4, 64 - 17);
        dueParts("aaaaaaaa", 3, 15 + 15 + 16, 3, 46 - 17);
        dueParts("aaaaaaaa", 4, 30, 2, 13);
        dueParts("aaaaaaaa", 7, 17 + 8, 2, 8);
        dueParts("aaaaaaaa", 8, 17, 1, 0);
        dueParts("aaaaaaaa", 24, 17, 1, 0);
        dueParts(repeat("a", 24), 24, 8 + 9 + 6 + 6, 1, 0);
        dueParts(repeat("a", 24), 23, 8 + 9 + 6 + 6 + 8, 2, 8);
        // no part may copy from one ahead of it
        dueParts("abcdabcd", 4, 64, 2, 64 - 32 - 10);
        PricedCopies x = withText("aaaa");
        due("parts(0, 0)", x.parts(0, 0), OUTSIDE);
        due("parts(25, 0)", x.parts(25, 0), OUTSIDE);
        due("parts(1, -1)", x.parts(1, -1), OUTSIDE);
        due("parts(1, 3)", x.parts(1, 3), OUTSIDE);
        for (int far : FAR) due("parts(far, 0)", x.parts(far, 0), OUTSIDE);
        for (int far : FAR) due("parts(1, far)", x.parts(1, far), OUTSIDE);
        due("cheapest(0) behind parts()", x.cheapest(0), 15);
        due("parts(1, 0) without a TEXT", new PricedCopies().parts(1, 0), STATE);
        due("parts(0, 3) without a TEXT", new PricedCopies().parts(0, 3), STATE);
    }

    private static void dueCounts(String where, PricedCopies x, int... counts) {
        for (int what = 0; what < 8; what++) due(where + ": count(" + what + ")", x.count(what), counts[what]);
    }

    private static void promise19Count() {
        PricedCopies x = new PricedCopies();
        dueCounts("new", x, 0, 0, 0, 0, 0, 0, 0, 0);
        write(x, "aabbaabbccddaabbaabbccdd");
        dueCounts("page", x, 24, 0, 0, 0, 0, 0, 0, 0);
        x.text();
        dueCounts("text", x, 0, 24, 8, 1, 2, 0, 1, 0);
        write(x, "aA8=8");
        dueCounts("text and page", x, 5, 24, 8, 1, 2, 0, 1, 0);
        x.decode();
        dueCounts("decoded", x, 0, 17, 1, 1, 1, 0, 1, 1);
        x.price(17, 30);
        dueCounts("AGAIN dear", x, 0, 17, 1, 0, 2, 0, 1, 1);
        x.round();
        x.round();
        due("count(5) behind two ROUNDS", x.count(5), 2);
        due("count(-1)", x.count(-1), OUTSIDE);
        due("count(8)", x.count(8), OUTSIDE);
        for (int far : FAR) due("count(far)", x.count(far), OUTSIDE);
    }

    private static void promise20Digest() {
        PricedCopies x = new PricedCopies();
        due("digest() of a new object", x.digest(), mixed(8, 8, 8, 8, 4, 2, 3, 4, 5, 6, 1, 1, 2, 2, 3, 3, 3, 3,
            0, 0, 0, 0, 0, 0, 0, 0));
        write(x, "aaaa");
        due("digest() of a page", x.digest(), mixed(8, 8, 8, 8, 4, 2, 3, 4, 5, 6, 1, 1, 2, 2, 3, 3, 3, 3,
            97, 97, 97, 97, 4, 0, 0, 0, 0, 0, 0, 0));
        x.text();
        write(x, "=~");
        x.price(3, 9);
        due("digest() of aaaa", x.digest(), mixed(8, 8, 8, 9, 4, 2, 3, 4, 5, 6, 1, 1, 2, 2, 3, 3, 3, 3,
            0, 0, 0, -1, -1,
            0, 3, 1, 0, -1,
            0, 2, 1, 1, 0,
            0, 0, 0, -1, -1,
            15, 2, 3, 0, 1013,
            15, 2,
            2, 4, 4,
            15, 15,
            61, 126,
            2, 4, 1, 0, 1, 0, 1, 0));
        long before = x.digest();
        due("digest() changes nothing", x.digest(), before);
    }

    /** Every refusal, without a TEXT and with one. */
    private static void refusalsChangeNothing() {
        PricedCopies bare = withPage("aA");
        long before = bare.digest();
        refuseWithoutText(bare);
        due("digest behind refusals without a TEXT", bare.digest(), before);
        PricedCopies x = withText("abcabcabc");
        write(x, repeat("a", 29) + "?");
        x.round();
        before = x.digest();
        due("refused letter, outside", x.letter(31), OUTSIDE);
        due("refused letter, full", x.letter(97), FULL);
        due("refused text", x.text(), STATE);
        due("refused decode", x.decode(), STATE);
        due("refused priced", x.priced(), STATE);
        due("refused price, what", x.price(18, 3), UNKNOWN);
        due("refused price, v", x.price(3, 31), OUTSIDE);
        due("refused rest", x.rest(3), OUTSIDE);
        due("refused longest", x.longest(0, 2), OUTSIDE);
        due("refused cheapest", x.cheapest(9), OUTSIDE);
        due("refused greedy", x.greedy(2), OUTSIDE);
        due("refused parts", x.parts(25, 0), OUTSIDE);
        due("refused count", x.count(8), OUTSIDE);
        due("digest behind refusals", x.digest(), before);
    }

    private static void refuseWithoutText(PricedCopies x) {
        due("bare text", x.text(), STATE);
        due("bare decode", x.decode(), STATE);
        due("bare round", x.round(), STATE);
        due("bare rest", x.rest(0), STATE);
        due("bare cheapest", x.cheapest(0), STATE);
        due("bare codeOf", x.codeOf(0), STATE);
        due("bare greedy", x.greedy(0), STATE);
        due("bare parts", x.parts(1, 0), STATE);
        due("bare at", x.at(0), UNKNOWN);
        due("bare longest", x.longest(0, 0), UNKNOWN);
        due("bare chain", x.chain(0, 0), UNKNOWN);
    }
}

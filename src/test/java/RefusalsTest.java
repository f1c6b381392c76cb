import java.util.function.ToIntFunction;

/** The sentence on refusals, call by call, and what holds up to the 512th call. */
public final class RefusalsTest {
    private static final int NONE = Due.NONE, UNKNOWN = Due.UNKNOWN, OUTSIDE = Due.OUTSIDE;
    private static final int STATE = Due.STATE, FULL = Due.FULL;
    private static final int[] WRONG = {Integer.MIN_VALUE, -1, 99, Integer.MAX_VALUE};

    public static void main(String[] args) {
        Due.sentence("R1", "of several the first: letter OUTSIDE, FULL", RefusalsTest::letterOrder);
        Due.sentence("R2", "of several the first: price UNKNOWN, OUTSIDE", RefusalsTest::priceOrder);
        Due.sentence("R3", "of several the first: rest STATE, OUTSIDE", RefusalsTest::restOrder);
        Due.sentence("R4", "of several the first: longest UNKNOWN, OUTSIDE", RefusalsTest::longestOrder);
        Due.sentence("R5", "of several the first: cheapest STATE, OUTSIDE", RefusalsTest::cheapestOrder);
        Due.sentence("R6", "of several the first: greedy STATE, OUTSIDE", RefusalsTest::greedyOrder);
        Due.sentence("R7", "of several the first: parts STATE, OUTSIDE", RefusalsTest::partsOrder);
        Due.sentence("R8", "a refusal goes before NONE: chain, codeOf, cheapest", RefusalsTest::refusalBeforeNone);
        Due.sentence("R9", "UNKNOWN: they change nothing", RefusalsTest::unknownChangesNothing);
        Due.sentence("R10", "OUTSIDE: they change nothing", RefusalsTest::outsideChangesNothing);
        Due.sentence("R11", "STATE: they change nothing", RefusalsTest::stateChangesNothing);
        Due.sentence("R12", "FULL: they change nothing", RefusalsTest::fullChangesNothing);
        Due.sentence("C1", "used for at most 512 calls: ROUNDS", RefusalsTest::rounds512);
        Due.sentence("C2", "used for at most 512 calls: TEXTS and CODES", RefusalsTest::texts512);
        Due.sentence("C3", "used for at most 512 calls: THE PAGE", RefusalsTest::page512);
        Due.sentence("C4", "used for at most 512 calls: PRICES, CHEAPEST, digest", RefusalsTest::prices512);
        Due.end();
    }

    // ---- of several the first

    private static void letterOrder() {
        PricedCopies x = Due.page("a".repeat(30));
        Due.is("letter(31) of a full page", x.letter(31), OUTSIDE);
        Due.is("letter(127) of a full page", x.letter(127), OUTSIDE);
        for (int wrong : WRONG) if (wrong != 99) Due.is("letter(" + wrong + ") of a full page", x.letter(wrong), OUTSIDE);
        Due.is("letter(32) of a full page", x.letter(32), FULL);
        Due.is("letter(126) of a full page", x.letter(126), FULL);
    }

    private static void priceOrder() {
        PricedCopies x = new PricedCopies();
        for (int what : new int[] {-1, 18, 99}) {
            for (int v : new int[] {0, 31, -1, Integer.MAX_VALUE}) {
                Due.is("price(" + what + ", " + v + ")", x.price(what, v), UNKNOWN);
            }
        }
        Due.is("price(17, 31)", x.price(17, 31), OUTSIDE);
    }

    private static void restOrder() {
        PricedCopies x = new PricedCopies();
        for (int what : WRONG) Due.is("rest(" + what + ") without a TEXT", x.rest(what), STATE);
        Due.is("rest(3) without a TEXT", x.rest(3), STATE);
        Due.is("rest(3) with a TEXT", Due.text("a").rest(3), OUTSIDE);
    }

    private static void longestOrder() {
        for (int what : WRONG) {
            Due.is("longest(0, " + what + ") without a TEXT", new PricedCopies().longest(0, what), UNKNOWN);
            Due.is("longest(2, " + what + ") of ab", Due.text("ab").longest(2, what), UNKNOWN);
            Due.is("longest(-1, " + what + ") of ab", Due.text("ab").longest(-1, what), UNKNOWN);
            Due.is("longest(1, " + what + ") of ab", Due.text("ab").longest(1, what), OUTSIDE);
        }
    }

    private static void cheapestOrder() {
        PricedCopies x = new PricedCopies();
        for (int what : WRONG) Due.is("cheapest(" + what + ") without a TEXT", x.cheapest(what), STATE);
        for (int what : new int[] {3, 9, 34}) {
            Due.is("cheapest(" + what + ") without a TEXT", x.cheapest(what), STATE);
            Due.is("cheapest(" + what + ") with a TEXT", Due.text("a").cheapest(what), OUTSIDE);
        }
    }

    private static void greedyOrder() {
        PricedCopies x = new PricedCopies();
        for (int what : WRONG) Due.is("greedy(" + what + ") without a TEXT", x.greedy(what), STATE);
        Due.is("greedy(2) without a TEXT", x.greedy(2), STATE);
        Due.is("greedy(2) with a TEXT", Due.text("a").greedy(2), OUTSIDE);
    }

    private static void partsOrder() {
        PricedCopies x = new PricedCopies();
        for (int wrong : WRONG) {
            Due.is("parts(" + wrong + ", 0) without a TEXT", x.parts(wrong, 0), STATE);
            Due.is("parts(1, " + wrong + ") without a TEXT", x.parts(1, wrong), STATE);
            Due.is("parts(" + wrong + ", " + wrong + ") without a TEXT", x.parts(wrong, wrong), STATE);
        }
        Due.is("parts(0, 3) without a TEXT", x.parts(0, 3), STATE);
        Due.is("parts(25, 0) without a TEXT", x.parts(25, 0), STATE);
        Due.is("parts(0, 3) with a TEXT", Due.text("a").parts(0, 3), OUTSIDE);
    }

    private static void refusalBeforeNone() {
        PricedCopies none = new PricedCopies();
        Due.is("chain(0, -1) without a TEXT", none.chain(0, -1), UNKNOWN);
        Due.is("codeOf(-1) without a TEXT", none.codeOf(-1), STATE);
        Due.is("cheapest(33) without a TEXT", none.cheapest(33), STATE);
        PricedCopies x = Due.text("a");
        Due.is("chain(1, -1) of a", x.chain(1, -1), UNKNOWN);
        Due.is("chain(0, -1) of a", x.chain(0, -1), NONE);
        Due.is("codeOf(-1) of a", x.codeOf(-1), NONE);
        Due.is("cheapest(33) of a", x.cheapest(33), NONE);
    }

    // ---- they change nothing

    /** What tells objects apart: the digest, and what it leaves out; few calls, as an object has 512 of them. */
    private static String all(PricedCopies x) {
        StringBuilder all = new StringBuilder();
        for (int place = 0; place < 24; place++) {
            all.append(x.chain(place, 2)).append(' ').append(x.codeOf(place)).append(' ');
            all.append(x.parts(1 + place, 0)).append(' ');
        }
        for (int what = 0; what <= 2; what++) all.append(x.cheapest(what)).append(' ').append(x.rest(what)).append(' ');
        for (int what = 0; what <= 7; what++) all.append(x.count(what)).append(' ');
        all.append(x.fault(false)).append(' ').append(x.fault(true)).append(' ').append(x.priced()).append(' ');
        return all.append(x.digest()).toString();
    }

    private static final String[] TEXTS = {"", "d", "abcabcabcabc", "aabbaabbccddaabbaabbccdd"};

    /** An object in one of several states: TEXTS by PAGES, PRICES others at every second one. */
    private static PricedCopies state(int text, String page) {
        PricedCopies x = new PricedCopies();
        if (!TEXTS[text].isEmpty()) Due.retext(x, TEXTS[text]);
        if (text % 2 == 0) x.price(4, 6);
        if (text == 3) x.round();
        Due.write(x, page);
        return x;
    }

    private static void dueUnchanged(String call, int text, String page, int refusal, ToIntFunction<PricedCopies> refused) {
        String where = call + " with TEXT '" + TEXTS[text] + "' and page '" + page + "'";
        PricedCopies x = state(text, page);
        Due.is(where, refused.applyAsInt(x), refusal);
        PricedCopies asked = state(text, page);
        String before = all(asked);
        Due.is(where + " when all was asked", refused.applyAsInt(asked), refusal);
        Due.is("nothing has changed by " + where, all(x).equals(before) && all(asked).equals(before) ? 1 : 0, 1);
        // nor does what comes behind it
        PricedCopies twin = state(text, page);
        Due.is("letter('2') behind " + where, x.letter('2'), twin.letter('2'));
        Due.is("decode() behind " + where, x.decode(), twin.decode());
        Due.is("text() behind " + where, x.text(), twin.text());
        Due.is("round() behind " + where, x.round(), twin.round());
        Due.is("all is alike behind " + where, all(x).equals(all(twin)) ? 1 : 0, 1);
    }

    private static void unknownChangesNothing() {
        for (int text = 0; text < TEXTS.length; text++) {
            for (String page : new String[] {"", "aA", "abcd"}) {
                dueUnchanged("price(18, 5)", text, page, UNKNOWN, x -> x.price(18, 5));
                dueUnchanged("price(-1, 5)", text, page, UNKNOWN, x -> x.price(-1, 5));
                dueUnchanged("priceOf(18)", text, page, UNKNOWN, x -> x.priceOf(18));
                dueUnchanged("at(24)", text, page, UNKNOWN, x -> x.at(24));
                dueUnchanged("longest(24, 0)", text, page, UNKNOWN, x -> x.longest(24, 0));
                dueUnchanged("chain(24, 0)", text, page, UNKNOWN, x -> x.chain(24, 0));
            }
        }
    }

    private static void outsideChangesNothing() {
        for (int text = 0; text < TEXTS.length; text++) {
            for (String page : new String[] {"", "aA", "abcd"}) {
                dueUnchanged("letter(31)", text, page, OUTSIDE, x -> x.letter(31));
                dueUnchanged("letter(127)", text, page, OUTSIDE, x -> x.letter(127));
                dueUnchanged("price(0, 0)", text, page, OUTSIDE, x -> x.price(0, 0));
                dueUnchanged("price(17, 31)", text, page, OUTSIDE, x -> x.price(17, 31));
                dueUnchanged("count(8)", text, page, OUTSIDE, x -> x.count(8));
                if (text == 0) continue;
                dueUnchanged("rest(3)", text, page, OUTSIDE, x -> x.rest(3));
                dueUnchanged("longest(0, 2)", text, page, OUTSIDE, x -> x.longest(0, 2));
                dueUnchanged("cheapest(9)", text, page, OUTSIDE, x -> x.cheapest(9));
                dueUnchanged("greedy(2)", text, page, OUTSIDE, x -> x.greedy(2));
                dueUnchanged("parts(25, 0)", text, page, OUTSIDE, x -> x.parts(25, 0));
                dueUnchanged("parts(1, 3)", text, page, OUTSIDE, x -> x.parts(1, 3));
            }
        }
    }

    private static void stateChangesNothing() {
        String[] neither = {"", "e", "aA", "aA2=", "a=2", "aA9", "a".repeat(25), "aA8A8A8", "z".repeat(30)};
        for (int text = 0; text < TEXTS.length; text++) {
            for (String page : neither) {
                dueUnchanged("text()", text, page, STATE, x -> x.text());
                dueUnchanged("decode()", text, page, STATE, x -> x.decode());
                dueUnchanged("priced()", text, page, STATE, x -> x.priced());
            }
            dueUnchanged("text()", text, "aA2", STATE, x -> x.text());
        }
        for (String page : new String[] {"", "aA", "abcd"}) {
            dueUnchanged("round()", 0, page, STATE, x -> x.round());
            dueUnchanged("rest(0)", 0, page, STATE, x -> x.rest(0));
            dueUnchanged("cheapest(0)", 0, page, STATE, x -> x.cheapest(0));
            dueUnchanged("codeOf(0)", 0, page, STATE, x -> x.codeOf(0));
            dueUnchanged("greedy(0)", 0, page, STATE, x -> x.greedy(0));
            dueUnchanged("parts(1, 0)", 0, page, STATE, x -> x.parts(1, 0));
        }
    }

    private static void fullChangesNothing() {
        for (int text = 0; text < TEXTS.length; text++) {
            for (String page : new String[] {"a".repeat(30), "abcd".repeat(7) + "aA"}) {
                dueUnchanged("letter('2')", text, page, FULL, x -> x.letter('2'));
                dueUnchanged("letter('b')", text, page, FULL, x -> x.letter('b'));
            }
        }
    }

    // ---- up to the 512th call

    private static void rounds512() {
        PricedCopies x = new PricedCopies();
        x.letter('a');
        x.text();
        Due.is("round() 1", x.round(), 17);
        for (int calls = 3; calls < 511; calls++) Due.is("round(), call " + (calls + 1), x.round(), 0);
        Due.is("count(5), the 512th call", x.count(5), 509);
    }

    private static void texts512() {
        PricedCopies x = new PricedCopies();
        for (int i = 0; i < 255; i++) {
            x.letter('a' + i % 4);
            Due.is("text()", x.text(), 1);
        }
        Due.is("count(6), call 511", x.count(6), 255);
        Due.is("at(0), the 512th call", x.at(0), 2);
        PricedCopies y = new PricedCopies();
        for (int i = 0; i < 255; i++) {
            y.letter('a' + i % 4);
            Due.is("decode()", y.decode(), 1);
        }
        Due.is("count(7), call 511", y.count(7), 255);
        Due.is("at(0), the 512th call", y.at(0), 2);
    }

    private static void page512() {
        PricedCopies x = new PricedCopies();
        for (int i = 0; i < 511; i++) Due.is("letter " + (i + 1), x.letter('b'), i < 30 ? i + 1 : FULL);
        Due.is("blank(), the 512th call", x.blank(), 30);
        PricedCopies y = new PricedCopies();
        for (int i = 0; i < 16; i++) {
            for (int n = 1; n <= 30; n++) Due.is("letter " + n, y.letter('b'), n);
            Due.is("blank()", y.blank(), 30);
        }
        for (int n = 1; n <= 16; n++) Due.is("letter " + n + " at the end", y.letter('b'), n);
    }

    private static void prices512() {
        PricedCopies x = Due.text("aaaa");
        for (int i = 0; i < 253; i++) {
            x.price(0, i % 2 == 0 ? 1 : 8);
            Due.is("cheapest(0)", x.cheapest(0), i % 2 == 0 ? 4 : 15);
        }
        PricedCopies fresh = Due.text("aaaa");
        fresh.price(0, 1);
        Due.is("digest(), the 512th call", x.digest(), fresh.digest());
    }
}

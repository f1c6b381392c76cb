import java.util.ArrayList;
import java.util.List;

/**
 * What the sentence tests share: one sentence of the document at a time, the answers that are due
 * under it, and short ways to bring an object where a sentence speaks of it.
 */
final class Due {
    static final int NONE = -1, UNKNOWN = -1001, OUTSIDE = -1002, STATE = -1003, FULL = -1004;
    static final int[] FIRST_PRICES = {8, 8, 8, 8, 4, 2, 3, 4, 5, 6, 1, 1, 2, 2, 3, 3, 3, 3};
    /** Numbers that no call knows; some are a lawful one again, if they are cut to 8 or 16 bits. */
    static final int[] FAR = {
        Integer.MIN_VALUE, Integer.MIN_VALUE + 1, -65536, -256, -2, 256, 257, 65536, 65537, Integer.MAX_VALUE};

    private static final List<String> broken = new ArrayList<>();
    private static String current = "";
    private static int sentences = 0;
    private static int checks = 0;
    private static int wrong = 0;

    private Due() {
    }

    /** Tests one sentence; what it throws breaks the sentence too, and the next one is tested all the same. */
    static void sentence(String id, String words, Runnable test) {
        current = id + " \"" + words + "\"";
        sentences++;
        int wrongBefore = wrong;
        int checksBefore = checks;
        try {
            test.run();
        } catch (RuntimeException e) {
            fault("threw " + e);
        }
        if (checks == checksBefore) fault("was not tested");
        if (wrong > wrongBefore) broken.add(id);
    }

    static void is(String call, long got, long want) {
        checks++;
        if (got != want) fault(call + " answered " + got + ", due is " + want);
    }

    private static void fault(String what) {
        wrong++;
        if (wrong <= 200) System.out.println(current + ": " + what);
    }

    /** Ends the program: exit code 1, if a sentence is broken. */
    static void end() {
        if (!broken.isEmpty()) System.out.println("broken: " + String.join(" ", broken));
        System.out.println(sentences + " sentences, " + checks + " checks, " + wrong + " wrong");
        System.exit(broken.isEmpty() ? 0 : 1);
    }

    // ---- objects brought somewhere

    static void write(PricedCopies x, String page) {
        for (int i = 0; i < page.length(); i++) is("letter of '" + page + "'", x.letter(page.charAt(i)) < 0 ? 0 : 1, 1);
    }

    static PricedCopies page(String page) {
        PricedCopies x = new PricedCopies();
        write(x, page);
        return x;
    }

    static PricedCopies text(String text) {
        PricedCopies x = new PricedCopies();
        retext(x, text);
        return x;
    }

    static void retext(PricedCopies x, String text) {
        write(x, text);
        is("text() of " + text, x.text(), text.length());
    }

    static void setPrices(PricedCopies x, int... prices) {
        for (int i = 0; i < prices.length; i++) x.price(i, prices[i]);
    }

    // ---- rows of answers

    static void text(PricedCopies x, String text) {
        is("count(1) of " + text, x.count(1), text.length());
        for (int i = 0; i < text.length(); i++) is("at(" + i + ") of " + text, x.at(i), text.charAt(i) - 'a');
        is("at() behind " + text, x.at(text.length()), UNKNOWN);
    }

    static void prices(String where, PricedCopies x, int... prices) {
        for (int i = 0; i < 18; i++) is(where + ": priceOf(" + i + ")", x.priceOf(i), prices[i]);
    }

    static void tokens(String where, PricedCopies x, int... tokens) {
        is(where + ": cheapest(1)", x.cheapest(1), tokens.length);
        for (int i = 0; i < 24; i++) {
            is(where + ": cheapest(" + (10 + i) + ")", x.cheapest(10 + i), i < tokens.length ? tokens[i] : NONE);
        }
    }

    static void counts(String where, PricedCopies x, int... counts) {
        for (int what = 0; what < 8; what++) is(where + ": count(" + what + ")", x.count(what), counts[what]);
    }
}

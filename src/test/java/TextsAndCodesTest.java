/** Sentences on TEXTS and CODES, and promises 1 to 7: each with a test of its own, reckoned by hand. */
public final class TextsAndCodesTest {
    private static final int UNKNOWN = Due.UNKNOWN, OUTSIDE = Due.OUTSIDE, STATE = Due.STATE, FULL = Due.FULL;

    /** 24 letters; no two of its first 16 PLACES begin the same pair. */
    private static final String LONG = "aabacadbbcbdccddacbadbca";
    /** A CODE of 24 letters "a". */
    private static final String FULL_CODE = "aA8A8A7";

    public static void main(String[] args) {
        texts();
        tokens();
        newObject();
        pages();
        faults();
        readTexts();
        readCodes();
        pricedCodes();
        Due.end();
    }

    private static String letters(int n) {
        return LONG.substring(0, n);
    }

    private static char copySign(int distance) {
        return (char) ('A' + distance - 1);
    }

    private static void dueFault(String page, int ofText, int ofCode) {
        PricedCopies x = Due.page(page);
        Due.is("fault(false) of '" + page + "'", x.fault(false), ofText);
        Due.is("fault(true) of '" + page + "'", x.fault(true), ofCode);
    }

    private static void dueCodeFault(String page, int place) {
        Due.is("fault(true) of '" + page + "'", Due.page(page).fault(true), place);
    }

    private static void dueDecoded(String code, String text) {
        PricedCopies x = Due.page(code);
        Due.is("decode() of " + code, x.decode(), text.length());
        Due.text(x, text);
    }

    private static void dueNoText(String page) {
        Due.is("text() of '" + page + "'", Due.page(page).text(), STATE);
    }

    private static void dueNoCode(String page) {
        Due.is("decode() of '" + page + "'", Due.page(page).decode(), STATE);
        Due.is("priced() of '" + page + "'", Due.page(page).priced(), STATE);
    }

    // ---- what a TEXT is

    private static void texts() {
        Due.sentence("T1", "A TEXT is one to 24 letters", TextsAndCodesTest::oneTo24Letters);
        Due.sentence("T2", "letters \"a\" to \"d\"", TextsAndCodesTest::lettersAToD);
        Due.sentence("T3", "(numbered 0 to 3), PLACES from 0", TextsAndCodesTest::numbersAndPlaces);
    }

    private static void oneTo24Letters() {
        dueNoText("");
        for (int n = 1; n <= 24; n++) Due.text(Due.text(letters(n)), letters(n));
        dueNoText(LONG + "a");
        dueNoText(LONG + "abcdab");
    }

    private static void lettersAToD() {
        for (int code = 32; code <= 126; code++) {
            boolean lawful = code == 'a' || code == 'b' || code == 'c' || code == 'd';
            PricedCopies x = new PricedCopies();
            x.letter(code);
            Due.is("text() of the letter " + code, x.text(), lawful ? 1 : STATE);
            x = Due.page("ab");
            x.letter(code);
            Due.is("text() of ab and the letter " + code, x.text(), lawful ? 3 : STATE);
        }
    }

    private static void numbersAndPlaces() {
        PricedCopies x = Due.text("dabc");
        Due.is("at(0) of dabc", x.at(0), 3);
        Due.is("at(1) of dabc", x.at(1), 0);
        Due.is("at(2) of dabc", x.at(2), 1);
        Due.is("at(3) of dabc", x.at(3), 2);
        Due.is("at(-1) of dabc", x.at(-1), UNKNOWN);
        Due.is("at(4) of dabc", x.at(4), UNKNOWN);
    }

    // ---- what TOKENS and CODES are

    private static void tokens() {
        Due.sentence("T4", "COPY, by a DISTANCE (1 to 24) .. as A to X", TextsAndCodesTest::distances1To24);
        Due.sentence("T5", "and a LENGTH (2 to 8) .. and a figure", TextsAndCodesTest::lengths2To8);
        Due.sentence("T6", "each the one that stands DISTANCE ahead of it", TextsAndCodesTest::copiesFromAhead);
        Due.sentence("T7", "(also one that came by this COPY)", TextsAndCodesTest::copiesOfThemselves);
        Due.sentence("T8", "AGAIN: a COPY by the DISTANCE of the latest COPY", TextsAndCodesTest::againByTheLatest);
        Due.sentence("T9", "no COPY by a DISTANCE greater than how many letters there are then",
            TextsAndCodesTest::noCopyFromAheadOfAll);
        Due.sentence("T10", "no AGAIN ahead of all COPIES", TextsAndCodesTest::noAgainAheadOfCopies);
        Due.sentence("T11", "nothing beyond 24 letters: PLAIN", TextsAndCodesTest::noPlainBeyond24);
        Due.sentence("T12", "nothing beyond 24 letters: COPY", TextsAndCodesTest::noCopyBeyond24);
        Due.sentence("T13", "nothing beyond 24 letters: AGAIN", TextsAndCodesTest::noAgainBeyond24);
    }

    private static void distances1To24() {
        for (int distance = 2; distance <= 22; distance++) {
            int from = 22 - distance;
            dueDecoded(letters(22) + copySign(distance) + "2", letters(22) + LONG.substring(from, from + 2));
        }
        dueDecoded(letters(22) + "A2", letters(22) + "bb");
        // DISTANCES 23 and 24 have no room for a LENGTH, but a CODE's letter they are
        dueCodeFault(letters(23) + "W", 24);
        dueCodeFault(letters(24) + "X", 25);
        for (String sign : new String[] {"@", "Y", "Z", "[", "?", "<", ">", "e", "`", " ", "~", "0", "1", "2", "9"}) {
            dueCodeFault(letters(24) + sign, 24);
            dueCodeFault(letters(20) + sign + "2", 20);
            dueNoCode(letters(20) + sign + "2");
        }
    }

    private static void lengths2To8() {
        for (int code = 32; code <= 126; code++) {
            boolean lawful = code >= '2' && code <= '8';
            PricedCopies copy = Due.page("abB");
            copy.letter(code);
            Due.is("fault(true) of abB and the figure " + code, copy.fault(true), lawful ? 4 : 3);
            Due.is("decode() of abB and the figure " + code, copy.decode(), lawful ? 2 + code - '0' : STATE);
            PricedCopies again = Due.page("abB2=");
            again.letter(code);
            Due.is("fault(true) of abB2= and the figure " + code, again.fault(true), lawful ? 6 : 5);
            Due.is("decode() of abB2= and the figure " + code, again.decode(), lawful ? 4 + code - '0' : STATE);
        }
    }

    private static void copiesFromAhead() {
        dueDecoded("abcdD4", "abcdabcd");
        dueDecoded("abcdD2", "abcdab");
        dueDecoded("abcdC2", "abcdbc");
        dueDecoded("abcdB2", "abcdcd");
        dueDecoded("abcdD3D3", "abcdabcdab");
        dueDecoded("dcbaD2F4", "dcbadcdcba");
    }

    private static void copiesOfThemselves() {
        dueDecoded("aA2", "aaa");
        dueDecoded("aA8", "aaaaaaaaa");
        dueDecoded("dcA8", "dccccccccc");
        dueDecoded("abB3", "ababa");
        dueDecoded("abcB5", "abcbcbcb");
        dueDecoded("abcC8", "abcabcabcab");
        dueDecoded("abcdcbaG8", "abcdcbaabcdcbaa");
    }

    private static void againByTheLatest() {
        dueDecoded("abcdC2=2", "abcdbcdb");
        // the latest of two COPIES
        dueDecoded("abcC2B2=3", "abcabababa");
        dueDecoded("abcA2C2=3", "abcccccccc");
        // with a PLAIN one between, behind another AGAIN, of another LENGTH, overlapping itself
        dueDecoded("abB2c=2", "ababcbc");
        dueDecoded("abcC2=2=2", "abcabcabc");
        dueDecoded("aA2=8", "aaaaaaaaaaa");
        dueDecoded("abcC4d=3B2", "abcabcadcadad");
    }

    private static void noCopyFromAheadOfAll() {
        for (int distance = 1; distance <= 22; distance++) {
            String lawful = letters(distance) + copySign(distance) + "2";
            dueCodeFault(lawful, distance + 2);
            String greater = letters(distance - 1) + copySign(distance) + "2";
            dueCodeFault(greater, distance - 1);
            dueNoCode(greater);
        }
        dueCodeFault(letters(22) + "W2", 22);
        dueCodeFault(letters(23) + "X2", 23);
        // letters that came by COPY and AGAIN are there, too: 1 and 8, and 2
        dueCodeFault("aA8I2", 5);
        dueCodeFault("aA8J2", 3);
        dueCodeFault("aA8=2K2", 7);
        dueCodeFault("aA8=2L2", 5);
    }

    private static void noAgainAheadOfCopies() {
        dueCodeFault("=2", 0);
        dueCodeFault("a=2", 1);
        dueCodeFault(letters(22) + "=2", 22);
        dueCodeFault(letters(24) + "=", 24);
        dueNoCode("=2");
        dueNoCode("a=2");
        dueCodeFault("aA2=2", 5);
        // a COPY of a CODE that was read before is none of this one's
        PricedCopies x = Due.page("aA2");
        Due.is("decode() of aA2", x.decode(), 3);
        Due.write(x, "a=2");
        Due.is("fault(true) of a=2 behind another CODE", x.fault(true), 1);
        Due.is("decode() of a=2 behind another CODE", x.decode(), STATE);
    }

    private static void noPlainBeyond24() {
        dueDecoded(letters(24), LONG);
        dueNoCode(letters(24) + "a");
        dueCodeFault(letters(24) + "a", 24);
        dueDecoded("aA8A8A6b", "a".repeat(23) + "b");
        dueNoCode(FULL_CODE + "b");
        dueCodeFault(FULL_CODE + "b", 7);
    }

    private static void noCopyBeyond24() {
        for (int length = 2; length <= 8; length++) {
            String room = letters(24 - length);
            dueDecoded(room + "A" + length, room + room.substring(23 - length).repeat(length));
            dueCodeFault(letters(25 - length) + "A" + length, 26 - length);
            dueNoCode(letters(25 - length) + "A" + length);
        }
        dueNoCode(letters(24) + "A8");
        dueNoCode(FULL_CODE + "A2");
    }

    private static void noAgainBeyond24() {
        for (int length = 2; length <= 8; length++) {
            String room = letters(22 - length);
            String last = room.substring(21 - length);
            dueDecoded(room + "A2=" + length, room + last.repeat(2 + length));
            String narrow = letters(23 - length) + "A2=" + length;
            dueCodeFault(narrow, narrow.length() - 1);
            dueNoCode(narrow);
        }
        dueNoCode(FULL_CODE + "=2");
    }

    // ---- promise 1

    private static void newObject() {
        Due.sentence("P1.1", "A new object: No TEXT.", TextsAndCodesTest::newHasNoText);
        Due.sentence("P1.2", "A new object: nothing of another one's", TextsAndCodesTest::newSharesNothing);
    }

    private static void newHasNoText() {
        PricedCopies x = new PricedCopies();
        Due.counts("new", x, 0, 0, 0, 0, 0, 0, 0, 0);
        Due.is("new: at(0)", x.at(0), UNKNOWN);
        Due.is("new: longest(0, 0)", x.longest(0, 0), UNKNOWN);
        Due.is("new: chain(0, 0)", x.chain(0, 0), UNKNOWN);
        Due.is("new: round()", x.round(), STATE);
        Due.is("new: rest(0)", x.rest(0), STATE);
        Due.is("new: cheapest(0)", x.cheapest(0), STATE);
        Due.is("new: codeOf(0)", x.codeOf(0), STATE);
        Due.is("new: greedy(0)", x.greedy(0), STATE);
        Due.is("new: parts(1, 0)", x.parts(1, 0), STATE);
        Due.is("new: text()", x.text(), STATE);
        Due.is("new: decode()", x.decode(), STATE);
        Due.is("new: priced()", x.priced(), STATE);
        Due.is("new: fault(false)", x.fault(false), 0);
        Due.is("new: fault(true)", x.fault(true), 0);
        Due.is("new: blank()", x.blank(), 0);
    }

    private static void newSharesNothing() {
        PricedCopies used = Due.text("abab");
        used.price(0, 30);
        used.round();
        Due.write(used, "aA2");
        PricedCopies fresh = new PricedCopies();
        Due.prices("new behind another", fresh, Due.FIRST_PRICES);
        Due.counts("new behind another", fresh, 0, 0, 0, 0, 0, 0, 0, 0);
        Due.retext(fresh, "ccc");
        fresh.price(5, 9);
        Due.text(used, "abab");
        Due.is("count(0) of the other one", used.count(0), 3);
        Due.is("priceOf(5) of the other one", used.priceOf(5), 5);
    }

    // ---- promises 2 and 3

    private static void pages() {
        Due.sentence("P2.1", "A letter comes behind THE PAGE: how many THE PAGE has", TextsAndCodesTest::letterBehind);
        Due.sentence("P2.2", "OUTSIDE: code (32 to 126)", TextsAndCodesTest::letterOutside);
        Due.sentence("P2.3", "FULL: above 30", TextsAndCodesTest::letterFull);
        Due.sentence("P3.1", "blank: how many letters it had", TextsAndCodesTest::blankTellsHowMany);
        Due.sentence("P3.2", "blank: THE PAGE is empty", TextsAndCodesTest::blankEmpties);
        Due.sentence("P3.3", "blank: THE PAGE alone", TextsAndCodesTest::blankLeavesTheRest);
    }

    private static void letterBehind() {
        PricedCopies x = new PricedCopies();
        for (int i = 0; i < 24; i++) {
            Due.is("letter " + (i + 1), x.letter(LONG.charAt(i)), i + 1);
            Due.is("count(0) behind letter " + (i + 1), x.count(0), i + 1);
        }
        Due.is("text()", x.text(), 24);
        Due.text(x, LONG);
        Due.is("letter behind text()", x.letter('a'), 1);
    }

    private static void letterOutside() {
        for (int code = 32; code <= 126; code++) {
            Due.is("letter(" + code + ")", new PricedCopies().letter(code), 1);
        }
        PricedCopies x = new PricedCopies();
        for (int code : new int[] {31, 127, 0, -1, 10, 128, 97 + 256, 97 + 65536, 97 - 256, -97}) {
            Due.is("letter(" + code + ")", x.letter(code), OUTSIDE);
        }
        for (int far : Due.FAR) Due.is("letter(" + far + ")", x.letter(far), OUTSIDE);
        Due.is("count(0) behind what is outside", x.count(0), 0);
    }

    private static void letterFull() {
        PricedCopies x = new PricedCopies();
        for (int i = 1; i <= 30; i++) Due.is("letter " + i, x.letter('~'), i);
        Due.is("letter 31", x.letter('~'), FULL);
        Due.is("letter 31 once more", x.letter('a'), FULL);
        Due.is("count(0) of a full page", x.count(0), 30);
        Due.is("blank() of a full page", x.blank(), 30);
        Due.is("letter behind blank()", x.letter('a'), 1);
    }

    private static void blankTellsHowMany() {
        PricedCopies x = new PricedCopies();
        Due.is("blank() of an empty page", x.blank(), 0);
        for (int n = 1; n <= 30; n++) {
            Due.write(x, "?".repeat(n));
            Due.is("blank() of " + n, x.blank(), n);
        }
    }

    private static void blankEmpties() {
        PricedCopies x = Due.page("ab?");
        x.blank();
        Due.is("count(0)", x.count(0), 0);
        Due.is("blank() once more", x.blank(), 0);
        Due.is("text() of nothing", x.text(), STATE);
        Due.write(x, "d");
        Due.is("text() behind blank()", x.text(), 1);
        Due.text(x, "d");
    }

    private static void blankLeavesTheRest() {
        PricedCopies x = Due.text("abab");
        x.price(3, 17);
        Due.write(x, "aA2");
        x.decode();
        x.round();
        int third = x.priceOf(3);
        Due.write(x, "dd?");
        x.blank();
        Due.text(x, "aaa");
        Due.is("priceOf(3) behind blank()", x.priceOf(3), third);
        Due.is("count(5) behind blank()", x.count(5), 1);
        Due.is("count(6) behind blank()", x.count(6), 1);
        Due.is("count(7) behind blank()", x.count(7), 1);
    }

    // ---- promise 4

    private static void faults() {
        Due.sentence("P4.1", "the first letter that no TEXT has there: not a to d", TextsAndCodesTest::textFaultByLetter);
        Due.sentence("P4.2", "the first letter that no TEXT has there: the 25th", TextsAndCodesTest::textFaultByPlace);
        Due.sentence("P4.3", "the first letter that no CODE has there, behind those ahead of it",
            TextsAndCodesTest::codeFaultByLetter);
        Due.sentence("P4.4", "how many letters it has, if there is none", TextsAndCodesTest::noFault);
        Due.sentence("P4.5", "(Of a COPY that would go beyond 24 letters its figure.)", TextsAndCodesTest::figureOfCopy);
        Due.sentence("P4.6", "(Of an AGAIN that would go beyond 24 letters its figure.)", TextsAndCodesTest::figureOfAgain);
        Due.sentence("P4.7", "fault tells alone", TextsAndCodesTest::faultChangesNothing);
    }

    private static void textFaultByLetter() {
        for (int place = 0; place < 24; place++) {
            for (String sign : new String[] {"e", "`", "A", "=", "2", " ", "~"}) {
                String page = letters(place) + sign + letters(3);
                Due.is("fault(false) of '" + page + "'", Due.page(page).fault(false), place);
            }
        }
        Due.is("fault(false) of 'aebe'", Due.page("aebe").fault(false), 1);
        Due.is("fault(false) of 'aA2'", Due.page("aA2").fault(false), 1);
    }

    private static void textFaultByPlace() {
        Due.is("fault(false) of 25 letters", Due.page(LONG + "a").fault(false), 24);
        Due.is("fault(false) of 25 letters, the last an e", Due.page(LONG + "e").fault(false), 24);
        Due.is("fault(false) of 30 letters", Due.page(LONG + "abcdab").fault(false), 24);
        Due.is("fault(false) of 30 letters, one an e", Due.page("abe" + LONG + "abc").fault(false), 2);
    }

    private static void codeFaultByLetter() {
        // where a TOKEN is due
        dueFault("e", 0, 0);
        dueFault("2", 0, 0);
        dueFault("A2", 0, 0);
        dueFault("=2", 0, 0);
        dueFault("a=2", 1, 1);
        dueFault("abe", 2, 2);
        dueFault("ab2", 2, 2);
        dueFault("aB2", 1, 1);
        dueFault("aA22", 1, 3);
        dueFault("aA2=22", 1, 5);
        dueFault("aA2 ", 1, 3);
        dueFault("aA2D2", 1, 3);
        dueFault("aA2C2", 1, 5);
        // where a figure is due
        dueFault("aAa", 1, 2);
        dueFault("aAA", 1, 2);
        dueFault("aA=", 1, 2);
        dueFault("aA1", 1, 2);
        dueFault("aA9", 1, 2);
        dueFault("aA2==", 1, 4);
        dueFault("aA2=1", 1, 4);
        // the first of several
        dueFault("aA9B9e", 1, 2);
        dueFault("ae=", 1, 1);
        dueFault("aA2eA9", 1, 3);
    }

    private static void noFault() {
        dueFault("", 0, 0);
        dueFault("a", 1, 1);
        dueFault(LONG, 24, 24);
        dueFault("aA2", 1, 3);
        dueFault("aA2=8", 1, 5);
        dueFault("aA2b=2", 1, 6);
        dueFault(FULL_CODE, 1, 7);
        // what breaks off has no fault, either
        dueFault("aA", 1, 2);
        dueFault("aA2=", 1, 4);
        dueFault("aA2C", 1, 4);
        dueFault(letters(22) + "V", 22, 23);
    }

    private static void figureOfCopy() {
        dueCodeFault("aA8A8A8", 6);
        dueCodeFault(FULL_CODE, 7);
        for (int length = 2; length <= 8; length++) {
            dueCodeFault(FULL_CODE + "A" + length, 8);
            dueCodeFault(FULL_CODE + "X" + length, 8);
            dueCodeFault("aA8A8A6A" + length, 8);
            dueCodeFault("aA8A8A6W" + length, 8);
            dueCodeFault("aA8A8A5A" + length, length == 2 ? 9 : 8);
            dueCodeFault("aA8A8A5V" + length, length == 2 ? 9 : 8);
            dueCodeFault(letters(24) + "C" + length, 25);
        }
        // the first letter alone is no fault: its figure would be
        dueCodeFault(FULL_CODE + "A", 8);
        dueCodeFault("aA8A8A6W", 8);
        // but a DISTANCE that is too great is one, whatever the figure
        dueCodeFault("aA8A8A6X2", 7);
        dueCodeFault("aA8A8A5W2", 7);
    }

    private static void figureOfAgain() {
        for (int length = 2; length <= 8; length++) {
            dueCodeFault(FULL_CODE + "=" + length, 8);
            dueCodeFault("aA8A8A6=" + length, 8);
            dueCodeFault("aA8A8A5=" + length, length == 2 ? 9 : 8);
        }
        dueCodeFault("aA8=8=7", 7);
        dueCodeFault("aA8=8=8", 6);
        dueCodeFault(FULL_CODE + "=", 8);
    }

    private static void faultChangesNothing() {
        for (String page : new String[] {"", "a", "aA2", "aA", "e", LONG + "abcdab"}) {
            PricedCopies x = Due.text("dcba");
            Due.write(x, page);
            long before = x.digest();
            x.fault(false);
            x.fault(true);
            Due.is("digest() behind fault() of '" + page + "'", x.digest(), before);
            Due.is("count(0) behind fault() of '" + page + "'", x.count(0), page.length());
        }
    }

    // ---- promise 5

    private static void readTexts() {
        Due.sentence("P5.1", "THE PAGE is read as the TEXT: how many letters", TextsAndCodesTest::textIsRead);
        Due.sentence("P5.2", "text: (another one is gone)", TextsAndCodesTest::textReplacesAnother);
        Due.sentence("P5.3", "text: THE PAGE is empty then", TextsAndCodesTest::textEmptiesThePage);
        Due.sentence("P5.4", "text: STATE: it is none", TextsAndCodesTest::textRefused);
    }

    private static void textIsRead() {
        for (int n = 1; n <= 24; n++) {
            PricedCopies x = Due.page(letters(n));
            Due.is("text() of " + n, x.text(), n);
            Due.text(x, letters(n));
        }
    }

    private static void textReplacesAnother() {
        PricedCopies x = Due.text(LONG);
        x.cheapest(0);
        x.rest(0);
        Due.retext(x, "cab");
        Due.text(x, "cab");
        Due.is("longest(3, 0)", x.longest(3, 0), UNKNOWN);
        Due.is("chain(3, 0)", x.chain(3, 0), UNKNOWN);
        Due.tokens("cab behind another", x, 2, 0, 1);
        Due.is("rest(2) of cab", x.rest(2), 3);
        Due.retext(x, "d");
        Due.text(x, "d");
        Due.retext(x, LONG);
        Due.text(x, LONG);
    }

    private static void textEmptiesThePage() {
        PricedCopies x = Due.text("abcd");
        Due.is("count(0) behind text()", x.count(0), 0);
        Due.is("blank() behind text()", x.blank(), 0);
        Due.is("text() once more", x.text(), STATE);
        Due.is("letter behind text()", x.letter('b'), 1);
        Due.is("text() of that letter", x.text(), 1);
        Due.text(x, "b");
    }

    private static void textRefused() {
        for (String page : new String[] {"", "e", "abe", "eab", "aA2", "a ", LONG + "a", LONG + "abcdab"}) {
            PricedCopies x = Due.text("dcba");
            Due.write(x, page);
            long before = x.digest();
            Due.is("text() of '" + page + "'", x.text(), STATE);
            Due.is("digest() behind it", x.digest(), before);
            Due.text(x, "dcba");
            Due.is("count(6) behind it", x.count(6), 1);
            Due.is("blank() behind it", x.blank(), page.length());
        }
    }

    // ---- promise 6

    private static void readCodes() {
        Due.sentence("P6.1", "THE PAGE is read as a CODE: what it makes is the TEXT then: how many letters",
            TextsAndCodesTest::codeIsRead);
        Due.sentence("P6.2", "decode: (another one is gone)", TextsAndCodesTest::decodeReplacesAnother);
        Due.sentence("P6.3", "decode: THE PAGE is empty then", TextsAndCodesTest::decodeEmptiesThePage);
        Due.sentence("P6.4", "decode: STATE: it is none", TextsAndCodesTest::decodeRefused);
        Due.sentence("P6.5", "decode: (also one that breaks off", TextsAndCodesTest::decodeRefusesWhatBreaksOff);
        Due.sentence("P6.6", "decode: one TOKEN at least)", TextsAndCodesTest::decodeRefusesNothing);
    }

    private static void codeIsRead() {
        for (int n = 1; n <= 24; n++) dueDecoded(letters(n), letters(n));
        dueDecoded(FULL_CODE, "a".repeat(24));
        dueDecoded("aA8=8=7", "a".repeat(24));
        dueDecoded("abB8=8=6", "ab".repeat(12));
        dueDecoded("abcC4d=3B2", "abcabcadcadad");
        PricedCopies x = Due.page("abB2");
        x.decode();
        Due.is("longest(2, 0) of abab", x.longest(2, 0), 2);
        Due.tokens("abab behind decode()", x, 0, 1, 1022);
    }

    private static void decodeReplacesAnother() {
        PricedCopies x = Due.text(LONG);
        x.cheapest(0);
        x.rest(0);
        Due.write(x, "cA2");
        Due.is("decode() of cA2", x.decode(), 3);
        Due.text(x, "ccc");
        Due.tokens("ccc behind another", x, 2, 1012);
        Due.is("rest(2) of ccc", x.rest(2), 3);
        Due.write(x, "d");
        Due.is("decode() of d", x.decode(), 1);
        Due.text(x, "d");
    }

    private static void decodeEmptiesThePage() {
        PricedCopies x = Due.page("aA8");
        x.decode();
        Due.is("count(0) behind decode()", x.count(0), 0);
        Due.is("decode() once more", x.decode(), STATE);
        Due.is("letter behind decode()", x.letter('b'), 1);
        Due.is("decode() of that letter", x.decode(), 1);
        Due.text(x, "b");
    }

    private static void dueDecodeRefused(String page) {
        PricedCopies x = Due.text("dcba");
        Due.write(x, page);
        long before = x.digest();
        Due.is("decode() of '" + page + "'", x.decode(), STATE);
        Due.is("digest() behind it", x.digest(), before);
        Due.text(x, "dcba");
        Due.is("count(7) behind it", x.count(7), 0);
        Due.is("blank() behind it", x.blank(), page.length());
    }

    private static void decodeRefused() {
        for (String page : new String[] {"e", "A2", "=2", "a=2", "aB2", "aA1", "aA9", "aA22", "aA2e", "aAb",
            LONG + "a", "aA8A8A8", FULL_CODE + "a", FULL_CODE + "A2", FULL_CODE + "=2", "a".repeat(30)}) {
            dueDecodeRefused(page);
        }
    }

    private static void decodeRefusesWhatBreaksOff() {
        for (String page : new String[] {"aA", "aA2=", "aA2A", "abB2cB", FULL_CODE + "A", FULL_CODE + "=", LONG + "X"}) {
            dueDecodeRefused(page);
        }
        PricedCopies x = Due.page("aA");
        x.decode();
        x.letter('3');
        Due.is("decode() once the figure is there", x.decode(), 4);
    }

    private static void decodeRefusesNothing() {
        dueDecodeRefused("");
        // also behind a CODE that was read
        PricedCopies x = Due.page("a");
        x.decode();
        Due.is("decode() of nothing", x.decode(), STATE);
        Due.is("count(7)", x.count(7), 1);
    }

    // ---- promise 7

    private static void pricedCodes() {
        Due.sentence("P7.1", "PRICES together of a CODE on THE PAGE", TextsAndCodesTest::pricedTogether);
        Due.sentence("P7.2", "priced: (it stays there)", TextsAndCodesTest::pricedStays);
        Due.sentence("P7.3", "priced: STATE: it is none", TextsAndCodesTest::pricedRefused);
    }

    private static void duePriced(String code, int price) {
        Due.is("priced() of " + code, Due.page(code).priced(), price);
    }

    private static void pricedTogether() {
        duePriced("a", 8);
        duePriced("abcd", 32);
        duePriced(LONG, 24 * 8);
        duePriced("aA8=8", 8 + 4 + 2 + 3 + 3 + 3);
        duePriced("abcC4d=3B2", 24 + 4 + 3 + 2 + 8 + 3 + 1 + 4 + 3 + 1);
        // the dearest CODE there is: 2 PLAIN ones and 11 COPIES at 30 each PRICE; the cheapest one
        PricedCopies x = Due.page("a" + "A2".repeat(11) + "a");
        for (int i = 0; i < 18; i++) x.price(i, 30);
        Due.is("priced() of the dearest", x.priced(), 30 + 11 * 90 + 30);
        for (int i = 0; i < 18; i++) x.price(i, 1);
        x.blank();
        Due.write(x, "c");
        Due.is("priced() of the cheapest", x.priced(), 1);
        x.price(2, 29);
        Due.is("priced() behind price()", x.priced(), 29);
    }

    private static void pricedStays() {
        PricedCopies x = Due.text("dcba");
        Due.write(x, "abB3=2");
        long before = x.digest();
        Due.is("priced()", x.priced(), 16 + 4 + 3 + 1 + 3 + 1);
        Due.is("priced() once more", x.priced(), 28);
        Due.is("digest() behind priced()", x.digest(), before);
        Due.text(x, "dcba");
        Due.is("decode() behind priced()", x.decode(), 7);
        Due.text(x, "abababa");
    }

    private static void pricedRefused() {
        for (String page : new String[] {"", "e", "A2", "a=2", "aB2", "aA", "aA2=", "aA9", "aA2e", LONG + "a",
            "aA8A8A8", FULL_CODE + "A", FULL_CODE + "=2"}) {
            PricedCopies x = Due.text("dcba");
            Due.write(x, page);
            long before = x.digest();
            Due.is("priced() of '" + page + "'", x.priced(), STATE);
            Due.is("digest() behind it", x.digest(), before);
        }
        PricedCopies x = Due.text("dcba");
        Due.is("priced() with a TEXT alone", x.priced(), STATE);
    }
}

import java.util.ArrayList;
import java.util.Arrays;
import java.util.HashMap;
import java.util.List;
import java.util.Map;
import java.util.Random;

/**
 * Long runs of mixed calls, each answer held against a slow model that is written straight from the
 * document's words, with Strings and lists, and shares no code with the class.
 */
public final class ModelTest {
    private static int wrong = 0;
    private static long asked = 0;

    public static void main(String[] args) {
        allCodesOfShortTexts();
        longRests();
        for (int seed = 0; seed < 400; seed++) mixedRun(seed);
        System.out.println(asked + " answers compared, " + wrong + " wrong");
        if (wrong != 0) System.exit(1);
    }

    private static void due(String where, String call, long got, long want) {
        asked++;
        if (got == want) return;
        wrong++;
        if (wrong <= 20) System.out.println(where + ": " + call + " answered " + got + ", due is " + want);
    }

    // ---- every CODE of short texts, none left out

    private static void allCodesOfShortTexts() {
        Random random = new Random(77);
        for (int round = 0; round < 300; round++) {
            Model model = new Model();
            PricedCopies x = new PricedCopies();
            int size = 1 + random.nextInt(7);
            int kinds = 1 + random.nextInt(3);
            int dearest = random.nextInt(3) == 0 ? 30 : 1 + random.nextInt(4);
            for (int i = 0; i < 18; i++) {
                int v = 1 + random.nextInt(dearest);
                model.prices[i] = v;
                x.price(i, v);
            }
            StringBuilder text = new StringBuilder();
            for (int i = 0; i < size; i++) text.append((char) ('a' + random.nextInt(kinds)));
            for (int i = 0; i < size; i++) x.letter(text.charAt(i));
            x.text();
            List<Integer> best = bestOfAll(model, text.toString());
            String where = "all codes of " + text + " at " + Arrays.toString(model.prices);
            due(where, "cheapest(0)", x.cheapest(0), model.priceOfRow(best));
            due(where, "cheapest(1)", x.cheapest(1), best.size());
            for (int i = 0; i < 24; i++) {
                due(where, "cheapest(" + (10 + i) + ")", x.cheapest(10 + i), i < best.size() ? best.get(i) : -1);
            }
        }
    }

    private static List<Integer> bestOfAll(Model model, String text) {
        List<List<Integer>> all = new ArrayList<>();
        grow(text, "", 0, new ArrayList<>(), all);
        List<Integer> best = all.get(0);
        for (List<Integer> row : all) if (model.isBetter(row, best)) best = row;
        return best;
    }

    private static void grow(String text, String made, int latest, List<Integer> row, List<List<Integer>> all) {
        if (!text.startsWith(made)) return;
        if (made.length() == text.length()) {
            all.add(new ArrayList<>(row));
            return;
        }
        for (int letter = 0; letter < 4; letter++) {
            row.add(letter);
            grow(text, made + (char) ('a' + letter), latest, row, all);
            row.remove(row.size() - 1);
        }
        for (int length = 2; length <= 8 && made.length() + length <= text.length(); length++) {
            if (latest > 0) {
                row.add(100 + length);
                grow(text, Model.copied(made, latest, length), latest, row, all);
                row.remove(row.size() - 1);
            }
            for (int distance = 1; distance <= made.length(); distance++) {
                row.add(1000 + 10 * distance + length);
                grow(text, Model.copied(made, distance, length), distance, row, all);
                row.remove(row.size() - 1);
            }
        }
    }

    // ---- REST that comes late or never: texts that PricesTest rests on, and that a search with the class found

    private static void longRests() {
        dueRests("abbbacbbbbcabacabbaabac", new int[] {2, 8, 2, 2, 1, 5, 5, 8, 3, 1, 2, 8, 8, 2, 5, 6, 2, 4}, 12);
        dueRests("aaababbabbabaabaab", Model.FIRST.clone(), -1);
    }

    private static void dueRests(String text, int[] prices, int rounds) {
        Model model = new Model();
        PricedCopies x = new PricedCopies();
        model.prices = prices;
        for (int i = 0; i < 18; i++) x.price(i, prices[i]);
        for (int i = 0; i < text.length(); i++) due(text, "letter", x.letter(text.charAt(i)), model.letter(text.charAt(i)));
        due(text, "text()", x.text(), model.text());
        due(text, "the model's rest(0)", model.rest(0), rounds);
        for (int round = 0; round <= 14; round++) {
            for (int what = 0; what <= 2; what++) due(text, "rest(" + what + ")", x.rest(what), model.rest(what));
            for (int what = 0; what <= 1; what++) due(text, "cheapest(" + what + ")", x.cheapest(what), model.cheapest(what));
            due(text, "round()", x.round(), model.round());
        }
    }

    // ---- runs of mixed calls

    private static void mixedRun(int seed) {
        Random random = new Random(seed);
        PricedCopies x = new PricedCopies();
        Model m = new Model();
        int calls = 0;
        while (calls < 512) {
            String where = "seed " + seed + " call " + calls;
            int kind = random.nextInt(100);
            if (kind < 6) {
                String page = random.nextBoolean() ? someText(random) : someCode(random);
                if (random.nextInt(3) > 0 && !m.page.isEmpty()) {
                    due(where, "blank()", x.blank(), m.blank());
                    calls++;
                }
                for (int i = 0; i < page.length() && calls < 512; i++) {
                    due(where, "letter " + page, x.letter(page.charAt(i)), m.letter(page.charAt(i)));
                    calls++;
                }
                if (calls < 509) {
                    due(where, "fault(false) " + m.page, x.fault(false), m.fault(false));
                    due(where, "fault(true) " + m.page, x.fault(true), m.fault(true));
                    due(where, "priced() " + m.page, x.priced(), m.priced());
                    calls += 3;
                }
                if (calls < 511) {
                    due(where, "text() " + m.page, x.text(), m.text());
                    due(where, "decode() " + m.page, x.decode(), m.decode());
                    calls += 2;
                }
            } else {
                oneCall(where, random, x, m);
                calls++;
            }
        }
    }

    private static void oneCall(String where, Random random, PricedCopies x, Model m) {
        int a = near(random, 26);
        int b = near(random, 3);
        switch (random.nextInt(20)) {
            case 0: {
                int code = random.nextInt(4) == 0 ? near(random, 130) : "abcdABCDX=2389e1Y".charAt(random.nextInt(17));
                due(where, "letter(" + code + ")", x.letter(code), m.letter(code));
                break;
            }
            case 1: if (random.nextInt(4) == 0) due(where, "blank()", x.blank(), m.blank()); break;
            case 2: due(where, "fault(false)", x.fault(false), m.fault(false)); break;
            case 3: due(where, "fault(true)", x.fault(true), m.fault(true)); break;
            case 4: due(where, "text()", x.text(), m.text()); break;
            case 5: due(where, "decode()", x.decode(), m.decode()); break;
            case 6: due(where, "priced()", x.priced(), m.priced()); break;
            case 7: {
                int v = random.nextInt(3) == 0 ? near(random, 31) : 1 + random.nextInt(5);
                int what = near(random, 18);
                due(where, "price(" + what + ", " + v + ")", x.price(what, v), m.price(what, v));
                break;
            }
            case 8: due(where, "priceOf(" + a + ")", x.priceOf(a), m.priceOf(a)); break;
            case 9: if (random.nextInt(3) == 0) due(where, "round()", x.round(), m.round()); break;
            case 10: due(where, "rest(" + b + ")", x.rest(b), m.rest(b)); break;
            case 11: due(where, "at(" + a + ")", x.at(a), m.at(a)); break;
            case 12: due(where, "longest(" + a + ", " + b + ")", x.longest(a, b), m.longest(a, b)); break;
            case 13: {
                int k = near(random, 6);
                due(where, "chain(" + a + ", " + k + ")", x.chain(a, k), m.chain(a, k));
                break;
            }
            case 14: {
                int what = near(random, 36);
                due(where, "cheapest(" + what + ")", x.cheapest(what), m.cheapest(what));
                break;
            }
            case 15: due(where, "codeOf(" + a + ")", x.codeOf(a), m.codeOf(a)); break;
            case 16: due(where, "greedy(" + b + ")", x.greedy(b), m.greedy(b)); break;
            case 17: due(where, "parts(" + a + ", " + b + ")", x.parts(a, b), m.parts(a, b)); break;
            case 18: {
                int what = near(random, 8);
                due(where, "count(" + what + ")", x.count(what), m.count(what));
                break;
            }
            default: due(where, "digest()", x.digest(), m.digest()); break;
        }
    }

    /** Mostly -1 to end, now and then a number far away. */
    private static int near(Random random, int end) {
        int kind = random.nextInt(60);
        if (kind == 0) return Integer.MIN_VALUE;
        if (kind == 1) return Integer.MAX_VALUE;
        if (kind == 2) return random.nextInt();
        return random.nextInt(end + 2) - 1;
    }

    private static String someText(Random random) {
        int size = random.nextInt(4) == 0 ? 20 + random.nextInt(6) : 1 + random.nextInt(24);
        int kinds = 1 + random.nextInt(4);
        int period = random.nextInt(3) == 0 ? 24 : 1 + random.nextInt(9);
        StringBuilder text = new StringBuilder();
        for (int i = 0; i < size; i++) {
            boolean fresh = i < period || random.nextInt(12) == 0;
            text.append(fresh ? (char) ('a' + random.nextInt(kinds)) : text.charAt(i - period));
        }
        if (random.nextInt(8) == 0) text.setCharAt(random.nextInt(size), 'e');
        return text.toString();
    }

    private static String someCode(Random random) {
        StringBuilder code = new StringBuilder();
        int tokens = 1 + random.nextInt(9);
        int made = 0;
        boolean copied = false;
        for (int i = 0; i < tokens; i++) {
            boolean lawful = random.nextInt(10) > 0;
            int kind = random.nextInt(3);
            int length = lawful ? 2 + random.nextInt(7) : random.nextInt(10);
            int distance = lawful ? 1 + random.nextInt(Math.max(1, made)) : 1 + random.nextInt(25);
            if (kind == 0 || lawful && made == 0 || lawful && kind == 1 && !copied) {
                code.append((char) ('a' + random.nextInt(lawful ? 4 : 5)));
                made++;
            } else if (kind == 1) {
                code.append('=').append(length);
                made += length;
            } else {
                code.append((char) ('A' + distance - 1)).append(length);
                copied = true;
                made += length;
            }
        }
        if (random.nextInt(8) == 0) code.setLength(code.length() - 1);
        return code.toString();
    }

    // ---- the model

    private static final class Model {
        static final int[] FIRST = {8, 8, 8, 8, 4, 2, 3, 4, 5, 6, 1, 1, 2, 2, 3, 3, 3, 3};
        String page = "";
        String text = "";
        int[] prices = FIRST.clone();
        int rounds, texts, codes;

        // what a CODE on THE PAGE is found to be
        int codeFault;
        boolean codeWhole;
        String codeMakes;
        List<Integer> codeTokens;

        int letter(int code) {
            if (code < 32 || code > 126) return -1002;
            if (page.length() == 30) return -1004;
            page += (char) code;
            return page.length();
        }

        int blank() {
            int had = page.length();
            page = "";
            return had;
        }

        int fault(boolean code) {
            if (code) {
                readCode();
                return codeFault;
            }
            int i = 0;
            while (i < page.length() && i < 24 && "abcd".indexOf(page.charAt(i)) >= 0) i++;
            return i;
        }

        void readCode() {
            codeTokens = new ArrayList<>();
            codeMakes = "";
            codeWhole = false;
            int latest = 0;
            int i = 0;
            while (i < page.length()) {
                codeFault = i;
                char c = page.charAt(i);
                if ("abcd".indexOf(c) >= 0) {
                    if (codeMakes.length() == 24) return;
                    codeTokens.add(c - 'a');
                    codeMakes += c;
                    i++;
                    continue;
                }
                int distance = c == '=' ? latest : "ABCDEFGHIJKLMNOPQRSTUVWX".indexOf(c) + 1;
                if (distance == 0 || distance > codeMakes.length()) return;
                codeFault = i + 1;
                if (i + 1 == page.length()) return;
                int length = "2345678".indexOf(page.charAt(i + 1)) + 2;
                if (length < 2 || "2345678".indexOf(page.charAt(i + 1)) < 0) return;
                if (codeMakes.length() + length > 24) return;
                codeMakes = copied(codeMakes, distance, length);
                codeTokens.add(c == '=' ? 100 + length : 1000 + 10 * distance + length);
                latest = distance;
                i += 2;
            }
            codeFault = page.length();
            codeWhole = !codeTokens.isEmpty();
        }

        static String copied(String made, int distance, int length) {
            String grown = made;
            for (int i = 0; i < length; i++) grown += grown.charAt(grown.length() - distance);
            return grown;
        }

        int text() {
            if (page.isEmpty() || fault(false) < page.length()) return -1003;
            text = page;
            page = "";
            texts++;
            return text.length();
        }

        int decode() {
            readCode();
            if (!codeWhole) return -1003;
            text = codeMakes;
            page = "";
            codes++;
            return text.length();
        }

        int priced() {
            readCode();
            return codeWhole ? priceOfRow(codeTokens) : -1003;
        }

        int price(int what, int v) {
            if (what < 0 || what > 17) return -1001;
            if (v < 1 || v > 30) return -1002;
            int was = prices[what];
            prices[what] = v;
            return was;
        }

        int priceOf(int what) {
            return what < 0 || what > 17 ? -1001 : prices[what];
        }

        int round() {
            if (text.isEmpty()) return -1003;
            rounds++;
            return doRound();
        }

        int doRound() {
            int[] next = followed(best(text));
            int others = 0;
            for (int i = 0; i < 18; i++) if (next[i] != prices[i]) others++;
            prices = next;
            return others;
        }

        int[] followed(List<Integer> row) {
            int[] taken = new int[18];
            int plains = 0;
            int copies = 0;
            int agains = 0;
            for (int token : row) {
                for (int p : pricesOf(token)) taken[p]++;
                if (token < 4) plains++;
                else if (token < 1000) agains++;
                else copies++;
            }
            int[] next = new int[18];
            for (int i = 0; i < 18; i++) {
                int all = i < 4 ? plains + 4
                    : i == 4 || i == 17 ? row.size() + 3
                    : i < 10 ? copies + 5
                    : copies + agains + 7;
                int x = all / (taken[i] + 1);
                int log = 0;
                while (x != 1) {
                    x /= 2;
                    log++;
                }
                next[i] = 1 + 2 * log;
            }
            return next;
        }

        int rest(int what) {
            if (text.isEmpty()) return -1003;
            if (what < 0 || what > 2) return -1002;
            int[] kept = prices;
            int answer = -1;
            int done = 0;
            boolean resting = Arrays.equals(followed(best(text)), prices);
            while (!resting && done < 12) {
                doRound();
                done++;
                resting = Arrays.equals(followed(best(text)), prices);
            }
            if (what == 0 && resting) answer = done;
            if (what == 1) answer = priceOfRow(best(text));
            if (what == 2) answer = best(text).size();
            prices = kept;
            return answer;
        }

        int at(int place) {
            return place < 0 || place >= text.length() ? -1001 : text.charAt(place) - 'a';
        }

        int likeness(int early, int late) {
            int n = 0;
            while (n < 8 && late + n < text.length() && text.charAt(early + n) == text.charAt(late + n)) n++;
            return n;
        }

        int longest(int place, int what) {
            if (place < 0 || place >= text.length()) return -1001;
            if (what != 0 && what != 1) return -1002;
            int length = 0;
            int distance = 0;
            for (int early = 0; early < place; early++) {
                int n = likeness(early, place);
                if (n >= 2 && n >= length) {
                    length = n;
                    distance = place - early;
                }
            }
            return what == 0 ? length : distance;
        }

        int chain(int place, int k) {
            if (place < 0 || place >= text.length()) return -1001;
            List<Integer> chain = new ArrayList<>();
            for (int early = place - 1; early >= 0; early--) if (likeness(early, place) >= 2) chain.add(early);
            return k >= 0 && k < chain.size() ? chain.get(k) : -1;
        }

        List<Integer> pricesOf(int token) {
            if (token < 4) return List.of(token);
            int length = 10 + token % 10 - 2;
            if (token < 1000) return List.of(17, length);
            int d = (token - 1000) / 10;
            int distance = d == 1 ? 5 : d <= 3 ? 6 : d <= 7 ? 7 : d <= 15 ? 8 : 9;
            return List.of(4, distance, length);
        }

        int priceOfRow(List<Integer> row) {
            int sum = 0;
            for (int token : row) for (int p : pricesOf(token)) sum += prices[p];
            return sum;
        }

        boolean isBetter(List<Integer> one, List<Integer> other) {
            if (priceOfRow(one) != priceOfRow(other)) return priceOfRow(one) < priceOfRow(other);
            if (one.size() != other.size()) return one.size() < other.size();
            for (int i = 0; i < one.size(); i++) {
                if (!one.get(i).equals(other.get(i))) return one.get(i) < other.get(i);
            }
            return false;
        }

        private final Map<String, List<Integer>> known = new HashMap<>();

        List<Integer> best(String whole) {
            String key = whole + Arrays.toString(prices);
            if (!known.containsKey(key)) known.put(key, bestFrom(whole, 0, 0, new HashMap<>()));
            return known.get(key);
        }

        List<Integer> bestFrom(String whole, int place, int latest, Map<Integer, List<Integer>> seen) {
            if (place == whole.length()) return new ArrayList<>();
            int key = 100 * place + latest;
            if (seen.containsKey(key)) return seen.get(key);
            List<Integer> best = ahead(whole.charAt(place) - 'a', bestFrom(whole, place + 1, latest, seen));
            for (int distance = 1; distance <= place; distance++) {
                for (int length = 2; length <= 8 && place + length <= whole.length(); length++) {
                    String told = copied(whole.substring(0, place), distance, length);
                    if (!whole.startsWith(told)) break;
                    List<Integer> behind = bestFrom(whole, place + length, distance, seen);
                    List<Integer> row = ahead(1000 + 10 * distance + length, behind);
                    if (isBetter(row, best)) best = row;
                    if (distance == latest) {
                        row = ahead(100 + length, behind);
                        if (isBetter(row, best)) best = row;
                    }
                }
            }
            seen.put(key, best);
            return best;
        }

        static List<Integer> ahead(int token, List<Integer> behind) {
            List<Integer> row = new ArrayList<>();
            row.add(token);
            row.addAll(behind);
            return row;
        }

        static String codeText(List<Integer> row) {
            String code = "";
            for (int token : row) {
                if (token < 4) code += (char) ('a' + token);
                else if (token < 1000) code += "=" + (token - 100);
                else code += "" + "ABCDEFGHIJKLMNOPQRSTUVWX".charAt((token - 1000) / 10 - 1) + token % 10;
            }
            return code;
        }

        int cheapest(int what) {
            if (text.isEmpty()) return -1003;
            if (what < 0 || what > 2 && what < 10 || what > 33) return -1002;
            List<Integer> row = best(text);
            if (what == 0) return priceOfRow(row);
            if (what == 1) return row.size();
            if (what == 2) return codeText(row).length();
            return what - 10 < row.size() ? row.get(what - 10) : -1;
        }

        int codeOf(int place) {
            if (text.isEmpty()) return -1003;
            String code = codeText(best(text));
            return place >= 0 && place < code.length() ? code.charAt(place) : -1;
        }

        int greedy(int what) {
            if (text.isEmpty()) return -1003;
            if (what != 0 && what != 1) return -1002;
            List<Integer> row = new ArrayList<>();
            int latest = 0;
            int place = 0;
            while (place < text.length()) {
                int length = longest(place, 0);
                int distance = longest(place, 1);
                if (length < 2) {
                    row.add(at(place));
                    place++;
                } else {
                    row.add(distance == latest ? 100 + length : 1000 + 10 * distance + length);
                    latest = distance;
                    place += length;
                }
            }
            return what == 0 ? priceOfRow(row) : row.size();
        }

        int parts(int n, int what) {
            if (text.isEmpty()) return -1003;
            if (n < 1 || n > 24) return -1002;
            if (what < 0 || what > 2) return -1002;
            int sum = 0;
            int number = 0;
            String left = text;
            while (!left.isEmpty()) {
                String part = left.substring(0, Math.min(n, left.length()));
                left = left.substring(part.length());
                sum += priceOfRow(best(part));
                number++;
            }
            if (what == 0) return sum;
            return what == 1 ? number : sum - priceOfRow(best(text));
        }

        int count(int what) {
            List<Integer> row = text.isEmpty() ? new ArrayList<>() : best(text);
            int found = 0;
            switch (what) {
                case 0: return page.length();
                case 1: return text.length();
                case 2: for (int t : row) if (t < 4) found++; return found;
                case 3: for (int t : row) if (t > 100 && t < 1000) found++; return found;
                case 4: for (int t : row) if (t > 1000) found++; return found;
                case 5: return rounds;
                case 6: return texts;
                case 7: return codes;
                default: return -1002;
            }
        }

        long digest() {
            List<Long> numbers = new ArrayList<>();
            for (int p : prices) numbers.add((long) p);
            for (int i = 0; i < text.length(); i++) {
                numbers.add((long) at(i));
                numbers.add((long) longest(i, 0));
                numbers.add((long) longest(i, 1));
                numbers.add((long) chain(i, 0));
                numbers.add((long) chain(i, 1));
            }
            if (!text.isEmpty()) {
                for (int i = 0; i < 3; i++) numbers.add((long) cheapest(i));
                for (int t : best(text)) numbers.add((long) t);
                for (int i = 0; i < 2; i++) numbers.add((long) greedy(i));
                for (int i = 0; i < 3; i++) numbers.add((long) rest(i));
                numbers.add((long) parts(4, 0));
                numbers.add((long) parts(10, 0));
            }
            for (char c : page.toCharArray()) numbers.add((long) c);
            for (int i = 0; i < 8; i++) numbers.add((long) count(i));
            long h = 1747;
            for (long n : numbers) h = 31 * h + n;
            return h;
        }
    }
}

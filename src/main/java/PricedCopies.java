/**
 * A short TEXT told by letters, by copies of what was told before and by copies from as far back
 * as the last one; which row of these is the cheapest by PRICES, and PRICES that follow from it.
 *
 * Words in capitals are the document's terms. Every row is made by the constructor and used again,
 * so that no call makes an object.
 */
public final class PricedCopies {
    public static final int NONE = -1, UNKNOWN = -1001, OUTSIDE = -1002, STATE = -1003, FULL = -1004;

    private static final int PAGE_ROOM = 30;
    private static final int TEXT_ROOM = 24;
    private static final int LETTERS = 4;
    private static final int MIN_LENGTH = 2, MAX_LENGTH = 8;
    private static final int MAX_DISTANCE = 24;
    private static final int FIRST_SIGN = 32, LAST_SIGN = 126;

    private static final int AGAIN_NUMBER = 100, COPY_NUMBER = 1000, DISTANCE_STEP = 10;

    private static final int COPY_PRICE = 4, DISTANCE_PRICES = 5, LENGTH_PRICES = 10, AGAIN_PRICE = 17;
    private static final int PRICE_KINDS = 18;
    private static final int MIN_PRICE = 1, MAX_PRICE = 30;
    private static final int[] FIRST_PRICES = {8, 8, 8, 8, 4, 2, 3, 4, 5, 6, 1, 1, 2, 2, 3, 3, 3, 3};

    private static final int LETTER_SIZE = 4, KIND_SIZE = 3, DISTANCE_SIZE = 5, LENGTH_SIZE = 7;
    private static final int MOST_ROUNDS = 12;
    private static final int FIRST_TOKEN_ASKED = 10, LAST_TOKEN_ASKED = 33;
    private static final int COUNTS = 8;
    private static final long DIGEST_START = 1747L, DIGEST_FACTOR = 31L;

    private final Page page = new Page();
    private final CodeReader reader = new CodeReader();
    private final Text told = new Text();
    private final Prices prices = new Prices();
    private final Chooser chooser = new Chooser();
    private final TokenRow cheapestRow = new TokenRow();
    private final TokenRow greedyRow = new TokenRow();
    private final Prices trialPrices = new Prices();
    private final TokenRow trialRow = new TokenRow();

    // What was reckoned holds till the TEXT or a PRICE becomes another one.
    private boolean cheapestKnown = false;
    private boolean restKnown = false;
    private int restRounds = NONE;
    private int restPrice = 0;
    private int restTokens = 0;

    private int roundsMade = 0;
    private int textsRead = 0;
    private int codesRead = 0;

    public PricedCopies() {
    }

    // ---- texts, codes

    public int letter(int code) {
        if (code < FIRST_SIGN || code > LAST_SIGN) return OUTSIDE;
        if (page.isFull()) return FULL;
        page.add(code);
        return page.size();
    }

    public int blank() {
        int had = page.size();
        page.clear();
        return had;
    }

    public int fault(boolean code) {
        if (!code) return page.textFault();
        reader.read(page);
        return reader.faultPlace();
    }

    public int text() {
        if (!page.isText()) return STATE;
        told.clear();
        for (int i = 0; i < page.size(); i++) told.add(page.signAt(i) - 'a');
        takeText();
        textsRead++;
        return told.size();
    }

    public int decode() {
        reader.read(page);
        if (!reader.isCode()) return STATE;
        told.clear();
        for (int i = 0; i < reader.madeSize(); i++) told.add(reader.madeAt(i));
        takeText();
        codesRead++;
        return told.size();
    }

    public int priced() {
        reader.read(page);
        if (!reader.isCode()) return STATE;
        return prices.ofRow(reader.tokens());
    }

    // ---- prices

    public int price(int what, int v) {
        if (!isPrice(what)) return UNKNOWN;
        if (v < MIN_PRICE || v > MAX_PRICE) return OUTSIDE;
        int was = prices.get(what);
        prices.set(what, v);
        forget();
        return was;
    }

    public int priceOf(int what) {
        return isPrice(what) ? prices.get(what) : UNKNOWN;
    }

    public int round() {
        if (!hasText()) return STATE;
        chooseCheapest();
        int others = prices.follow(cheapestRow);
        roundsMade++;
        forget();
        return others;
    }

    public int rest(int what) {
        if (!hasText()) return STATE;
        if (what < 0 || what > 2) return OUTSIDE;
        findRest();
        if (what == 0) return restRounds;
        return what == 1 ? restPrice : restTokens;
    }

    // ---- likenesses

    public int at(int place) {
        return told.has(place) ? told.letterAt(place) : UNKNOWN;
    }

    public int longest(int place, int what) {
        if (!told.has(place)) return UNKNOWN;
        if (what < 0 || what > 1) return OUTSIDE;
        int distance = told.longestDistance(place);
        return what == 0 ? told.likeness(place, distance) : distance;
    }

    public int chain(int place, int k) {
        return told.has(place) ? told.chainPlace(place, k) : UNKNOWN;
    }

    // ---- codes that are chosen

    public int cheapest(int what) {
        if (!hasText()) return STATE;
        boolean ofToken = what >= FIRST_TOKEN_ASKED && what <= LAST_TOKEN_ASKED;
        if (!ofToken && (what < 0 || what > 2)) return OUTSIDE;
        chooseCheapest();
        if (ofToken) return cheapestRow.get(what - FIRST_TOKEN_ASKED);
        if (what == 0) return prices.ofRow(cheapestRow);
        return what == 1 ? cheapestRow.size() : cheapestRow.signs();
    }

    public int codeOf(int place) {
        if (!hasText()) return STATE;
        chooseCheapest();
        return cheapestRow.signAt(place);
    }

    public int greedy(int what) {
        if (!hasText()) return STATE;
        if (what < 0 || what > 1) return OUTSIDE;
        chooseGreedy();
        return what == 0 ? prices.ofRow(greedyRow) : greedyRow.size();
    }

    public int parts(int n, int what) {
        if (!hasText()) return STATE;
        if (n < 1 || n > TEXT_ROOM || what < 0 || what > 2) return OUTSIDE;
        if (what == 1) return (told.size() + n - 1) / n;
        int together = priceOfParts(n);
        if (what == 0) return together;
        chooseCheapest();
        return together - prices.ofRow(cheapestRow);
    }

    public int count(int what) {
        if (what < 0 || what >= COUNTS) return OUTSIDE;
        if (what >= 2 && what <= 4) chooseCheapest();
        switch (what) {
            case 0: return page.size();
            case 1: return told.size();
            case 2: return cheapestRow.plains();
            case 3: return cheapestRow.agains();
            case 4: return cheapestRow.copies();
            case 5: return roundsMade;
            case 6: return textsRead;
            default: return codesRead;
        }
    }

    public long digest() {
        long h = DIGEST_START;
        for (int i = 0; i < PRICE_KINDS; i++) h = mix(h, prices.get(i));
        for (int place = 0; place < told.size(); place++) {
            h = mix(h, at(place));
            for (int what = 0; what <= 1; what++) h = mix(h, longest(place, what));
            for (int k = 0; k <= 1; k++) h = mix(h, chain(place, k));
        }
        if (hasText()) {
            for (int what = 0; what <= 2; what++) h = mix(h, cheapest(what));
            for (int i = 0; i < cheapestRow.size(); i++) h = mix(h, cheapestRow.get(i));
            for (int what = 0; what <= 1; what++) h = mix(h, greedy(what));
            for (int what = 0; what <= 2; what++) h = mix(h, rest(what));
            h = mix(h, parts(4, 0));
            h = mix(h, parts(10, 0));
        }
        for (int i = 0; i < page.size(); i++) h = mix(h, page.signAt(i));
        for (int what = 0; what < COUNTS; what++) h = mix(h, count(what));
        return h;
    }

    // ---- what the calls share

    private boolean hasText() {
        return told.size() > 0;
    }

    private static boolean isPrice(int what) {
        return what >= 0 && what < PRICE_KINDS;
    }

    private void takeText() {
        told.compare();
        page.clear();
        forget();
    }

    private void forget() {
        cheapestKnown = false;
        restKnown = false;
    }

    /** Without a TEXT the row stays empty. */
    private void chooseCheapest() {
        if (cheapestKnown) return;
        chooser.choose(told, prices, 0, told.size(), cheapestRow);
        cheapestKnown = true;
    }

    private void chooseGreedy() {
        greedyRow.clear();
        int latest = 0;
        int place = 0;
        while (place < told.size()) {
            int distance = told.longestDistance(place);
            if (distance == 0) {
                greedyRow.add(told.letterAt(place));
                place++;
            } else {
                int length = told.likeness(place, distance);
                greedyRow.add(distance == latest ? Token.again(length) : Token.copy(distance, length));
                latest = distance;
                // The least step is told here so that the loop's end can be seen from its lines.
                place += Math.max(MIN_LENGTH, length);
            }
        }
    }

    private int priceOfParts(int n) {
        int together = 0;
        int step = Math.max(1, n);
        for (int from = 0; from < told.size(); from += step) {
            chooser.choose(told, prices, from, Math.min(from + step, told.size()), trialRow);
            together += prices.ofRow(trialRow);
        }
        return together;
    }

    private void findRest() {
        if (restKnown) return;
        restRounds = NONE;
        trialPrices.take(prices);
        // PRICE and TOKENS are noted ahead of each ROUND: the last ones noted are those of REST, or behind 12.
        for (int rounds = 0; rounds <= MOST_ROUNDS && restRounds == NONE; rounds++) {
            chooser.choose(told, trialPrices, 0, told.size(), trialRow);
            restPrice = trialPrices.ofRow(trialRow);
            restTokens = trialRow.size();
            if (trialPrices.follow(trialRow) == 0) restRounds = rounds;
        }
        restKnown = true;
    }

    private static long mix(long h, long number) {
        return DIGEST_FACTOR * h + number;
    }

    /** How often 2 divides x till it is 1, rounded down each time; 0 for what is below 1, too. */
    private static int log(int x) {
        int times = 0;
        for (int left = x; left > 1; left /= 2) times++;
        return times;
    }

    /** TOKENS by their numbers: a number tells all there is of a TOKEN. */
    private static final class Token {
        static int again(int length) {
            return AGAIN_NUMBER + length;
        }

        static int copy(int distance, int length) {
            return COPY_NUMBER + DISTANCE_STEP * distance + length;
        }

        static boolean isPlain(int token) {
            return token < AGAIN_NUMBER;
        }

        static boolean isCopy(int token) {
            return token >= COPY_NUMBER;
        }

        static int lengthOf(int token) {
            return token < AGAIN_NUMBER ? 1 : token % DISTANCE_STEP;
        }

        /** The DISTANCE of a COPY; 0 of others, since they tell none themselves. */
        static int distanceOf(int token) {
            return token < COPY_NUMBER ? 0 : (token - COPY_NUMBER) / DISTANCE_STEP;
        }

        static int signsOf(int token) {
            return isPlain(token) ? 1 : 2;
        }

        static int signOf(int token, int which) {
            if (isPlain(token)) return 'a' + token;
            if (which > 0) return '0' + lengthOf(token);
            return isCopy(token) ? 'A' + distanceOf(token) - 1 : '=';
        }
    }

    /** THE PAGE. */
    private static final class Page {
        private final int[] signs = new int[PAGE_ROOM];
        private int size = 0;

        boolean isFull() {
            return size >= PAGE_ROOM;
        }

        int size() {
            return size;
        }

        void clear() {
            size = 0;
        }

        void add(int sign) {
            if (isFull()) return;
            signs[size] = sign;
            size++;
        }

        int signAt(int place) {
            return place >= 0 && place < size ? signs[place] : NONE;
        }

        int textFault() {
            for (int i = 0; i < size; i++) {
                int letter = signAt(i) - 'a';
                if (i >= TEXT_ROOM || letter < 0 || letter >= LETTERS) return i;
            }
            return size;
        }

        boolean isText() {
            return size > 0 && textFault() == size;
        }
    }

    /** A row of TOKENS by their numbers: as many as a TEXT can take, since each makes a letter at least. */
    private static final class TokenRow {
        private final int[] tokens = new int[TEXT_ROOM];
        private int size = 0;
        private int plains = 0;
        private int copies = 0;

        void clear() {
            size = 0;
            plains = 0;
            copies = 0;
        }

        void add(int token) {
            if (size >= TEXT_ROOM) return;
            tokens[size] = token;
            size++;
            if (Token.isPlain(token)) plains++;
            if (Token.isCopy(token)) copies++;
        }

        int size() {
            return size;
        }

        int plains() {
            return plains;
        }

        int copies() {
            return copies;
        }

        int agains() {
            return size - plains - copies;
        }

        int get(int i) {
            return i >= 0 && i < size ? tokens[i] : NONE;
        }

        int signs() {
            int found = 0;
            for (int i = 0; i < size; i++) found += Token.signsOf(get(i));
            return found;
        }

        int signAt(int place) {
            if (place < 0) return NONE;
            int start = 0;
            for (int i = 0; i < size; i++) {
                int end = start + Token.signsOf(get(i));
                if (place < end) return Token.signOf(get(i), place - start);
                start = end;
            }
            return NONE;
        }
    }

    /** Reads THE PAGE as a CODE, letter by letter, as far as it can be one. */
    private static final class CodeReader {
        private final int[] made = new int[TEXT_ROOM];
        private final TokenRow row = new TokenRow();
        private int madeCount = 0;
        private int latestDistance = 0;
        // The DISTANCE of a COPY or AGAIN whose figure is due; 0, if none is.
        private int openDistance = 0;
        private boolean openAgain = false;
        private int place = 0;
        private boolean faultless = false;

        void read(Page page) {
            row.clear();
            madeCount = 0;
            latestDistance = 0;
            openDistance = 0;
            openAgain = false;
            place = 0;
            faultless = true;
            while (faultless && place < page.size()) {
                if (takes(page.signAt(place))) place++;
                else faultless = false;
            }
        }

        int faultPlace() {
            return place;
        }

        boolean isCode() {
            return faultless && openDistance == 0 && row.size() > 0;
        }

        TokenRow tokens() {
            return row;
        }

        int madeSize() {
            return madeCount;
        }

        int madeAt(int i) {
            return i >= 0 && i < madeCount ? made[i] : 0;
        }

        private boolean takes(int sign) {
            if (openDistance > 0) return takesFigure(sign - '0');
            int letter = sign - 'a';
            if (letter >= 0 && letter < LETTERS) return takesLetter(letter);
            openAgain = sign == '=';
            return opens(openAgain ? latestDistance : sign - 'A' + 1);
        }

        private boolean takesLetter(int letter) {
            if (madeCount >= TEXT_ROOM) return false;
            make(letter);
            row.add(letter);
            return true;
        }

        // Whether there is room for any LENGTH is no matter here: the document faults the figure for that.
        private boolean opens(int distance) {
            if (distance < 1 || distance > MAX_DISTANCE || distance > madeCount) return false;
            openDistance = distance;
            return true;
        }

        private boolean takesFigure(int length) {
            if (length < MIN_LENGTH || length > MAX_LENGTH || madeCount + length > TEXT_ROOM) return false;
            row.add(openAgain ? Token.again(length) : Token.copy(openDistance, length));
            // One by one, as a COPY may take letters that it has made itself.
            for (int i = 0; i < length; i++) make(madeAt(madeCount - openDistance));
            latestDistance = openDistance;
            openDistance = 0;
            return true;
        }

        private void make(int letter) {
            if (madeCount >= TEXT_ROOM) return;
            made[madeCount] = letter;
            madeCount++;
        }
    }

    /** The TEXT, and how like its PLACES are. */
    private static final class Text {
        private final int[] letters = new int[TEXT_ROOM];
        // By the later PLACE and the DISTANCE of the earlier one.
        private final int[][] alike = new int[TEXT_ROOM][TEXT_ROOM];
        private int size = 0;

        void clear() {
            size = 0;
        }

        void add(int letter) {
            if (size >= TEXT_ROOM) return;
            letters[size] = letter;
            size++;
        }

        int size() {
            return size;
        }

        boolean has(int place) {
            return place >= 0 && place < size;
        }

        int letterAt(int place) {
            return has(place) ? letters[place] : 0;
        }

        /** Must follow the last add(): from the end on, as a LIKENESS is one more than that one place on. */
        void compare() {
            for (int place = size - 1; place >= 0; place--) {
                for (int distance = 1; distance <= place; distance++) {
                    boolean same = letters[place] == letters[place - distance];
                    alike[place][distance] = same ? Math.min(MAX_LENGTH, 1 + likeness(place + 1, distance)) : 0;
                }
            }
        }

        /** LIKENESS of a PLACE and the one DISTANCE ahead of it; 0, if there is none. */
        int likeness(int place, int distance) {
            return place < size && distance >= 1 && distance <= place ? alike[place][distance] : 0;
        }

        /** DISTANCE of LONGEST; 0, if that is below 2. */
        int longestDistance(int place) {
            int best = 0;
            int length = MIN_LENGTH - 1;
            for (int distance = 1; has(place) && distance <= place; distance++) {
                int found = likeness(place, distance);
                if (found > length) {
                    length = found;
                    best = distance;
                }
            }
            return best;
        }

        int chainPlace(int place, int k) {
            int index = 0;
            for (int distance = 1; has(place) && distance <= place; distance++) {
                if (likeness(place, distance) >= MIN_LENGTH) {
                    if (index == k) return place - distance;
                    index++;
                }
            }
            return NONE;
        }
    }

    /** The PRICES. */
    private static final class Prices {
        private final int[] values = FIRST_PRICES.clone();
        private final int[] taken = new int[PRICE_KINDS];

        int get(int what) {
            return what >= 0 && what < PRICE_KINDS ? values[what] : 0;
        }

        void set(int what, int v) {
            if (isPrice(what)) values[what] = v;
        }

        void take(Prices other) {
            for (int i = 0; i < PRICE_KINDS; i++) values[i] = other.get(i);
        }

        int ofToken(int token) {
            if (Token.isPlain(token)) return get(token);
            int ofLength = get(LENGTH_PRICES + Token.lengthOf(token) - MIN_LENGTH);
            if (!Token.isCopy(token)) return get(AGAIN_PRICE) + ofLength;
            // DISTANCES of one PRICE end where the next power of 2 begins.
            return get(COPY_PRICE) + get(DISTANCE_PRICES + log(Token.distanceOf(token))) + ofLength;
        }

        int ofRow(TokenRow row) {
            int sum = 0;
            for (int i = 0; i < row.size(); i++) sum += ofToken(row.get(i));
            return sum;
        }

        /** A ROUND, by the row that is CHEAPEST: how many PRICES are others then. */
        int follow(TokenRow row) {
            countTaken(row);
            int kinds = row.size() + KIND_SIZE;
            int others = reprice(0, LETTERS, row.plains() + LETTER_SIZE);
            others += reprice(COPY_PRICE, DISTANCE_PRICES, kinds);
            others += reprice(DISTANCE_PRICES, LENGTH_PRICES, row.copies() + DISTANCE_SIZE);
            others += reprice(LENGTH_PRICES, AGAIN_PRICE, row.copies() + row.agains() + LENGTH_SIZE);
            return others + reprice(AGAIN_PRICE, PRICE_KINDS, kinds);
        }

        private int reprice(int from, int to, int allAndSize) {
            int others = 0;
            for (int i = Math.max(0, from); i < to && i < PRICE_KINDS; i++) {
                int value = 1 + 2 * log(allAndSize / Math.max(1, 1 + taken[i]));
                if (value != values[i]) others++;
                values[i] = value;
            }
            return others;
        }

        private void countTaken(TokenRow row) {
            for (int i = 0; i < PRICE_KINDS; i++) taken[i] = 0;
            for (int i = 0; i < row.size(); i++) {
                int token = row.get(i);
                if (Token.isPlain(token)) {
                    countOne(token);
                } else {
                    countOne(LENGTH_PRICES + Token.lengthOf(token) - MIN_LENGTH);
                    countOne(Token.isCopy(token) ? COPY_PRICE : AGAIN_PRICE);
                    if (Token.isCopy(token)) countOne(DISTANCE_PRICES + log(Token.distanceOf(token)));
                }
            }
        }

        private void countOne(int what) {
            if (isPrice(what)) taken[what]++;
        }
    }

    /**
     * Chooses CHEAPEST, from the end backwards: what comes behind a PLACE hangs on nothing ahead of
     * it but the DISTANCE of the latest COPY, and two best rows that begin with the same TOKEN go on
     * alike; so TOKENS are tried by rising numbers, and a later one wins only if it is really cheaper.
     */
    private static final class Chooser {
        // A weight is PRICE first, then how many TOKENS: these (24 at most) stay below one PRICE's step.
        private static final int PRICE_WEIGHT = 32;

        // By PLACE and the DISTANCE of the latest COPY (0: none yet).
        private final int[][] weights = new int[TEXT_ROOM + 1][TEXT_ROOM + 1];
        private final int[][] firsts = new int[TEXT_ROOM + 1][TEXT_ROOM + 1];
        private int bestToken = NONE;
        private int bestWeight = 0;

        /** CHEAPEST of the letters from one PLACE up to another one, as if they were the TEXT, into a row. */
        void choose(Text text, Prices prices, int from, int to, TokenRow row) {
            row.clear();
            if (from < 0 || from >= to || to > text.size() || to > TEXT_ROOM) return;
            for (int latest = 0; latest <= to - from; latest++) weights[to][latest] = 0;
            for (int place = to - 1; place >= from; place--) {
                chooseCopy(text, prices, from, to, place);
                chooseFirsts(text, prices, from, to, place);
            }
            collect(from, to, row);
        }

        /** The best COPY at a PLACE (NONE, if there is none): it is the same for each latest DISTANCE. */
        private void chooseCopy(Text text, Prices prices, int from, int to, int place) {
            bestToken = NONE;
            for (int distance = 1; distance <= place - from; distance++) {
                int most = Math.min(text.likeness(place, distance), to - place);
                for (int length = MIN_LENGTH; length <= most; length++) {
                    int token = Token.copy(distance, length);
                    consider(token, prices.ofToken(token), weights[place + length][distance]);
                }
            }
        }

        /** The best TOKEN at a PLACE for each latest DISTANCE, the best COPY being known. */
        private void chooseFirsts(Text text, Prices prices, int from, int to, int place) {
            int copyToken = bestToken;
            int copyWeight = bestWeight;
            int letter = text.letterAt(place);
            for (int latest = 0; latest <= place - from; latest++) {
                bestToken = NONE;
                consider(letter, prices.ofToken(letter), weights[place + 1][latest]);
                int most = Math.min(text.likeness(place, latest), to - place);
                for (int length = MIN_LENGTH; length <= most; length++) {
                    int token = Token.again(length);
                    consider(token, prices.ofToken(token), weights[place + length][latest]);
                }
                boolean copyWins = copyToken != NONE && copyWeight < bestWeight;
                firsts[place][latest] = copyWins ? copyToken : bestToken;
                weights[place][latest] = copyWins ? copyWeight : bestWeight;
            }
        }

        private void consider(int token, int price, int weightBehind) {
            int weight = PRICE_WEIGHT * price + 1 + weightBehind;
            if (bestToken != NONE && weight >= bestWeight) return;
            bestToken = token;
            bestWeight = weight;
        }

        private void collect(int from, int to, TokenRow row) {
            int latest = 0;
            int place = from;
            while (place < to) {
                int token = firsts[place][latest];
                row.add(token);
                if (Token.isCopy(token)) latest = Math.min(TEXT_ROOM, Token.distanceOf(token));
                // The least step is told here so that the loop's end can be seen from its lines.
                place += Math.max(1, Token.lengthOf(token));
            }
        }
    }
}

import java.util.ArrayList;
import java.util.Arrays;
import java.util.List;

/** A gateway of shippers to carriers: requests become quotes, quotes become parcels, and both become bills. */
public final class RateGate {
    public static final int NONE = -1;
    public static final int LIMITED = -2, REFUSED = -3, FAILED = -4;
    public static final int CLOSED = 0, OPEN = 1, HALF = 2;
    public static final int BOOKED = 0, CANCELLED = 1, BILLED = 2;

    private static final int SHIPPERS = 6;
    private static final int CARRIERS = 4;
    private static final int MOST_QUOTES = 100;
    private static final int MOST_PARCELS = 50;
    private static final int LAST_MINUTE = 20000;
    private static final int MOST_MINUTES_AT_ONCE = 500;
    private static final int MOST_QUOTA_CALLS = 50;
    private static final int MOST_QUOTA_MINUTES = 1440;
    private static final int MOST_FLAW = 10;
    private static final int MOST_BASE = 10000;
    private static final int MOST_ZONE_OR_WEIGHT_AMOUNT = 1000;
    private static final int MOST_GRAMS = 30000;
    private static final int FIXED_MINUTES = 60;
    private static final int FRESH_QUOTE_COST = 3;
    private static final int OTHER_CALL_COST = 1;

    private final Request request = new Request();
    private final CallLog log = new CallLog();
    private final Shipper[] shippers = new Shipper[SHIPPERS];
    private final Carrier[] carriers = new Carrier[CARRIERS];
    private final List<Quote> quotes = new ArrayList<Quote>();
    private final List<Parcel> parcels = new ArrayList<Parcel>();
    private int now = 0;

    /** An empty request, at the minute 0. */
    public RateGate() {
        for (int i = 0; i < SHIPPERS; i++) {
            shippers[i] = new Shipper();
        }
        for (int i = 0; i < CARRIERS; i++) {
            carriers[i] = new Carrier();
        }
    }

    // ---- requests

    /** Types a character at the end of the request; returns how many characters it has then. */
    public int type(char character) throws IllegalArgumentException, IllegalStateException {
        if (!Request.isTypable(character)) {
            throw new IllegalArgumentException("no character of a request");
        }
        if (request.isFull()) {
            throw new IllegalStateException("the request is full");
        }
        return request.append(character);
    }

    /** Empties the request; returns how many characters it had. */
    public int wipe() {
        return request.empty();
    }

    /** Tells whether the request is right. */
    public boolean isRight() {
        return request.faultText().isEmpty();
    }

    /** Returns how many characters the text of the fault has; 0 if the request is right. */
    public int faultLength() {
        return request.faultText().length();
    }

    /** Returns a character of the text of the fault. */
    public char fault(int place) throws IndexOutOfBoundsException {
        String text = request.faultText();
        if (place < 0 || place >= text.length()) {
            throw new IndexOutOfBoundsException("no such place");
        }
        return text.charAt(place);
    }

    // ---- what is set

    /** Lets minutes pass; returns now. */
    public int pass(int minutes) throws IllegalArgumentException, IllegalStateException {
        if (!isWithin(minutes, 1, MOST_MINUTES_AT_ONCE)) {
            throw new IllegalArgumentException("minutes out of range");
        }
        if (now + minutes > LAST_MINUTE) {
            throw new IllegalStateException("behind the last minute");
        }
        now += minutes;
        return now;
    }

    /** Sets the quota of a shipper; returns the calls before. */
    public int quota(int shipper, int calls, int minutes) throws IndexOutOfBoundsException, IllegalArgumentException {
        Shipper limited = shipperAt(shipper);
        if (!isWithin(calls, 0, MOST_QUOTA_CALLS) || !isWithin(minutes, 1, MOST_QUOTA_MINUTES)) {
            throw new IllegalArgumentException("calls or minutes out of range");
        }
        int before = limited.quotaCalls;
        limited.quotaCalls = calls;
        limited.quotaMinutes = minutes;
        return before;
    }

    /** Sets how a carrier is; returns the flaw before. */
    public int carrier(int carrier, boolean isUp, int flaw) throws IndexOutOfBoundsException, IllegalArgumentException {
        Carrier changed = carrierAt(carrier);
        if (!isWithin(flaw, 0, MOST_FLAW)) {
            throw new IllegalArgumentException("flaw out of range");
        }
        int before = changed.flaw;
        changed.isUp = isUp;
        changed.flaw = flaw;
        return before;
    }

    /** Sets the tariff of a carrier; returns the base before. */
    public int tariff(int carrier, int base, int zone, int weight)
            throws IndexOutOfBoundsException, IllegalArgumentException {
        Carrier changed = carrierAt(carrier);
        if (!isWithin(base, 0, MOST_BASE)
                || !isWithin(zone, 0, MOST_ZONE_OR_WEIGHT_AMOUNT)
                || !isWithin(weight, 0, MOST_ZONE_OR_WEIGHT_AMOUNT)) {
            throw new IllegalArgumentException("base, zone or weight out of range");
        }
        int before = changed.rates.base;
        changed.rates = new Tariff(base, zone, weight);
        return before;
    }

    // ---- calls and quotes

    /** Makes a call by the request, which is empty then; returns the number of the quote, or what became of it. */
    public int call() throws IllegalArgumentException, IllegalStateException {
        if (!request.faultText().isEmpty()) {
            throw new IllegalArgumentException("the request is not right");
        }
        if (quotes.size() >= MOST_QUOTES) {
            throw new IllegalStateException("no more quotes");
        }
        int shipper = request.valueOf(Request.SHIPPER);
        int answer = answerTo(shipperAt(shipper), carrierAt(request.valueOf(Request.CARRIER)));
        log.add(shipper, now, answer == LIMITED);
        request.empty();
        return answer;
    }

    /** Returns the price of a quote. */
    public int price(int quote) throws IndexOutOfBoundsException {
        Quote asked = quoteAt(quote);
        return asked.priceBy(asked.rates, asked.grams);
    }

    /** Returns how many minutes a quote is fixed still, this one included; 0 if its time is over. */
    public int fixed(int quote) throws IndexOutOfBoundsException {
        return Math.max(0, quoteAt(quote).end - now);
    }

    /** Returns how many calls of a shipper are left for now. */
    public int left(int shipper) throws IndexOutOfBoundsException {
        return shipperAt(shipper).callsLeft(now);
    }

    /** Returns the same, recounted from the log of all calls. */
    public int leftByLog(int shipper) throws IndexOutOfBoundsException {
        Shipper asked = shipperAt(shipper);
        int made = log.countBehind(shipper, now - asked.quotaMinutes);
        return Math.max(0, asked.quotaCalls - made);
    }

    /** Returns the circuit of a carrier: CLOSED, OPEN or HALF. */
    public int circuit(int carrier) throws IndexOutOfBoundsException {
        return carrierAt(carrier).circuitAt(now);
    }

    /** Returns how many tries a carrier has had. */
    public int tries(int carrier) throws IndexOutOfBoundsException {
        return carrierAt(carrier).triesHad;
    }

    /** Returns how many calls were made, of all kinds. */
    public int calls() {
        return log.total;
    }

    // ---- parcels and bills

    /** Books a parcel on a quote; returns the number of the parcel. */
    public int book(int quote) throws IndexOutOfBoundsException, IllegalStateException {
        Quote told = quoteAt(quote);
        int price = told.priceBy(told.rates, told.grams);
        int priceNow = told.priceBy(carrierAt(told.carrier).rates, told.grams);
        if (!told.isFixedAt(now) && priceNow != price) {
            throw new IllegalStateException("the rate is fixed no more, and the price is another one");
        }
        if (parcels.size() >= MOST_PARCELS) {
            throw new IllegalStateException("no more parcels");
        }
        parcels.add(new Parcel(told, price, now));
        return parcels.size() - 1;
    }

    /** Weighs a parcel; returns how much more it costs by that, below 0 if it costs less. */
    public int weigh(int parcel, int grams)
            throws IndexOutOfBoundsException, IllegalArgumentException, IllegalStateException {
        Parcel weighed = parcelAt(parcel);
        if (!isWithin(grams, 1, MOST_GRAMS)) {
            throw new IllegalArgumentException("grams out of range");
        }
        if (weighed.stage != BOOKED) {
            throw new IllegalStateException("the parcel is not booked");
        }
        int before = weighed.amount;
        weighed.amount = weighed.quote.priceBy(weighed.quote.rates, grams);
        return weighed.amount - before;
    }

    /** Cancels a parcel; returns what it cost. */
    public int cancel(int parcel) throws IndexOutOfBoundsException, IllegalStateException {
        Parcel cancelled = parcelAt(parcel);
        if (cancelled.stage != BOOKED || cancelled.isSettledAt(now)) {
            throw new IllegalStateException("the parcel is not booked, or it is too late");
        }
        cancelled.stage = CANCELLED;
        return cancelled.amount;
    }

    /** Returns the state of a parcel: BOOKED, CANCELLED or BILLED. */
    public int state(int parcel) throws IndexOutOfBoundsException {
        return parcelAt(parcel).stage;
    }

    /** Returns what a parcel costs, whatever its state. */
    public int cost(int parcel) throws IndexOutOfBoundsException {
        return parcelAt(parcel).amount;
    }

    /** Returns what a bill of a shipper would be now. */
    public int bill(int shipper) throws IndexOutOfBoundsException {
        return shipperAt(shipper).callCosts + dueParcelCosts(shipper);
    }

    /** Bills a shipper; returns the bill. */
    public int close(int shipper) throws IndexOutOfBoundsException {
        Shipper payer = shipperAt(shipper);
        int amount = payer.callCosts + dueParcelCosts(shipper);
        markDueParcels(shipper);
        payer.callCosts = 0;
        payer.allBills += amount;
        return amount;
    }

    /** Returns what all bills of a shipper were so far. */
    public int billed(int shipper) throws IndexOutOfBoundsException {
        return shipperAt(shipper).allBills;
    }

    private static boolean isWithin(int number, int least, int most) {
        return number >= least && number <= most;
    }

    private Shipper shipperAt(int number) {
        if (number < 0 || number >= shippers.length) {
            throw new IndexOutOfBoundsException("no such shipper");
        }
        return shippers[number];
    }

    private Carrier carrierAt(int number) {
        if (number < 0 || number >= carriers.length) {
            throw new IndexOutOfBoundsException("no such carrier");
        }
        return carriers[number];
    }

    private Quote quoteAt(int number) {
        if (number < 0 || number >= quotes.size()) {
            throw new IndexOutOfBoundsException("no such quote");
        }
        return quotes.get(number);
    }

    private Parcel parcelAt(int number) {
        if (number < 0 || number >= parcels.size()) {
            throw new IndexOutOfBoundsException("no such parcel");
        }
        return parcels.get(number);
    }

    private int answerTo(Shipper shipper, Carrier carrier) {
        if (shipper.callsLeft(now) == 0) {
            return LIMITED;
        }
        shipper.keepCall(now);
        Quote earlier = quoteFixingRequest();
        if (earlier != null) {
            shipper.callCosts += OTHER_CALL_COST;
            return addQuote(earlier.rates, earlier.end);
        }
        if (carrier.circuitAt(now) == OPEN) {
            shipper.callCosts += OTHER_CALL_COST;
            return REFUSED;
        }
        if (!carrier.answersAt(now)) {
            shipper.callCosts += OTHER_CALL_COST;
            return FAILED;
        }
        shipper.callCosts += FRESH_QUOTE_COST;
        return addQuote(carrier.rates, now + FIXED_MINUTES);
    }

    // A fixed rate has a quote that fixed it, with the same end, so the quotes need no table of rates beside them.
    private Quote quoteFixingRequest() {
        for (int i = 0; i < quotes.size(); i++) {
            Quote quote = quotes.get(i);
            if (quote.isFixedAt(now) && quote.isOnLaneOf(request)) {
                return quote;
            }
        }
        return null;
    }

    private int addQuote(Tariff rates, int end) {
        quotes.add(new Quote(request, rates, end));
        return quotes.size() - 1;
    }

    private int dueParcelCosts(int shipper) {
        int sum = 0;
        for (int i = 0; i < parcels.size(); i++) {
            Parcel parcel = parcels.get(i);
            if (parcel.isDueFrom(shipper, now)) {
                sum += parcel.amount;
            }
        }
        return sum;
    }

    private void markDueParcels(int shipper) {
        for (int i = 0; i < parcels.size(); i++) {
            Parcel parcel = parcels.get(i);
            if (parcel.isDueFrom(shipper, now)) {
                parcel.stage = BILLED;
            }
        }
    }

    /** The text of a request, and what can be read from it. */
    private static final class Request {
        static final int SHIPPER = 0, CARRIER = 1, FROM = 2, TO = 3, WEIGHT = 4, EXPRESS = 5;

        private static final String KEYS = "SCFTWX";
        private static final int NEEDED_KEYS = 5;
        private static final int MOST_SIGNS = 60;
        private static final int MOST_WEIGHT_DIGITS = 5;
        private static final char NO_SIGN = ' ';

        private final char[] signs = new char[MOST_SIGNS];
        private final int[] values = new int[6];
        private int length = 0;
        private String faultWord = "";
        private char faultKey = NO_SIGN;

        static boolean isTypable(char sign) {
            return (sign >= 'A' && sign <= 'Z') || isDigit(sign) || sign == '=' || sign == ';';
        }

        boolean isFull() {
            return length >= signs.length;
        }

        int append(char sign) {
            if (length < signs.length) {
                signs[length] = sign;
                length++;
            }
            return length;
        }

        int empty() {
            int before = length;
            length = 0;
            return before;
        }

        /** Reads the text anew; returns the text of its first fault, which is empty if the request is right. */
        String faultText() {
            readText();
            if (faultWord.isEmpty()) {
                return "";
            }
            StringBuilder text = new StringBuilder();
            text.append(faultWord);
            text.append(' ');
            text.append(faultKey);
            return text.toString();
        }

        /** Returns the value of a key as it was last read; NONE if it was not there. */
        int valueOf(int key) {
            return key >= 0 && key < values.length ? values[key] : NONE;
        }

        private void readText() {
            Arrays.fill(values, NONE);
            faultWord = "";
            int start = 0;
            for (int part = 0; part <= length && start <= length && faultWord.isEmpty(); part++) {
                int end = endOfPart(start);
                readPart(part, start, end);
                start = end + 1;
            }
            if (faultWord.isEmpty()) {
                findMissingKey();
            }
        }

        private int endOfPart(int start) {
            int end = start;
            while (end < length && signAt(end) != ';') {
                end++;
            }
            return end;
        }

        private void readPart(int part, int start, int end) {
            int key = keyIn(start, end);
            if (key < 0 || key >= values.length) {
                // Behind six parts without a fault no key is new, so the number of this part is one digit.
                setFault("UNKNOWN", (char) ('0' + part));
                return;
            }
            if (values[key] != NONE) {
                setFault("DOUBLED", KEYS.charAt(key));
                return;
            }
            values[key] = readValue(key, start + 2, end);
            if (values[key] == NONE) {
                setFault("BAD", KEYS.charAt(key));
            }
        }

        private int keyIn(int start, int end) {
            if (end - start < 2 || signAt(start + 1) != '=') {
                return NONE;
            }
            return KEYS.indexOf(signAt(start));
        }

        private int readValue(int key, int start, int end) {
            switch (key) {
                case SHIPPER:
                    return readDigit(start, end, SHIPPERS - 1);
                case CARRIER:
                    return readDigit(start, end, CARRIERS - 1);
                case FROM:
                case TO:
                    return readDigit(start, end, 7);
                case WEIGHT:
                    return readWeight(start, end);
                default:
                    return readExpress(start, end);
            }
        }

        private int readDigit(int start, int end, int most) {
            char sign = signAt(start);
            if (end - start != 1 || !isDigit(sign)) {
                return NONE;
            }
            int digit = sign - '0';
            return digit <= most ? digit : NONE;
        }

        private int readWeight(int start, int end) {
            if (!isWithin(end - start, 1, MOST_WEIGHT_DIGITS)) {
                return NONE;
            }
            int grams = 0;
            for (int i = start; i < end; i++) {
                char sign = signAt(i);
                if (!isDigit(sign)) {
                    return NONE;
                }
                grams = grams * 10 + (sign - '0');
            }
            return isWithin(grams, 1, MOST_GRAMS) ? grams : NONE;
        }

        private int readExpress(int start, int end) {
            char sign = signAt(start);
            if (end - start != 1 || (sign != 'Y' && sign != 'N')) {
                return NONE;
            }
            return sign == 'Y' ? 1 : 0;
        }

        private void findMissingKey() {
            for (int key = 0; key < NEEDED_KEYS && faultWord.isEmpty(); key++) {
                if (valueOf(key) == NONE) {
                    setFault("MISSING", KEYS.charAt(key));
                }
            }
        }

        private void setFault(String word, char key) {
            faultWord = word;
            faultKey = key;
        }

        private char signAt(int place) {
            return place >= 0 && place < length && place < signs.length ? signs[place] : NO_SIGN;
        }

        private static boolean isDigit(char sign) {
            return sign >= '0' && sign <= '9';
        }
    }

    /** Amounts that never change, so that a quote keeps those of its call when the carrier gets others. */
    private static final class Tariff {
        final int base;
        final int perZone;
        final int perWeight;

        Tariff(int base, int perZone, int perWeight) {
            this.base = base;
            this.perZone = perZone;
            this.perWeight = perWeight;
        }
    }

    /** What a shipper was told. */
    private static final class Quote {
        final int shipper;
        final int carrier;
        final int from;
        final int to;
        final int grams;
        final boolean isExpress;
        final Tariff rates;
        /** The first minute in which the rate is not fixed. */
        final int end;

        Quote(Request request, Tariff rates, int end) {
            this.shipper = request.valueOf(Request.SHIPPER);
            this.carrier = request.valueOf(Request.CARRIER);
            this.from = request.valueOf(Request.FROM);
            this.to = request.valueOf(Request.TO);
            this.grams = request.valueOf(Request.WEIGHT);
            this.isExpress = request.valueOf(Request.EXPRESS) == 1;
            this.rates = rates;
            this.end = end;
        }

        boolean isFixedAt(int minute) {
            return minute < end;
        }

        boolean isOnLaneOf(Request request) {
            return shipper == request.valueOf(Request.SHIPPER)
                    && carrier == request.valueOf(Request.CARRIER)
                    && from == request.valueOf(Request.FROM)
                    && to == request.valueOf(Request.TO);
        }

        int priceBy(Tariff tariff, int weight) {
            int hundredsBegun = (weight + 99) / 100;
            int sum = tariff.base + tariff.perZone * Math.abs(from - to) + tariff.perWeight * hundredsBegun;
            return isExpress ? sum * 3 / 2 : sum;
        }
    }

    /** What was booked on a quote. */
    private static final class Parcel {
        private static final int CANCEL_MINUTES = 30;

        final Quote quote;
        final int bookedAt;
        int amount;
        int stage = BOOKED;

        Parcel(Quote quote, int amount, int bookedAt) {
            this.quote = quote;
            this.amount = amount;
            this.bookedAt = bookedAt;
        }

        boolean isSettledAt(int minute) {
            return minute > bookedAt + CANCEL_MINUTES;
        }

        boolean isDueFrom(int shipper, int minute) {
            return stage == BOOKED && quote.shipper == shipper && isSettledAt(minute);
        }
    }

    /** A carrier behind its circuit. */
    private static final class Carrier {
        private static final int TRIES_AT_ONCE = 3;
        private static final int FAILS_THAT_OPEN = 5;
        private static final int OPEN_MINUTES = 10;

        boolean isUp = true;
        int flaw = 0;
        int triesHad = 0;
        Tariff rates = new Tariff(500, 100, 20);
        private int failsInRow = 0;
        private boolean hasOpened = false;
        private int openEnd = 0;

        int circuitAt(int minute) {
            if (!hasOpened) {
                return CLOSED;
            }
            return minute < openEnd ? OPEN : HALF;
        }

        /** Asks the carrier; tells whether a try did not fail. */
        boolean answersAt(int minute) {
            // A try that fails while the circuit is HALF opens it, so that there is just one then.
            for (int i = 0; i < TRIES_AT_ONCE && circuitAt(minute) != OPEN; i++) {
                if (succeedsAt(minute)) {
                    return true;
                }
            }
            return false;
        }

        private boolean succeedsAt(int minute) {
            triesHad++;
            boolean isFlawed = flaw > 0 && triesHad % flaw == 0;
            if (isUp && !isFlawed) {
                failsInRow = 0;
                hasOpened = false;
                return true;
            }
            failsInRow++;
            if (failsInRow >= FAILS_THAT_OPEN || circuitAt(minute) == HALF) {
                hasOpened = true;
                openEnd = minute + OPEN_MINUTES;
            }
            return false;
        }
    }

    /** A shipper's quota, and what it owes. */
    private static final class Shipper {
        int quotaCalls = 10;
        int quotaMinutes = 60;
        /** The costs of the calls since the last bill. */
        int callCosts = 0;
        int allBills = 0;
        // A quota asks for no more calls than these, so that calls before the last fifty never matter.
        private final int[] lastMinutes = new int[MOST_QUOTA_CALLS];
        private int kept = 0;
        private int next = 0;

        int callsLeft(int minute) {
            int made = 0;
            for (int i = 0; i < kept && i < lastMinutes.length; i++) {
                if (lastMinutes[i] > minute - quotaMinutes) {
                    made++;
                }
            }
            return Math.max(0, quotaCalls - made);
        }

        void keepCall(int minute) {
            if (next < 0 || next >= lastMinutes.length) {
                next = 0;
            }
            lastMinutes[next] = minute;
            next++;
            kept = Math.max(kept, next);
        }
    }

    /** All calls, in their order; behind the calls that an object is used for, the oldest ones give way. */
    private static final class CallLog {
        private static final int ROWS = 512;

        int total = 0;
        private final int[] shippers = new int[ROWS];
        private final int[] minutes = new int[ROWS];
        private final boolean[] areLimited = new boolean[ROWS];
        private int kept = 0;
        private int next = 0;

        void add(int shipper, int minute, boolean isLimited) {
            if (next < 0 || next >= ROWS) {
                next = 0;
            }
            shippers[next] = shipper;
            minutes[next] = minute;
            areLimited[next] = isLimited;
            next++;
            kept = Math.max(kept, next);
            total++;
        }

        /** Counts a shipper's calls behind a minute that were not limited. */
        int countBehind(int shipper, int minute) {
            int count = 0;
            for (int i = 0; i < kept && i < ROWS; i++) {
                if (shippers[i] == shipper && minutes[i] > minute && !areLimited[i]) {
                    count++;
                }
            }
            return count;
        }
    }
}

/** A test for each sentence of the document about calls, quotas, carriers and quotes: promises 11 to 18. */
public final class CallSentencesTest extends GateCalls {
    private static final int[] NO_SHIPPERS = {-1, 6, 7, Integer.MIN_VALUE, Integer.MAX_VALUE};
    private static final int[] NO_CARRIERS = {-1, 4, 5, Integer.MIN_VALUE, Integer.MAX_VALUE};

    public static void main(String[] args) {
        Sentences.runAll(CallSentencesTest.class);
        Answers.end();
    }

    private static void dueCalls(RateGate gate, int count, String text, int firstQuote) {
        for (int i = 0; i < count; i++) {
            Answers.due("call " + i + " by " + text, callWith(gate, text), firstQuote + i);
        }
    }

    private static RateGate twoQuotes() {
        RateGate gate = new RateGate();
        callWith(gate, "S=0;C=0;F=0;T=1;W=100");
        callWith(gate, "S=5;C=3;F=7;T=0;W=101;X=Y");
        return gate;
    }

    /** A request has 19 signs at least, so that 100 quotes need more calls than the 512 that an object is used for. */
    private static RateGate hundredQuotes() {
        RateGate gate = new RateGate();
        gate.quota(0, 50, 1);
        gate.quota(1, 50, 1);
        for (int i = 0; i < 100; i++) {
            callWith(gate, request(i % 2, 0, 0, 0));
        }
        return gate;
    }

    private static RateGate withRequest(RateGate gate, String text) {
        typeAll(gate, text);
        return gate;
    }

    // ---- promise 11

    @Holds(promise = 11, sentence = "Makes a call by the request, which is empty then.")
    static void callEmptiesTheRequestWhateverBecomesOfIt() {
        RateGate gate = new RateGate();
        Answers.due("a quote", callWith(gate, request(0, 0, 0, 0)), 0);
        Answers.due("empty behind a quote", gate.wipe(), 0);
        Answers.due("a quote by a fixed rate", callWith(gate, request(0, 0, 0, 0)), 1);
        Answers.due("empty behind that", gate.wipe(), 0);
        gate.carrier(1, false, 0);
        Answers.due("FAILED", callWith(gate, request(0, 1, 0, 0)), RateGate.FAILED);
        Answers.due("empty behind FAILED", gate.wipe(), 0);
        callWith(gate, request(0, 1, 0, 0));
        Answers.due("REFUSED", callWith(gate, request(0, 1, 0, 0)), RateGate.REFUSED);
        Answers.due("empty behind REFUSED", gate.wipe(), 0);
        gate.quota(0, 0, 1);
        Answers.due("LIMITED", callWith(gate, request(0, 1, 0, 0)), RateGate.LIMITED);
        Answers.due("empty behind LIMITED", gate.wipe(), 0);
        Answers.due("type behind a call", gate.type('S'), 1);
    }

    @Holds(promise = 11, sentence = "Returns the number of the quote; LIMITED, REFUSED or FAILED.")
    static void callReturnsTheNumberOrWhatBecameOfIt() {
        RateGate gate = new RateGate();
        Answers.due("the first quote", callWith(gate, request(0, 0, 0, 0)), 0);
        openCircuit(gate, 1);
        Answers.due("REFUSED", callWith(gate, request(0, 1, 0, 0)), -3);
        gate.carrier(2, false, 0);
        Answers.due("FAILED", callWith(gate, request(0, 2, 0, 0)), -4);
        gate.quota(0, 3, 60);
        Answers.due("LIMITED", callWith(gate, request(0, 0, 0, 0)), -2);
        Answers.due("the second quote", callWith(gate, request(1, 0, 0, 0)), 1);
    }

    @Holds(promise = 11, sentence = "Throws `IllegalArgumentException` if the request is not right")
    static void callThrowsIfTheRequestIsNotRight() {
        dueRefused("call with nothing", ARGUMENT, RateGate::new, RateGate::call);
        String[] texts = {
            "S=0;C=0;F=0;T=0", "S=0;C=0;F=0;T=0;W=0", "S=6;C=0;F=0;T=0;W=1", "S=0;C=0;F=0;T=0;W=1;", ";",
            "S=0;C=0;F=0;T=0;W=1;W=1", "S=0;C=0;F=0;T=0;W=30001", "S=0;C=0;F=0;T=0;W=1;A=1", "9".repeat(60)
        };
        for (String text : texts) {
            dueRefused("call with " + text, ARGUMENT, () -> withRequest(twoQuotes(), text), RateGate::call);
        }
        RateGate gate = typed("S=0;C=0;F=0;T=0;W=");
        Answers.dueThrow("call without a weight", ARGUMENT, gate::call);
        gate.type('1');
        Answers.due("call with the weight typed behind that", gate.call(), 0);
        Answers.due("what throws is no call", gate.calls(), 1);
    }

    @Holds(promise = 11, sentence = "Throws `IllegalStateException` if there are 100 quotes")
    static void callThrowsAt100Quotes() {
        RateGate gate = hundredQuotes();
        Answers.due("100 calls", gate.calls(), 100);
        Answers.due("the 100th quote", gate.price(99), 520);
        gate.pass(1);
        dueRefused("a call with 100 quotes", STATE,
                () -> withRequest(hundredQuotes(), request(2, 0, 0, 0)), RateGate::call);
        typeAll(gate, request(2, 1, 0, 0));
        Answers.dueThrow("one in a later minute", STATE, gate::call);
        Answers.due("its request", gate.wipe(), 19);
    }

    @Holds(promise = 11, section = "Terms",
            sentence = "If several exceptions apply to a call, the one that its comment lists first is thrown.")
    static void aWrongCallAt100QuotesThrowsTheFirst() {
        dueRefused("a wrong call with 100 quotes", ARGUMENT,
                () -> withRequest(hundredQuotes(), "S=0"), RateGate::call);
    }

    // ---- promise 12

    @Holds(promise = 12, sentence = "Returns the price of a quote.")
    static void priceOfEachQuote() {
        RateGate gate = twoQuotes();
        Answers.due("the price of 0", gate.price(0), 500 + 100 + 20);
        Answers.due("the price of 1", gate.price(1), (500 + 700 + 40) * 3 / 2);
        gate.tariff(0, 0, 0, 0);
        gate.pass(60);
        Answers.due("the price of 0, behind its time", gate.price(0), 620);
    }

    @Holds(promise = 12, sentence = "- `quote`: its number")
    static void priceTakesTheFirstAndTheLast() {
        Answers.due("price(0)", twoQuotes().price(0), 620);
        Answers.due("price(1)", twoQuotes().price(1), 1860);
    }

    @Holds(promise = 12, sentence = "Returns the price.")
    static void priceMayBe0() {
        RateGate gate = new RateGate();
        gate.tariff(0, 0, 0, 0);
        Answers.due("the least price", gate.price(callWith(gate, "S=0;C=0;F=0;T=7;W=30000;X=Y")), 0);
        gate.tariff(1, 10000, 1000, 1000);
        Answers.due("the greatest price", gate.price(callWith(gate, "S=0;C=1;F=0;T=7;W=30000;X=Y")), 475500);
    }

    @Holds(promise = 12, sentence = "Throws `IndexOutOfBoundsException` if there is no such quote")
    static void priceThrowsWithoutTheQuote() {
        dueRefused("price(0) of none", INDEX, RateGate::new, gate -> gate.price(0));
        for (int quote : new int[] {-1, 2, 3, 99, 100, Integer.MIN_VALUE, Integer.MAX_VALUE}) {
            dueRefused("price(" + quote + ")", INDEX, CallSentencesTest::twoQuotes, gate -> gate.price(quote));
        }
    }

    // ---- promise 13

    @Holds(promise = 13, sentence = "Returns how many minutes a quote is fixed still, this one included.")
    static void fixedCountsThisMinute() {
        RateGate gate = twoQuotes();
        for (int minute = 0; minute < 60; minute++) {
            Answers.due("fixed, " + minute + " minutes behind", gate.fixed(0), 60 - minute);
            gate.pass(1);
        }
        Answers.due("fixed, 60 minutes behind", gate.fixed(0), 0);
    }

    @Holds(promise = 13, sentence = "- `quote`: its number")
    static void fixedTakesTheFirstAndTheLast() {
        RateGate gate = new RateGate();
        callWith(gate, request(0, 0, 0, 0));
        gate.pass(7);
        callWith(gate, request(0, 0, 0, 1));
        Answers.due("fixed(0)", gate.fixed(0), 53);
        Answers.due("fixed(1)", gate.fixed(1), 60);
    }

    @Holds(promise = 13, sentence = "Returns the minutes; 0 if its time is over.")
    static void fixedIs0IfItsTimeIsOver() {
        RateGate gate = twoQuotes();
        gate.pass(59);
        Answers.due("the last minute", gate.fixed(0), 1);
        gate.pass(1);
        Answers.due("the first minute behind", gate.fixed(0), 0);
        callWith(gate, "S=0;C=0;F=0;T=1;W=100");
        Answers.due("a quote fixed anew", gate.fixed(2), 60);
        Answers.due("that of before", gate.fixed(0), 0);
        gate.pass(1);
        Answers.due("2 minutes behind", gate.fixed(0), 0);
        passAll(gate, 20000 - 61);
        Answers.due("in the last minute of all", gate.fixed(0), 0);
    }

    @Holds(promise = 13, sentence = "Throws `IndexOutOfBoundsException` if there is no such quote")
    static void fixedThrowsWithoutTheQuote() {
        dueRefused("fixed(0) of none", INDEX, RateGate::new, gate -> gate.fixed(0));
        for (int quote : new int[] {-1, 2, 3, 99, 100, Integer.MIN_VALUE, Integer.MAX_VALUE}) {
            dueRefused("fixed(" + quote + ")", INDEX, CallSentencesTest::twoQuotes, gate -> gate.fixed(quote));
        }
    }

    // ---- promises 14 and 15

    @Holds(promise = 14, sentence = "Returns how many calls of a shipper are left for now.")
    static void leftCountsDownAndUp() {
        RateGate gate = new RateGate();
        for (int i = 0; i < 10; i++) {
            Answers.due("left behind " + i, gate.left(1), 10 - i);
            callWith(gate, request(1, 0, 0, 0));
        }
        Answers.due("left behind all", gate.left(1), 0);
        gate.pass(59);
        Answers.due("left, 59 minutes behind", gate.left(1), 0);
        gate.pass(1);
        Answers.due("left, 60 minutes behind", gate.left(1), 10);
    }

    @Holds(promise = 14, sentence = "- `shipper`: 0 to 5")
    static void leftTakesTheShippers0To5() {
        RateGate gate = new RateGate();
        for (int shipper = 0; shipper <= 5; shipper++) {
            gate.quota(shipper, 20 + shipper, 60);
            callWith(gate, request(shipper, 0, 0, 0));
        }
        for (int shipper = 0; shipper <= 5; shipper++) {
            Answers.due("left(" + shipper + ")", gate.left(shipper), 19 + shipper);
        }
    }

    @Holds(promise = {14, 15}, sentence = "Returns the calls, at least 0.")
    static void leftIsAtLeast0() {
        RateGate gate = new RateGate();
        dueCalls(gate, 3, request(0, 0, 0, 0), 0);
        gate.quota(0, 3, 60);
        dueLeft(gate, "as many as the quota", 0, 0);
        gate.quota(0, 2, 60);
        dueLeft(gate, "more than the quota", 0, 0);
        gate.quota(0, 0, 60);
        dueLeft(gate, "a quota of 0", 0, 0);
        gate.pass(60);
        dueLeft(gate, "a quota of 0, when they are over", 0, 0);
    }

    @Holds(promise = 14, sentence = "Throws `IndexOutOfBoundsException` if there is no such shipper")
    static void leftThrowsWithoutTheShipper() {
        for (int shipper : NO_SHIPPERS) {
            dueRefused("left(" + shipper + ")", INDEX, GateCalls::busyGate, gate -> gate.left(shipper));
        }
    }

    @Holds(promise = 15, sentence = "Returns the same, recounted from the log of all calls.")
    static void leftByLogIsTheSame() {
        RateGate gate = new RateGate();
        gate.quota(0, 7, 5);
        gate.carrier(1, false, 0);
        for (int i = 0; i < 15; i++) {
            callWith(gate, request(i % 4 / 3, i % 2, 0, 0));
            gate.pass(1);
            Answers.due("the same, call " + i, gate.leftByLog(0), gate.left(0));
            Answers.due("the same of another, call " + i, gate.leftByLog(1), gate.left(1));
        }
        Answers.due("recounted", gate.leftByLog(0), 4);
        Answers.due("recounted of another", gate.leftByLog(1), 7);
        gate.quota(0, 12, 16);
        Answers.due("recounted from all", gate.leftByLog(0), 0);
        gate.quota(0, 13, 16);
        Answers.due("recounted from all, with a greater quota", gate.leftByLog(0), 1);
        Answers.due("the same from all", gate.left(0), 1);
    }

    @Holds(promise = 15, sentence = "- `shipper`: 0 to 5")
    static void leftByLogTakesTheShippers0To5() {
        RateGate gate = new RateGate();
        for (int shipper = 0; shipper <= 5; shipper++) {
            gate.quota(shipper, 20 + shipper, 60);
            callWith(gate, request(shipper, 0, 0, 0));
        }
        for (int shipper = 0; shipper <= 5; shipper++) {
            Answers.due("leftByLog(" + shipper + ")", gate.leftByLog(shipper), 19 + shipper);
        }
    }

    @Holds(promise = 15, sentence = "Throws `IndexOutOfBoundsException` if there is no such shipper")
    static void leftByLogThrowsWithoutTheShipper() {
        for (int shipper : NO_SHIPPERS) {
            dueRefused("leftByLog(" + shipper + ")", INDEX, GateCalls::busyGate, gate -> gate.leftByLog(shipper));
        }
    }

    // ---- promise 16

    @Holds(promise = 16, sentence = "Returns the circuit of a carrier.")
    static void circuitIsThatOfTheCarrier() {
        RateGate gate = new RateGate();
        openCircuit(gate, 1);
        Answers.due("of the carrier before", gate.circuit(0), RateGate.CLOSED);
        Answers.due("of the carrier", gate.circuit(1), RateGate.OPEN);
        Answers.due("of the carrier behind", gate.circuit(2), RateGate.CLOSED);
    }

    @Holds(promise = 16, sentence = "- `carrier`: 0 to 3")
    static void circuitTakesTheCarriers0To3() {
        RateGate gate = new RateGate();
        for (int carrier = 0; carrier <= 3; carrier++) {
            Answers.due("circuit(" + carrier + ")", gate.circuit(carrier), RateGate.CLOSED);
            openCircuit(gate, carrier);
        }
        for (int carrier = 0; carrier <= 3; carrier++) {
            Answers.due("circuit(" + carrier + ")", gate.circuit(carrier), RateGate.OPEN);
        }
    }

    @Holds(promise = 16, sentence = "Returns CLOSED, OPEN or HALF.")
    static void circuitReturnsEachOfTheThree() {
        RateGate gate = new RateGate();
        Answers.due("CLOSED", gate.circuit(0), 0);
        openCircuit(gate, 0);
        Answers.due("OPEN", gate.circuit(0), 1);
        gate.pass(10);
        Answers.due("HALF", gate.circuit(0), 2);
        gate.carrier(0, true, 0);
        Answers.due("HALF, though the carrier is up", gate.circuit(0), 2);
        callWith(gate, request(0, 0, 0, 0));
        Answers.due("CLOSED by a try", gate.circuit(0), 0);
    }

    @Holds(promise = 16, sentence = "Throws `IndexOutOfBoundsException` if there is no such carrier")
    static void circuitThrowsWithoutTheCarrier() {
        for (int carrier : NO_CARRIERS) {
            dueRefused("circuit(" + carrier + ")", INDEX, GateCalls::busyGate, gate -> gate.circuit(carrier));
        }
    }

    // ---- promise 17

    @Holds(promise = 17, sentence = "Returns how many tries a carrier has had.")
    static void triesCountsThoseThatFailToo() {
        RateGate gate = new RateGate();
        Answers.due("at first", gate.tries(2), 0);
        callWith(gate, request(0, 2, 0, 0));
        Answers.due("a try", gate.tries(2), 1);
        callWith(gate, request(0, 2, 0, 0));
        Answers.due("none by a fixed rate", gate.tries(2), 1);
        gate.carrier(2, false, 0);
        callWith(gate, request(0, 2, 0, 1));
        Answers.due("three that fail", gate.tries(2), 4);
        Answers.due("of another", gate.tries(3), 0);
    }

    @Holds(promise = 17, sentence = "- `carrier`: 0 to 3")
    static void triesTakesTheCarriers0To3() {
        RateGate gate = new RateGate();
        for (int carrier = 0; carrier <= 3; carrier++) {
            for (int i = 0; i <= carrier; i++) {
                callWith(gate, request(carrier, carrier, 0, i));
            }
        }
        for (int carrier = 0; carrier <= 3; carrier++) {
            Answers.due("tries(" + carrier + ")", gate.tries(carrier), carrier + 1);
        }
    }

    @Holds(promise = 17, sentence = "Returns the tries.")
    static void triesStayWhenNothingIsTried() {
        RateGate gate = new RateGate();
        openCircuit(gate, 0);
        Answers.due("up to OPEN", gate.tries(0), 5);
        callWith(gate, request(0, 0, 0, 0));
        Answers.due("behind REFUSED", gate.tries(0), 5);
        gate.quota(1, 0, 1);
        gate.pass(10);
        callWith(gate, request(1, 0, 0, 0));
        Answers.due("behind LIMITED", gate.tries(0), 5);
        gate.carrier(0, true, 3);
        Answers.due("behind a new flaw", gate.tries(0), 5);
    }

    @Holds(promise = 17, sentence = "Throws `IndexOutOfBoundsException` if there is no such carrier")
    static void triesThrowsWithoutTheCarrier() {
        for (int carrier : NO_CARRIERS) {
            dueRefused("tries(" + carrier + ")", INDEX, GateCalls::busyGate, gate -> gate.tries(carrier));
        }
    }

    // ---- promise 18

    @Holds(promise = 18, sentence = "Returns how many calls were made, of all kinds.")
    static void callsCountsAllKinds() {
        RateGate gate = new RateGate();
        Answers.due("at first", gate.calls(), 0);
        callWith(gate, request(0, 0, 0, 0));
        Answers.due("a quote", gate.calls(), 1);
        callWith(gate, request(0, 0, 0, 0));
        Answers.due("a quote by a fixed rate", gate.calls(), 2);
        openCircuit(gate, 1);
        Answers.due("two FAILED", gate.calls(), 4);
        callWith(gate, request(0, 1, 0, 0));
        Answers.due("a REFUSED one", gate.calls(), 5);
        gate.quota(0, 0, 1);
        callWith(gate, request(0, 1, 0, 0));
        Answers.due("a LIMITED one", gate.calls(), 6);
        Answers.dueThrow("one that throws", ARGUMENT, gate::call);
        Answers.due("behind one that throws", gate.calls(), 6);
        passAll(gate, 20000);
        Answers.due("in the last minute", gate.calls(), 6);
    }

    // ---- the section Quotas

    @Holds(promise = {8, 11, 14, 15}, section = "Quotas",
            sentence = "A shipper may make so many calls in so many minutes, 10 in 60 at first")
    static void tenCallsIn60MinutesAtFirst() {
        RateGate gate = new RateGate();
        dueCalls(gate, 9, request(4, 0, 0, 0), 0);
        dueLeft(gate, "the 10th call", 4, 1);
        dueCalls(gate, 1, request(4, 0, 0, 0), 9);
        dueLeft(gate, "the 11th call", 4, 0);
        Answers.due("the 11th call", callWith(gate, request(4, 0, 0, 0)), RateGate.LIMITED);
        gate.pass(59);
        Answers.due("59 minutes behind", callWith(gate, request(4, 0, 0, 0)), RateGate.LIMITED);
        gate.pass(1);
        dueLeft(gate, "60 minutes behind", 4, 10);
        Answers.due("60 minutes behind", callWith(gate, request(4, 0, 0, 0)), 10);
    }

    @Holds(promise = {8, 11, 14, 15}, section = "Quotas", sentence = "a call is LIMITED if at least so many calls")
    static void limitedAtThisManyCallsAndMore() {
        RateGate gate = new RateGate();
        gate.quota(0, 2, 60);
        dueCalls(gate, 2, request(0, 0, 0, 0), 0);
        Answers.due("the third of 2", callWith(gate, request(0, 0, 0, 0)), RateGate.LIMITED);
        gate.quota(0, 1, 60);
        Answers.due("the third of 1", callWith(gate, request(0, 0, 0, 0)), RateGate.LIMITED);
        gate.quota(0, 0, 60);
        Answers.due("the third of 0", callWith(gate, request(0, 0, 0, 0)), RateGate.LIMITED);
        gate.quota(0, 3, 60);
        Answers.due("the third of 3", callWith(gate, request(0, 0, 0, 0)), 2);
        gate.quota(1, 0, 1);
        Answers.due("the first of 0", callWith(gate, request(1, 0, 0, 0)), RateGate.LIMITED);
    }

    @Holds(promise = {11, 14, 15}, section = "Quotas", sentence = "of the shipper, not LIMITED themselves, were made")
    static void onlyTheShippersCallsThatWereNotLimitedCount() {
        RateGate gate = new RateGate();
        dueCalls(gate, 4, request(1, 0, 0, 0), 0);
        dueLeft(gate, "4 calls of another", 0, 10);
        gate.quota(0, 1, 60);
        dueCalls(gate, 1, request(0, 0, 0, 0), 4);
        for (int i = 0; i < 3; i++) {
            Answers.due("one of 1", callWith(gate, request(0, 0, 0, 0)), RateGate.LIMITED);
        }
        gate.quota(0, 2, 60);
        dueLeft(gate, "a call and 3 LIMITED ones", 0, 1);
        openCircuit(gate, 1);
        dueLeft(gate, "2 FAILED ones", 5, 8);
        Answers.due("REFUSED", callWith(gate, request(5, 1, 0, 0)), RateGate.REFUSED);
        dueLeft(gate, "2 FAILED ones and a REFUSED one", 5, 7);
        dueCalls(gate, 2, request(5, 0, 0, 0), 5);
        dueLeft(gate, "one by a fixed rate as well", 5, 5);
    }

    @Holds(promise = {8, 11, 14, 15}, section = "Quotas",
            sentence = "in the last so many minutes, the minute now included.")
    static void theMinuteNowIsOneOfTheMinutes() {
        RateGate gate = new RateGate();
        gate.quota(0, 1, 1);
        dueCalls(gate, 1, request(0, 0, 0, 0), 0);
        Answers.due("in 1 minute, the same", callWith(gate, request(0, 0, 0, 0)), RateGate.LIMITED);
        gate.pass(1);
        dueLeft(gate, "in 1 minute, the next", 0, 1);
        gate.quota(0, 1, 2);
        Answers.due("in 2 minutes, the next", callWith(gate, request(0, 0, 0, 0)), RateGate.LIMITED);
        gate.pass(1);
        dueLeft(gate, "in 2 minutes, the third", 0, 1);
        gate.quota(0, 1, 1440);
        Answers.due("in more than have passed", callWith(gate, request(0, 0, 0, 0)), RateGate.LIMITED);
        passAll(gate, 1437);
        Answers.due("1439 minutes behind", callWith(gate, request(0, 0, 0, 0)), RateGate.LIMITED);
        gate.pass(1);
        Answers.due("1440 minutes behind", callWith(gate, request(0, 0, 0, 0)), 1);
    }

    @Holds(promise = {11, 14, 15}, section = "Quotas", sentence = "the last so many minutes")
    static void theWindowSlidesCallByCall() {
        RateGate gate = new RateGate();
        gate.quota(0, 3, 10);
        for (int i = 0; i < 3; i++) {
            dueCalls(gate, 1, request(0, 0, 0, 0), i);
            gate.pass(3);
        }
        dueLeft(gate, "at the minute 9", 0, 0);
        gate.pass(1);
        dueLeft(gate, "at the minute 10", 0, 1);
        gate.pass(2);
        dueLeft(gate, "at the minute 12", 0, 1);
        gate.pass(1);
        dueLeft(gate, "at the minute 13", 0, 2);
        gate.pass(2);
        dueLeft(gate, "at the minute 15", 0, 2);
        gate.pass(1);
        dueLeft(gate, "at the minute 16", 0, 3);
    }

    // ---- the section Carriers

    @Holds(promise = {9, 11}, section = "Carriers",
            sentence = "A carrier is up, as at first, or down, and has a flaw, 0 at first.")
    static void carriersAreUpWithoutAFlawAtFirst() {
        RateGate gate = new RateGate();
        for (int carrier = 0; carrier < 4; carrier++) {
            dueCalls(gate, 1, request(0, carrier, 0, 0), carrier);
            Answers.due("tries of " + carrier, gate.tries(carrier), 1);
            Answers.due("the flaw of " + carrier, gate.carrier(carrier, true, 0), 0);
        }
    }

    @Holds(promise = {9, 11, 17}, section = "Carriers", sentence = "A try fails if the carrier is down")
    static void aTryFailsIfTheCarrierIsDown() {
        RateGate gate = new RateGate();
        gate.carrier(0, false, 0);
        Answers.due("down, without a flaw", callWith(gate, request(0, 0, 0, 0)), RateGate.FAILED);
        gate.carrier(0, true, 0);
        Answers.due("up", callWith(gate, request(0, 0, 0, 0)), 0);
        gate.carrier(0, false, 10);
        Answers.due("down, with a flaw", callWith(gate, request(0, 0, 0, 1)), RateGate.FAILED);
        Answers.due("all tries", gate.tries(0), 3 + 1 + 3);
    }

    @Holds(promise = {9, 11, 17}, section = "Carriers", sentence = "the flaw is above 0")
    static void noTryFailsByAFlawOf0() {
        RateGate gate = new RateGate();
        gate.carrier(0, true, 0);
        for (int i = 0; i < 8; i++) {
            dueCalls(gate, 1, request(0, 0, 0, i), i);
        }
        Answers.due("tries without a flaw", gate.tries(0), 8);
        gate.carrier(1, true, 1);
        Answers.due("with a flaw of 1", callWith(gate, request(1, 1, 0, 0)), RateGate.FAILED);
        Answers.due("tries with a flaw of 1", gate.tries(1), 3);
    }

    @Holds(promise = {9, 11, 17}, section = "Carriers",
            sentence = "the number of tries that the carrier has had, this one included, is divisible by it.")
    static void aTryFailsIfItsNumberIsDivisible() {
        int[] triesByFlaw2 = {1, 3, 5, 7};
        int[] triesByFlaw3 = {1, 2, 4, 5};
        int[] triesByFlaw10 = {1, 2, 3, 4, 5, 6, 7, 8, 9, 11, 12};
        dueTries(2, triesByFlaw2);
        dueTries(3, triesByFlaw3);
        dueTries(10, triesByFlaw10);
        RateGate gate = new RateGate();
        gate.carrier(0, false, 0);
        Answers.due("three fails while down", callWith(gate, request(0, 0, 0, 0)), RateGate.FAILED);
        gate.carrier(0, true, 4);
        Answers.due("the 4th fails, the 5th does not", callWith(gate, request(0, 0, 0, 0)), 0);
        Answers.due("those while down are counted", gate.tries(0), 5);
    }

    private static void dueTries(int flaw, int[] tries) {
        RateGate gate = new RateGate();
        gate.carrier(0, true, flaw);
        for (int i = 0; i < tries.length; i++) {
            dueCalls(gate, 1, request(i % 2, 0, 0, i / 2), i);
            Answers.due("tries by the flaw " + flaw, gate.tries(0), tries[i]);
        }
    }

    @Holds(promise = {1, 16}, section = "Carriers", sentence = "A carrier has a circuit, CLOSED at first.")
    static void circuitsAreClosedAtFirst() {
        RateGate gate = new RateGate();
        for (int carrier = 0; carrier < 4; carrier++) {
            Answers.due("at first", gate.circuit(carrier), RateGate.CLOSED);
        }
        passAll(gate, 20000);
        Answers.due("at last", gate.circuit(3), RateGate.CLOSED);
    }

    @Holds(promise = {11, 16}, section = "Carriers",
            sentence = "When it opens, it is OPEN for this minute and the 9 ones behind it; then it is HALF.")
    static void openForTenMinutesThenHalf() {
        RateGate gate = new RateGate();
        gate.pass(3);
        openCircuit(gate, 0);
        for (int minute = 1; minute <= 9; minute++) {
            gate.pass(1);
            Answers.due("OPEN, " + minute + " minutes behind", gate.circuit(0), RateGate.OPEN);
        }
        Answers.due("REFUSED, 9 minutes behind", callWith(gate, request(0, 0, 0, 0)), RateGate.REFUSED);
        gate.pass(1);
        Answers.due("HALF, 10 minutes behind", gate.circuit(0), RateGate.HALF);
        Answers.due("FAILED, 10 minutes behind", callWith(gate, request(0, 0, 0, 0)), RateGate.FAILED);
        gate.pass(9);
        Answers.due("OPEN again, 9 minutes behind", gate.circuit(0), RateGate.OPEN);
        gate.pass(1);
        Answers.due("HALF again, 10 minutes behind", gate.circuit(0), RateGate.HALF);
        passAll(gate, 20000 - 23);
        Answers.due("HALF in the last minute", gate.circuit(0), RateGate.HALF);
    }

    @Holds(promise = {11, 16}, section = "Carriers",
            sentence = "By a try that does not fail it is CLOSED, and the fails in a row are 0.")
    static void aTryThatDoesNotFailClosesAndForgetsTheFails() {
        RateGate gate = new RateGate();
        openCircuit(gate, 0);
        gate.pass(10);
        gate.carrier(0, true, 0);
        dueCalls(gate, 1, request(0, 0, 0, 0), 0);
        Answers.due("by a try while HALF", gate.circuit(0), RateGate.CLOSED);
        gate.pass(10);
        gate.carrier(0, false, 0);
        Answers.due("3 fails anew", callWith(gate, request(0, 0, 0, 1)), RateGate.FAILED);
        Answers.due("behind 3 fails anew", gate.circuit(0), RateGate.CLOSED);
        gate.carrier(0, true, 10);
        Answers.due("a 4th fail, and one that does not", callWith(gate, request(0, 0, 0, 1)), 1);
        Answers.due("behind that", gate.tries(0), 5 + 1 + 3 + 2);
        gate.carrier(0, false, 0);
        Answers.due("3 fails again", callWith(gate, request(0, 0, 0, 2)), RateGate.FAILED);
        Answers.due("behind 3 fails again", gate.circuit(0), RateGate.CLOSED);
        Answers.due("2 more", callWith(gate, request(0, 0, 0, 2)), RateGate.FAILED);
        Answers.due("behind 5 fails", gate.circuit(0), RateGate.OPEN);
        Answers.due("all tries", gate.tries(0), 11 + 5);
    }

    @Holds(promise = {11, 16}, section = "Carriers",
            sentence = "By a try that fails the fails in a row are 1 more, and it opens, if they are 5 or more")
    static void theFifthFailInARowOpens() {
        RateGate gate = new RateGate();
        gate.carrier(0, false, 0);
        callWith(gate, request(0, 0, 0, 0));
        Answers.due("behind 3 fails", gate.circuit(0), RateGate.CLOSED);
        passAll(gate, 1000);
        gate.carrier(0, true, 4);
        Answers.due("behind a 4th fail it is tried again", callWith(gate, request(0, 0, 0, 0)), 0);
        gate.carrier(1, false, 0);
        callWith(gate, request(1, 1, 0, 0));
        passAll(gate, 1000);
        callWith(gate, request(2, 1, 1, 1));
        Answers.due("behind the 5th fail", gate.circuit(1), RateGate.OPEN);
        Answers.due("no try behind the 5th fail", gate.tries(1), 5);
    }

    @Holds(promise = {11, 16}, section = "Carriers", sentence = "or it was HALF.")
    static void aFailWhileHalfOpens() {
        RateGate gate = new RateGate();
        openCircuit(gate, 0);
        for (int i = 1; i <= 3; i++) {
            gate.pass(10);
            Answers.due("HALF", gate.circuit(0), RateGate.HALF);
            Answers.due("a fail while HALF", callWith(gate, request(0, 0, 0, 0)), RateGate.FAILED);
            Answers.due("behind it", gate.circuit(0), RateGate.OPEN);
            Answers.due("one try", gate.tries(0), 5 + i);
        }
    }

    @Holds(promise = {11, 17}, section = "Carriers",
            sentence = "To ask a carrier is: if the circuit is OPEN, it is not asked at all")
    static void anOpenCircuitIsNotAsked() {
        RateGate gate = new RateGate();
        openCircuit(gate, 0);
        gate.carrier(0, true, 0);
        Answers.due("in the same minute, though up", callWith(gate, request(0, 0, 0, 0)), RateGate.REFUSED);
        gate.pass(9);
        Answers.due("9 minutes behind, though up", callWith(gate, request(1, 0, 0, 0)), RateGate.REFUSED);
        Answers.due("no try", gate.tries(0), 5);
    }

    @Holds(promise = {11, 17}, section = "Carriers", sentence = "if it is HALF, one try")
    static void aHalfCircuitIsTriedOnce() {
        RateGate gate = new RateGate();
        openCircuit(gate, 0);
        gate.pass(10);
        gate.carrier(0, true, 6);
        Answers.due("the 6th try, which fails", callWith(gate, request(0, 0, 0, 0)), RateGate.FAILED);
        Answers.due("one try that fails", gate.tries(0), 6);
        gate.pass(10);
        Answers.due("the 7th try, which does not", callWith(gate, request(0, 0, 0, 0)), 0);
        Answers.due("one try that does not fail", gate.tries(0), 7);
    }

    @Holds(promise = {11, 17}, section = "Carriers",
            sentence = "if it is CLOSED, up to 3 tries, until one does not fail, or the circuit opens.")
    static void aClosedCircuitIsTriedUpTo3Times() {
        RateGate gate = new RateGate();
        dueCalls(gate, 1, request(0, 0, 0, 0), 0);
        Answers.due("one try", gate.tries(0), 1);
        gate.carrier(0, true, 2);
        dueCalls(gate, 1, request(0, 0, 0, 1), 1);
        Answers.due("a fail, and one that does not", gate.tries(0), 3);
        gate.carrier(0, false, 0);
        Answers.due("three fails", callWith(gate, request(0, 0, 0, 2)), RateGate.FAILED);
        Answers.due("three tries", gate.tries(0), 6);
        Answers.due("the circuit opens", callWith(gate, request(0, 0, 0, 2)), RateGate.FAILED);
        Answers.due("two tries", gate.tries(0), 8);
        gate.carrier(1, false, 0);
        callWith(gate, request(1, 1, 0, 0));
        gate.carrier(1, true, 4);
        dueCalls(gate, 1, request(1, 1, 0, 0), 2);
        gate.carrier(1, true, 1);
        callWith(gate, request(1, 1, 0, 1));
        Answers.due("three tries behind one that did not fail", gate.tries(1), 3 + 2 + 3);
    }

    // ---- the section Calls and quotes

    @Holds(promise = {10, 11, 12}, section = "Calls and quotes",
            sentence = "A carrier has a tariff: a base, an amount for each zone, and one for each 100 grams begun; "
                    + "500, 100 and 20 at first.")
    static void tariffsAre500And100And20AtFirst() {
        for (int carrier = 0; carrier < 4; carrier++) {
            RateGate gate = new RateGate();
            Answers.due("1 gram", gate.price(callWith(gate, request(0, carrier, 0, 0))), 520);
            Answers.due("1 zone", gate.price(callWith(gate, request(0, carrier, 0, 1))), 620);
            String[] grams = {"99", "100", "101", "199", "200", "201", "29900", "29901", "30000"};
            int[] prices = {520, 520, 540, 540, 540, 560, 6480, 6500, 6500};
            for (int i = 0; i < grams.length; i++) {
                String text = "S=" + i % 3 + ";C=" + carrier + ";F=0;T=0;W=" + grams[i];
                Answers.due(grams[i] + " grams", gate.price(callWith(gate, text)), prices[i]);
            }
        }
    }

    private static int priceBy(int base, String rest) {
        RateGate gate = new RateGate();
        gate.tariff(0, base, 1000, 10);
        return gate.price(callWith(gate, "S=0;C=0;" + rest));
    }

    @Holds(promise = {10, 12}, section = "Calls and quotes",
            sentence = "The price by a tariff is the base, the amount for a zone times the size of the difference of "
                    + "the zones, and the amount for 100 grams times those begun, together")
    static void priceIsTheBaseTheZonesAndTheWeight() {
        Answers.due("no zone between", priceBy(1, "F=7;T=7;W=1"), 11);
        Answers.due("1 up", priceBy(1, "F=0;T=1;W=1"), 1011);
        Answers.due("1 down", priceBy(1, "F=1;T=0;W=1"), 1011);
        Answers.due("7 up", priceBy(1, "F=0;T=7;W=1"), 7011);
        Answers.due("7 down", priceBy(1, "F=7;T=0;W=1"), 7011);
        Answers.due("the heaviest", priceBy(0, "F=7;T=0;W=30000"), 10000);
        Answers.due("not express", priceBy(1, "F=7;T=7;W=1;X=N"), 11);
    }

    @Holds(promise = {10, 12}, section = "Calls and quotes",
            sentence = "for express that times 3, divided by 2, rounded down.")
    static void expressIsRoundedDown() {
        Answers.due("11 times 3, by 2", priceBy(1, "F=0;T=0;W=1;X=Y"), 16);
        Answers.due("10 times 3, by 2", priceBy(0, "F=0;T=0;W=1;X=Y"), 15);
        Answers.due("13 times 3, by 2", priceBy(3, "F=0;T=0;W=1;X=Y"), 19);
        RateGate gate = new RateGate();
        gate.tariff(0, 1, 0, 0);
        Answers.due("1 times 3, by 2", gate.price(callWith(gate, "S=0;C=0;F=0;T=0;W=1;X=Y")), 1);
        gate.tariff(1, 0, 1, 1);
        Answers.due("3 times 3, by 2, together", gate.price(callWith(gate, "S=0;C=1;F=0;T=2;W=1;X=Y")), 4);
        gate.tariff(2, 0, 0, 0);
        Answers.due("0 times 3, by 2", gate.price(callWith(gate, "S=0;C=2;F=0;T=2;W=1;X=Y")), 0);
    }

    @Holds(promise = {11, 24}, section = "Calls and quotes",
            sentence = "A call is made by the request. It is LIMITED, which costs nothing")
    static void limitedComesFirstAndCostsNothing() {
        RateGate gate = new RateGate();
        dueCalls(gate, 1, request(0, 0, 0, 0), 0);
        gate.quota(0, 1, 60);
        Answers.due("though a rate is fixed", callWith(gate, request(0, 0, 0, 0)), RateGate.LIMITED);
        Answers.due("though the carrier is up", callWith(gate, request(0, 1, 0, 0)), RateGate.LIMITED);
        openCircuit(gate, 2);
        Answers.due("though a circuit is OPEN", callWith(gate, request(0, 2, 0, 0)), RateGate.LIMITED);
        Answers.due("what the call before them costs", gate.bill(0), 3);
        Answers.due("no try of 0", gate.tries(0), 1);
        Answers.due("no try of 1", gate.tries(1), 0);
        Answers.dueThrow("no quote", INDEX, () -> gate.price(1));
    }

    @Holds(promise = {11, 24}, section = "Calls and quotes",
            sentence = "otherwise, if a rate is fixed for its shipper, carrier, and both zones, "
                    + "it gets a quote by that, which costs 1")
    static void aFixedRateCosts1AndAsksNobody() {
        RateGate gate = new RateGate();
        dueCalls(gate, 1, request(0, 0, 1, 2), 0);
        gate.tariff(0, 1, 1, 1);
        gate.pass(59);
        openCircuit(gate, 0);
        Answers.due("by the rate, though OPEN", callWith(gate, "S=0;C=0;F=1;T=2;W=101;X=Y"), 1);
        Answers.due("its price", gate.price(1), (500 + 100 + 40) * 3 / 2);
        Answers.due("what both cost", gate.bill(0), 3 + 1);
        Answers.due("no try", gate.tries(0), 1 + 5);
        Answers.due("no rate for the shipper 1", callWith(gate, request(1, 0, 1, 2)), RateGate.REFUSED);
        Answers.due("no rate to the zone 1", callWith(gate, request(0, 0, 1, 1)), RateGate.REFUSED);
        Answers.due("no rate from the zone 2", callWith(gate, request(0, 0, 2, 2)), RateGate.REFUSED);
        Answers.due("no rate of the carrier 1", callWith(gate, request(0, 1, 1, 2)), 2);
        Answers.due("what all cost", gate.bill(0), 3 + 1 + 1 + 1 + 3);
    }

    @Holds(promise = 11, section = "Calls and quotes",
            sentence = "otherwise its carrier is asked: if that is not asked at all, the call is REFUSED")
    static void refusedIfTheCarrierIsNotAsked() {
        RateGate gate = new RateGate();
        openCircuit(gate, 3);
        Answers.due("in the minute of the opening", callWith(gate, request(0, 3, 0, 0)), RateGate.REFUSED);
        gate.pass(9);
        Answers.due("in the last OPEN minute", callWith(gate, request(0, 3, 0, 0)), RateGate.REFUSED);
        gate.pass(1);
        Answers.due("in the first HALF minute", callWith(gate, request(0, 3, 0, 0)), RateGate.FAILED);
        Answers.due("behind that fail", callWith(gate, request(0, 3, 0, 0)), RateGate.REFUSED);
        Answers.dueThrow("no quote", INDEX, () -> gate.price(0));
    }

    @Holds(promise = 11, section = "Calls and quotes", sentence = "if all tries fail it is FAILED")
    static void failedIfAllTriesFail() {
        RateGate gate = new RateGate();
        gate.carrier(0, true, 1);
        Answers.due("3 of 3", callWith(gate, request(0, 0, 0, 0)), RateGate.FAILED);
        Answers.due("2 of 2, up to OPEN", callWith(gate, request(0, 0, 0, 0)), RateGate.FAILED);
        gate.pass(10);
        Answers.due("1 of 1, while HALF", callWith(gate, request(0, 0, 0, 0)), RateGate.FAILED);
        gate.carrier(1, true, 2);
        dueCalls(gate, 1, request(0, 1, 0, 0), 0);
        Answers.due("1 of 2 is no FAILED one", callWith(gate, request(0, 1, 0, 1)), 1);
    }

    @Holds(promise = {11, 24}, section = "Calls and quotes", sentence = "each of which costs 1")
    static void refusedAndFailedCost1Each() {
        RateGate gate = new RateGate();
        gate.carrier(0, false, 0);
        callWith(gate, request(0, 0, 0, 0));
        Answers.due("FAILED by 3 tries", gate.bill(0), 1);
        callWith(gate, request(0, 0, 0, 0));
        Answers.due("FAILED by 2 tries", gate.bill(0), 2);
        callWith(gate, request(0, 0, 0, 0));
        Answers.due("REFUSED", gate.bill(0), 3);
        gate.pass(10);
        callWith(gate, request(0, 0, 0, 0));
        Answers.due("FAILED by one try", gate.bill(0), 4);
        Answers.due("for another", gate.bill(1), 0);
    }

    @Holds(promise = {11, 24}, section = "Calls and quotes",
            sentence = "if a try does not fail, it gets a quote, which costs 3")
    static void aQuoteOfATryCosts3() {
        RateGate gate = new RateGate();
        dueCalls(gate, 1, request(0, 0, 0, 0), 0);
        Answers.due("by the first try", gate.bill(0), 3);
        gate.carrier(0, true, 2);
        dueCalls(gate, 1, request(0, 0, 0, 1), 1);
        Answers.due("by the second try", gate.bill(0), 6);
        gate.carrier(1, false, 0);
        callWith(gate, request(1, 1, 0, 0));
        callWith(gate, request(1, 1, 0, 0));
        gate.pass(10);
        gate.carrier(1, true, 0);
        dueCalls(gate, 1, request(1, 1, 0, 0), 2);
        Answers.due("while HALF", gate.bill(1), 1 + 1 + 3);
    }

    @Holds(promise = {11, 12}, section = "Calls and quotes",
            sentence = "and the tariff of then is fixed for this shipper, this carrier and these zones, in this order")
    static void theTariffOfThenIsFixedForThese() {
        RateGate gate = new RateGate();
        dueCalls(gate, 1, request(0, 0, 1, 2), 0);
        gate.tariff(0, 1000, 100, 20);
        gate.tariff(1, 2000, 100, 20);
        Answers.due("the same", gate.price(callWith(gate, request(0, 0, 1, 2))), 620);
        Answers.due("the zones turned", gate.price(callWith(gate, request(0, 0, 2, 1))), 1120);
        Answers.due("another zone from which", gate.price(callWith(gate, request(0, 0, 0, 2))), 1220);
        Answers.due("another zone to which", gate.price(callWith(gate, request(0, 0, 1, 3))), 1220);
        Answers.due("another shipper", gate.price(callWith(gate, request(1, 0, 1, 2))), 1120);
        Answers.due("another carrier", gate.price(callWith(gate, request(0, 1, 1, 2))), 2120);
        gate.tariff(0, 0, 0, 0);
        Answers.due("the first as it was", gate.price(callWith(gate, request(0, 0, 1, 2))), 620);
        Answers.due("the turned as it was", gate.price(callWith(gate, request(0, 0, 2, 1))), 1120);
    }

    @Holds(promise = {11, 13}, section = "Calls and quotes",
            sentence = "for this minute and the 59 ones behind it.")
    static void theTariffIsFixedFor60Minutes() {
        RateGate gate = new RateGate();
        dueCalls(gate, 1, request(0, 0, 1, 2), 0);
        gate.tariff(0, 1000, 100, 20);
        Answers.due("in this minute", gate.price(callWith(gate, request(0, 0, 1, 2))), 620);
        gate.pass(59);
        Answers.due("59 minutes behind", gate.price(callWith(gate, request(0, 0, 1, 2))), 620);
        Answers.due("a quote by it ends with it", gate.fixed(2), 1);
        gate.pass(1);
        Answers.due("60 minutes behind", gate.price(callWith(gate, request(0, 0, 1, 2))), 1120);
        Answers.due("fixed anew", gate.fixed(3), 60);
        Answers.due("what they cost", gate.bill(0), 3 + 1 + 1 + 3);
        gate.tariff(0, 0, 0, 0);
        gate.pass(59);
        Answers.due("59 minutes behind that", gate.price(callWith(gate, request(0, 0, 1, 2))), 1120);
        gate.pass(1);
        Answers.due("60 minutes behind that", gate.price(callWith(gate, request(0, 0, 1, 2))), 0);
    }

    @Holds(promise = {11, 12, 13}, section = "Calls and quotes",
            sentence = "Quotes are numbered from 0, at most 100.")
    static void quotesAreNumberedFrom0To99() {
        RateGate gate = new RateGate();
        Answers.due("the first", callWith(gate, request(0, 0, 0, 0)), 0);
        gate.carrier(1, false, 0);
        callWith(gate, request(0, 1, 0, 0));
        Answers.due("no number for a FAILED one", callWith(gate, request(0, 0, 0, 0)), 1);
        RateGate full = hundredQuotes();
        Answers.due("the last", full.price(99), 520);
        Answers.dueThrow("none behind it", INDEX, () -> full.price(100));
        typeAll(full, request(3, 0, 0, 0));
        Answers.dueThrow("a 101st", STATE, full::call);
    }

    @Holds(promise = {11, 12, 13}, section = "Calls and quotes",
            sentence = "A quote has the fixed tariff, the zones, the weight, express or not, "
                    + "and the end of the fixed time.")
    static void aQuoteHasItsOwn() {
        RateGate gate = new RateGate();
        callWith(gate, "S=0;C=0;F=1;T=2;W=100");
        gate.pass(10);
        callWith(gate, "S=0;C=0;F=1;T=2;W=101;X=Y");
        gate.tariff(0, 0, 0, 0);
        callWith(gate, "S=0;C=0;F=1;T=7;W=30000;X=Y");
        int[] prices = {620, 960, 0};
        int[] minutes = {50, 50, 60};
        for (int quote = 0; quote < 3; quote++) {
            Answers.due("the price of " + quote, gate.price(quote), prices[quote]);
            Answers.due("the minutes of " + quote, gate.fixed(quote), minutes[quote]);
        }
        passAll(gate, 20000 - 10);
        Answers.due("the price in the last minute", gate.price(1), 960);
    }
}

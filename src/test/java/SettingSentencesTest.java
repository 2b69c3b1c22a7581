/** A test for each sentence of the document about all calls, the minutes and what is set: promises 7 to 10. */
public final class SettingSentencesTest extends GateCalls {
    private static final int[] NO_SHIPPERS = {-1, 6, 7, Integer.MIN_VALUE, Integer.MAX_VALUE};
    private static final int[] NO_CARRIERS = {-1, 4, 5, Integer.MIN_VALUE, Integer.MAX_VALUE};

    public static void main(String[] args) {
        Sentences.runAll(SettingSentencesTest.class);
        Answers.end();
    }

    private static RateGate gateAt(int minute) {
        return passAll(new RateGate(), minute);
    }

    private static RateGate fiftyParcels() {
        RateGate gate = new RateGate();
        callWith(gate, request(0, 0, 0, 0));
        for (int i = 0; i < 50; i++) {
            gate.book(0);
        }
        gate.cancel(0);
        return gate;
    }

    // ---- what it is

    @Holds(promise = {2, 11, 14, 18}, section = "What it is",
            sentence = "An object is used for at most 512 calls after it has been made")
    static void allOf512CallsAnswerRight() {
        RateGate gate = new RateGate();
        for (int i = 0; i < 25; i++) {
            String text = request(i % 3, 0, 0, 0);
            for (int k = 0; k < text.length(); k++) {
                Answers.due("a sign", gate.type(text.charAt(k)), k + 1);
            }
            Answers.due("a quote", gate.call(), i);
        }
        for (int call = 501; call <= 511; call++) {
            Answers.due("the call " + call, gate.leftByLog(call % 3), call % 3 == 0 ? 1 : 2);
        }
        Answers.due("the call 512", gate.calls(), 25);
    }

    // ---- the section Terms

    @Holds(promise = {2, 7, 8, 9, 10, 19, 20}, section = "Terms",
            sentence = "If several exceptions apply to a call, the one that its comment lists first is thrown.")
    static void theFirstExceptionIsThrown() {
        dueRefused("a wrong sign at 60", ARGUMENT, () -> typed("9".repeat(60)), gate -> gate.type('a'));
        dueRefused("pass(501) at 19999", ARGUMENT, () -> gateAt(19999), gate -> gate.pass(501));
        dueRefused("pass(0) at 20000", ARGUMENT, () -> gateAt(20000), gate -> gate.pass(0));
        dueRefused("pass(501) at 20000", ARGUMENT, () -> gateAt(20000), gate -> gate.pass(501));
        for (int shipper : NO_SHIPPERS) {
            dueRefused("quota, all wrong", INDEX, GateCalls::busyGate, gate -> gate.quota(shipper, 51, 0));
        }
        for (int carrier : NO_CARRIERS) {
            dueRefused("carrier, all wrong", INDEX, GateCalls::busyGate, gate -> gate.carrier(carrier, true, 11));
            dueRefused("tariff, all wrong", INDEX, GateCalls::busyGate, gate -> gate.tariff(carrier, -1, -1, -1));
        }
        dueRefused("book on none with 50 parcels", INDEX, SettingSentencesTest::fiftyParcels, gate -> gate.book(1));
        dueRefused("weigh none by 0", INDEX, SettingSentencesTest::fiftyParcels, gate -> gate.weigh(50, 0));
        dueRefused("weigh none by 30001", INDEX, SettingSentencesTest::fiftyParcels, gate -> gate.weigh(-1, 30001));
        dueRefused("weigh a CANCELLED one by 0", ARGUMENT, GateCalls::busyGate, gate -> gate.weigh(1, 0));
        dueRefused("weigh a BILLED one by 30001", ARGUMENT, GateCalls::busyGate, gate -> gate.weigh(0, 30001));
    }

    @Holds(promise = {2, 6, 7, 8, 9, 10, 11, 12, 13, 14, 15, 16, 17, 19, 20, 21, 22, 23, 24, 25, 26}, section = "Terms",
            sentence = "A call that throws an exception changes nothing.")
    static void whatThrowsChangesNothing() {
        dueUnchanged(ARGUMENT, gate -> gate.type('a'), gate -> gate.pass(0), gate -> gate.pass(501),
                gate -> gate.quota(0, 51, 5), gate -> gate.quota(0, 5, 0), gate -> gate.quota(4, -1, 1441),
                gate -> gate.carrier(0, false, 11), gate -> gate.carrier(3, true, -1),
                gate -> gate.tariff(0, 10001, 7, 7), gate -> gate.tariff(1, 7, 1001, 7),
                gate -> gate.tariff(2, 7, 7, -1), gate -> gate.weigh(2, 0), gate -> gate.weigh(2, 30001));
        dueUnchanged(STATE, gate -> gate.weigh(0, 5), gate -> gate.weigh(1, 5),
                gate -> gate.cancel(0), gate -> gate.cancel(1));
        dueUnchanged(INDEX, gate -> gate.fault(0), gate -> gate.quota(6, 5, 5), gate -> gate.carrier(4, false, 1),
                gate -> gate.tariff(4, 7, 7, 7), gate -> gate.price(2), gate -> gate.fixed(2), gate -> gate.left(6),
                gate -> gate.leftByLog(6), gate -> gate.circuit(4), gate -> gate.tries(4), gate -> gate.book(2),
                gate -> gate.weigh(3, 5), gate -> gate.cancel(3), gate -> gate.state(3), gate -> gate.cost(3),
                gate -> gate.bill(6), gate -> gate.close(6), gate -> gate.billed(6));
        dueRefused("type at 60", STATE, () -> typed("9".repeat(60)), gate -> gate.type('9'));
        dueRefused("pass at 19999", STATE, () -> gateAt(19999), gate -> gate.pass(2));
        dueRefused("a wrong call", ARGUMENT, () -> typed("S=0;C=0;F=0;T=0"), RateGate::call);
        dueRefused("book a 51st", STATE, SettingSentencesTest::fiftyParcels, gate -> gate.book(0));
    }

    private static void dueUnchanged(Class<? extends RuntimeException> want, Step... calls) {
        for (int i = 0; i < calls.length; i++) {
            dueRefused("the call " + i + " of these", want, GateCalls::busyGate, calls[i]);
        }
    }

    @Holds(promise = 7, section = "Terms", sentence = "Minutes are numbered from 0 to 20000")
    static void theLastMinuteIs20000() {
        Answers.due("the last minute", gateAt(19500).pass(500), 20000);
        Answers.dueThrow("a minute behind it", STATE, () -> gateAt(20000).pass(1));
    }

    @Holds(promise = {1, 7}, section = "Terms", sentence = "now is the minute 0 at first.")
    static void nowIs0AtFirst() {
        Answers.due("the first minute that passes", new RateGate().pass(1), 1);
        Answers.due("the first 500 that pass", new RateGate().pass(500), 500);
    }

    @Holds(promise = {4, 8, 9, 10, 14, 15, 16, 17, 24, 25, 26}, section = "Terms",
            sentence = "There are the shippers 0 to 5, the carriers 0 to 3, and the zones 0 to 7.")
    static void shippersCarriersAndZonesAreTheseAlone() {
        RateGate gate = new RateGate();
        for (int i = -1; i <= 8; i++) {
            int number = i;
            String shipper = i >= 0 && i <= 5 ? "10" : "throws " + INDEX.getName();
            Answers.due("left(" + i + ")", Answers.outcome(() -> gate.left(number)), shipper);
            String carrier = i >= 0 && i <= 3 ? "0" : "throws " + INDEX.getName();
            Answers.due("circuit(" + i + ")", Answers.outcome(() -> gate.circuit(number)), carrier);
            if (i >= 0) {
                Answers.due("the zone " + i, typed(request(0, 0, i, i)).isRight(), i <= 7);
            }
        }
    }

    // ---- promise 7

    @Holds(promise = 7, sentence = "Lets minutes pass.")
    static void passLetsAllMinutesPass() {
        RateGate gate = new RateGate();
        callWith(gate, request(0, 0, 0, 0));
        gate.pass(1);
        Answers.due("fixed, 1 minute behind", gate.fixed(0), 59);
        gate.pass(58);
        Answers.due("fixed, 59 minutes behind", gate.fixed(0), 1);
    }

    @Holds(promise = 7, sentence = "- `minutes`: 1 to 500")
    static void passTakes1To500() {
        Answers.due("pass(1)", new RateGate().pass(1), 1);
        Answers.due("pass(499)", new RateGate().pass(499), 499);
        Answers.due("pass(500)", new RateGate().pass(500), 500);
    }

    @Holds(promise = 7, sentence = "Returns now.")
    static void passReturnsNow() {
        RateGate gate = new RateGate();
        for (int i = 1; i <= 40; i++) {
            Answers.due("pass, " + i + " times", gate.pass(500), 500 * i);
        }
    }

    @Holds(promise = 7, sentence = "Throws `IllegalArgumentException` if minutes is out of its range")
    static void passThrowsBeside1To500() {
        for (int minutes : new int[] {0, -1, -500, 501, 20001, Integer.MIN_VALUE, Integer.MAX_VALUE}) {
            dueRefused("pass(" + minutes + ")", ARGUMENT, GateCalls::busyGate, gate -> gate.pass(minutes));
            dueRefused("pass(" + minutes + ") at 20000", ARGUMENT, () -> gateAt(20000), gate -> gate.pass(minutes));
        }
    }

    @Holds(promise = 7, sentence = "Throws `IllegalStateException` if now would be above 20000")
    static void passThrowsAbove20000() {
        dueRefused("pass(1) at 20000", STATE, () -> gateAt(20000), gate -> gate.pass(1));
        dueRefused("pass(500) at 20000", STATE, () -> gateAt(20000), gate -> gate.pass(500));
        dueRefused("pass(2) at 19999", STATE, () -> gateAt(19999), gate -> gate.pass(2));
        dueRefused("pass(500) at 19501", STATE, () -> gateAt(19501), gate -> gate.pass(500));
        Answers.due("pass(1) at 19999", gateAt(19999).pass(1), 20000);
        Answers.due("pass(500) at 19500", gateAt(19500).pass(500), 20000);
    }

    // ---- promise 8

    @Holds(promise = 8, sentence = "Sets the quota of a shipper.")
    static void quotaIsSetForOneShipper() {
        RateGate gate = new RateGate();
        gate.quota(2, 1, 1);
        Answers.due("the quota", gate.left(2), 1);
        Answers.due("a call", callWith(gate, request(2, 0, 0, 0)), 0);
        Answers.due("a second call", callWith(gate, request(2, 0, 0, 0)), RateGate.LIMITED);
        gate.pass(1);
        Answers.due("a minute later", callWith(gate, request(2, 0, 0, 0)), 1);
        Answers.due("the shipper before", gate.left(1), 10);
        Answers.due("the shipper behind", gate.left(3), 10);
    }

    @Holds(promise = 8, sentence = "- `shipper`: 0 to 5")
    static void quotaTakesTheShippers0To5() {
        RateGate gate = new RateGate();
        for (int shipper = 0; shipper <= 5; shipper++) {
            gate.quota(shipper, 20 + shipper, 60);
        }
        for (int shipper = 0; shipper <= 5; shipper++) {
            Answers.due("the quota of " + shipper, gate.left(shipper), 20 + shipper);
        }
    }

    @Holds(promise = 8, sentence = "- `calls`: 0 to 50")
    static void quotaTakes0To50Calls() {
        RateGate gate = new RateGate();
        gate.quota(0, 50, 60);
        dueLeft(gate, "a quota of 50", 0, 50);
        gate.quota(0, 0, 60);
        dueLeft(gate, "a quota of 0", 0, 0);
        Answers.due("a call with a quota of 0", callWith(gate, request(0, 0, 0, 0)), RateGate.LIMITED);
        gate.quota(0, 1, 60);
        dueLeft(gate, "a quota of 1", 0, 1);
    }

    @Holds(promise = 8, sentence = "- `minutes`: 1 to 1440")
    static void quotaTakes1To1440Minutes() {
        RateGate gate = new RateGate();
        gate.quota(0, 1, 1440);
        callWith(gate, request(0, 0, 0, 0));
        passAll(gate, 1439);
        dueLeft(gate, "1439 minutes behind", 0, 0);
        gate.pass(1);
        dueLeft(gate, "1440 minutes behind", 0, 1);
        gate.quota(0, 1, 1);
        callWith(gate, request(0, 0, 0, 0));
        dueLeft(gate, "in the same minute", 0, 0);
        gate.pass(1);
        dueLeft(gate, "a minute behind", 0, 1);
    }

    @Holds(promise = 8, sentence = "Returns the calls before.")
    static void quotaReturnsTheCallsBefore() {
        RateGate gate = new RateGate();
        Answers.due("at first", gate.quota(5, 50, 1), 10);
        Answers.due("behind 50", gate.quota(5, 0, 1440), 50);
        Answers.due("behind 0", gate.quota(5, 7, 7), 0);
        callWith(gate, request(5, 0, 0, 0));
        Answers.due("behind 7 and a call", gate.quota(5, 7, 7), 7);
    }

    @Holds(promise = 8, sentence = "Throws `IndexOutOfBoundsException` if there is no such shipper")
    static void quotaThrowsWithoutTheShipper() {
        for (int shipper : NO_SHIPPERS) {
            dueRefused("quota of " + shipper, INDEX, GateCalls::busyGate, gate -> gate.quota(shipper, 5, 5));
        }
    }

    @Holds(promise = 8, sentence = "Throws `IllegalArgumentException` if calls or minutes is out of its range")
    static void quotaThrowsBesideItsRanges() {
        for (int calls : new int[] {-1, 51, 1440, Integer.MIN_VALUE, Integer.MAX_VALUE}) {
            dueRefused("quota of " + calls + " calls", ARGUMENT, GateCalls::busyGate, gate -> gate.quota(0, calls, 5));
        }
        for (int minutes : new int[] {0, -1, 1441, Integer.MIN_VALUE, Integer.MAX_VALUE}) {
            dueRefused("quota in " + minutes, ARGUMENT, GateCalls::busyGate, gate -> gate.quota(0, 5, minutes));
        }
        dueRefused("quota, both wrong", ARGUMENT, GateCalls::busyGate, gate -> gate.quota(5, 51, 0));
    }

    // ---- promise 9

    @Holds(promise = 9, sentence = "Sets how a carrier is.")
    static void carrierIsSetAlone() {
        RateGate gate = new RateGate();
        gate.carrier(1, false, 0);
        gate.carrier(2, true, 1);
        Answers.due("the carrier 0", callWith(gate, request(0, 0, 0, 0)), 0);
        Answers.due("the carrier 1, down", callWith(gate, request(0, 1, 0, 0)), RateGate.FAILED);
        Answers.due("the carrier 2, with a flaw", callWith(gate, request(0, 2, 0, 0)), RateGate.FAILED);
        Answers.due("the carrier 3", callWith(gate, request(0, 3, 0, 0)), 1);
    }

    @Holds(promise = 9, sentence = "- `carrier`: 0 to 3")
    static void carrierTakes0To3() {
        RateGate gate = new RateGate();
        for (int carrier = 0; carrier <= 3; carrier++) {
            Answers.due("carrier " + carrier, gate.carrier(carrier, true, 5 + carrier), 0);
        }
        for (int carrier = 0; carrier <= 3; carrier++) {
            Answers.due("carrier " + carrier, gate.carrier(carrier, true, 0), 5 + carrier);
        }
    }

    @Holds(promise = 9, sentence = "- `isUp`: whether it is up")
    static void carrierIsUpOrDown() {
        RateGate gate = new RateGate();
        gate.carrier(3, false, 0);
        Answers.due("down", callWith(gate, request(0, 3, 0, 0)), RateGate.FAILED);
        gate.carrier(3, true, 0);
        Answers.due("up again", callWith(gate, request(0, 3, 0, 0)), 0);
    }

    @Holds(promise = 9, sentence = "- `flaw`: 0 to 10")
    static void carrierTakesAFlawOf0To10() {
        RateGate gate = new RateGate();
        for (int flaw = 0; flaw <= 10; flaw++) {
            gate.carrier(0, true, flaw);
            Answers.due("the flaw " + flaw, gate.carrier(0, true, flaw), flaw);
        }
        for (int i = 0; i < 10; i++) {
            Answers.due("a call", callWith(gate, request(i % 2, 0, 0, i / 2)), i);
        }
        Answers.due("the 10th try failed, by a flaw of 10", gate.tries(0), 11);
    }

    @Holds(promise = 9, sentence = "Returns the flaw before.")
    static void carrierReturnsTheFlawBefore() {
        RateGate gate = new RateGate();
        Answers.due("at first", gate.carrier(0, true, 10), 0);
        Answers.due("behind 10", gate.carrier(0, false, 0), 10);
        Answers.due("behind 0", gate.carrier(0, false, 1), 0);
        Answers.due("behind 1", gate.carrier(0, true, 1), 1);
    }

    @Holds(promise = 9, sentence = "Throws `IndexOutOfBoundsException` if there is no such carrier")
    static void carrierThrowsWithoutTheCarrier() {
        for (int carrier : NO_CARRIERS) {
            dueRefused("carrier " + carrier, INDEX, GateCalls::busyGate, gate -> gate.carrier(carrier, false, 0));
        }
    }

    @Holds(promise = 9, sentence = "Throws `IllegalArgumentException` if flaw is out of its range")
    static void carrierThrowsBeside0To10() {
        for (int flaw : new int[] {-1, 11, Integer.MIN_VALUE, Integer.MAX_VALUE}) {
            dueRefused("a flaw of " + flaw, ARGUMENT, GateCalls::busyGate, gate -> gate.carrier(0, false, flaw));
        }
    }

    // ---- promise 10

    private static int priceBy(int base, int zone, int weight) {
        RateGate gate = new RateGate();
        gate.tariff(3, base, zone, weight);
        return gate.price(callWith(gate, "S=0;C=3;F=0;T=7;W=30000"));
    }

    @Holds(promise = 10, sentence = "Sets the tariff of a carrier.")
    static void tariffIsSetAlone() {
        RateGate gate = new RateGate();
        gate.tariff(2, 1, 20, 300);
        Answers.due("its price", gate.price(callWith(gate, "S=0;C=2;F=1;T=3;W=101")), 1 + 2 * 20 + 2 * 300);
        Answers.due("of carrier 1", gate.price(callWith(gate, "S=0;C=1;F=1;T=3;W=101")), 500 + 2 * 100 + 2 * 20);
        Answers.due("of carrier 3", gate.price(callWith(gate, "S=0;C=3;F=1;T=3;W=101")), 500 + 2 * 100 + 2 * 20);
    }

    @Holds(promise = 10, sentence = "- `carrier`: 0 to 3")
    static void tariffTakesTheCarriers0To3() {
        RateGate gate = new RateGate();
        for (int carrier = 0; carrier <= 3; carrier++) {
            Answers.due("tariff of " + carrier, gate.tariff(carrier, 5 + carrier, 0, 0), 500);
        }
        for (int carrier = 0; carrier <= 3; carrier++) {
            Answers.due("tariff of " + carrier, gate.tariff(carrier, 0, 0, 0), 5 + carrier);
        }
    }

    @Holds(promise = 10, sentence = "- `base`: 0 to 10000")
    static void tariffTakesABaseOf0To10000() {
        Answers.due("a base of 0", priceBy(0, 1, 1), 307);
        Answers.due("a base of 1", priceBy(1, 1, 1), 308);
        Answers.due("a base of 10000", priceBy(10000, 1, 1), 10307);
    }

    @Holds(promise = 10, sentence = "- `zone`: 0 to 1000")
    static void tariffTakesAZoneOf0To1000() {
        Answers.due("a zone of 0", priceBy(1, 0, 1), 301);
        Answers.due("a zone of 1", priceBy(1, 1, 1), 308);
        Answers.due("a zone of 1000", priceBy(1, 1000, 1), 7301);
    }

    @Holds(promise = 10, sentence = "- `weight`: 0 to 1000")
    static void tariffTakesAWeightOf0To1000() {
        Answers.due("a weight of 0", priceBy(1, 1, 0), 8);
        Answers.due("a weight of 1", priceBy(1, 1, 1), 308);
        Answers.due("a weight of 1000", priceBy(1, 1, 1000), 300008);
        Answers.due("all of the greatest", priceBy(10000, 1000, 1000), 317000);
        Answers.due("all of the least", priceBy(0, 0, 0), 0);
    }

    @Holds(promise = 10, sentence = "Returns the base before.")
    static void tariffReturnsTheBaseBefore() {
        RateGate gate = new RateGate();
        Answers.due("at first", gate.tariff(0, 10000, 1, 2), 500);
        Answers.due("behind 10000", gate.tariff(0, 0, 3, 4), 10000);
        Answers.due("behind 0", gate.tariff(0, 6, 7, 8), 0);
    }

    @Holds(promise = 10, sentence = "Throws `IndexOutOfBoundsException` if there is no such carrier")
    static void tariffThrowsWithoutTheCarrier() {
        for (int carrier : NO_CARRIERS) {
            dueRefused("tariff of " + carrier, INDEX, GateCalls::busyGate, gate -> gate.tariff(carrier, 1, 1, 1));
        }
    }

    @Holds(promise = 10, sentence = "Throws `IllegalArgumentException` if base, zone or weight is out of its range")
    static void tariffThrowsBesideItsRanges() {
        for (int base : new int[] {-1, 10001, Integer.MIN_VALUE, Integer.MAX_VALUE}) {
            dueRefused("a base of " + base, ARGUMENT, GateCalls::busyGate, gate -> gate.tariff(3, base, 1, 1));
        }
        for (int amount : new int[] {-1, 1001, 10000, Integer.MIN_VALUE, Integer.MAX_VALUE}) {
            dueRefused("a zone of " + amount, ARGUMENT, GateCalls::busyGate, gate -> gate.tariff(3, 1, amount, 1));
            dueRefused("a weight of " + amount, ARGUMENT, GateCalls::busyGate, gate -> gate.tariff(3, 1, 1, amount));
        }
    }
}

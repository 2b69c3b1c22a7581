/** A test for each sentence of the document about parcels and bills: promises 19 to 26, and the constants. */
public final class ParcelSentencesTest extends GateCalls {
    private static final int[] NO_SHIPPERS = {-1, 6, 7, Integer.MIN_VALUE, Integer.MAX_VALUE};
    /** No parcels of a busy gate, which has three. */
    private static final int[] NO_PARCELS = {-1, 3, 4, 49, 50, Integer.MIN_VALUE, Integer.MAX_VALUE};

    public static void main(String[] args) {
        Sentences.runAll(ParcelSentencesTest.class);
        Answers.end();
    }

    /** A quote of the shipper 0 for 520 cents, and so many parcels on it. */
    private static RateGate withParcels(int count) {
        RateGate gate = new RateGate();
        callWith(gate, request(0, 0, 0, 0));
        for (int i = 0; i < count; i++) {
            gate.book(0);
        }
        return gate;
    }

    /** A quote for 620 cents, and a tariff that makes another price, so many minutes behind the call. */
    private static RateGate withOtherTariff(int minutes, int base, int zone, int weight) {
        RateGate gate = new RateGate();
        callWith(gate, request(0, 0, 0, 1));
        gate.tariff(0, base, zone, weight);
        return passAll(gate, minutes);
    }

    private static RateGate cancelled(RateGate gate, int parcel) {
        gate.cancel(parcel);
        return gate;
    }

    private static RateGate billedLater(RateGate gate) {
        gate.pass(31);
        gate.close(0);
        return gate;
    }

    // ---- promise 19

    @Holds(promise = 19, sentence = "Books a parcel.")
    static void bookBooksAParcelOfTheQuote() {
        RateGate gate = new RateGate();
        callWith(gate, request(0, 0, 0, 0));
        callWith(gate, request(1, 0, 0, 1));
        Answers.dueThrow("before", INDEX, () -> gate.state(0));
        gate.book(1);
        Answers.due("its state", gate.state(0), RateGate.BOOKED);
        Answers.due("its cost", gate.cost(0), 620);
        gate.pass(31);
        Answers.due("the bill of another", gate.bill(0), 3);
        Answers.due("the bill of its shipper", gate.bill(1), 3 + 620);
    }

    @Holds(promise = 19, sentence = "- `quote`: the quote")
    static void bookTakesTheFirstAndTheLastQuote() {
        RateGate gate = new RateGate();
        callWith(gate, request(0, 0, 0, 0));
        callWith(gate, request(0, 0, 0, 1));
        callWith(gate, request(0, 0, 0, 2));
        gate.book(0);
        gate.book(2);
        Answers.due("on the first", gate.cost(0), 520);
        Answers.due("on the last", gate.cost(1), 720);
    }

    @Holds(promise = 19, sentence = "Returns the number of the parcel.")
    static void bookReturns0To49() {
        RateGate gate = withParcels(0);
        for (int i = 0; i < 50; i++) {
            Answers.due("the parcel " + i, gate.book(0), i);
        }
    }

    @Holds(promise = 19, sentence = "Throws `IndexOutOfBoundsException` if there is no such quote")
    static void bookThrowsWithoutTheQuote() {
        dueRefused("book(0) without one", INDEX, RateGate::new, gate -> gate.book(0));
        for (int quote : new int[] {-1, 2, 3, 99, 100, Integer.MIN_VALUE, Integer.MAX_VALUE}) {
            dueRefused("book(" + quote + ")", INDEX, GateCalls::busyGate, gate -> gate.book(quote));
        }
        dueRefused("book(1) with 50 parcels", INDEX, () -> withParcels(50), gate -> gate.book(1));
    }

    @Holds(promise = 19, sentence = "Throws `IllegalStateException` if its time is over, "
            + "and the price by the tariff of now is another one, or there are 50 parcels")
    static void bookThrowsBehindItsTimeByAnotherPrice() {
        dueRefused("60 minutes behind, 1 more", STATE, () -> withOtherTariff(60, 501, 100, 20), gate -> gate.book(0));
        dueRefused("60 minutes behind, 1 less", STATE, () -> withOtherTariff(60, 499, 100, 20), gate -> gate.book(0));
        dueRefused("another zone", STATE, () -> withOtherTariff(60, 500, 101, 20), gate -> gate.book(0));
        dueRefused("another weight", STATE, () -> withOtherTariff(60, 500, 100, 19), gate -> gate.book(0));
        dueRefused("in the last minute", STATE, () -> withOtherTariff(20000, 0, 0, 0), gate -> gate.book(0));
        dueRefused("with 50 parcels", STATE, () -> withParcels(50), gate -> gate.book(0));
        Answers.due("its time is not over", withOtherTariff(59, 501, 100, 20).book(0), 0);
        Answers.due("the price is the same", withOtherTariff(60, 500, 100, 20).book(0), 0);
        Answers.due("the price by others is the same", withOtherTariff(60, 0, 0, 620).book(0), 0);
    }

    @Holds(promise = 19, sentence = "or there are 50 parcels")
    static void bookThrowsAt50Parcels() {
        Answers.due("the 50th", withParcels(49).book(0), 49);
        dueRefused("a 51st", STATE, () -> withParcels(50), gate -> gate.book(0));
        dueRefused("a 51st, with a CANCELLED one", STATE, () -> cancelled(withParcels(50), 49), gate -> gate.book(0));
        dueRefused("a 51st, with BILLED ones", STATE, () -> billedLater(withParcels(50)), gate -> gate.book(0));
    }

    // ---- promise 20

    @Holds(promise = 20, sentence = "Weighs a parcel.")
    static void weighChangesOneParcelAlone() {
        RateGate gate = withParcels(3);
        gate.weigh(1, 101);
        Answers.due("the parcel before", gate.cost(0), 520);
        Answers.due("the parcel", gate.cost(1), 540);
        Answers.due("the parcel behind", gate.cost(2), 520);
        Answers.due("the quote", gate.price(0), 520);
    }

    @Holds(promise = {20, 21, 22, 23}, sentence = "- `parcel`: its number")
    static void parcelsAreTakenByTheirNumbers() {
        RateGate gate = withParcels(50);
        Answers.due("weigh(0, ..)", gate.weigh(0, 101), 20);
        Answers.due("weigh(49, ..)", gate.weigh(49, 201), 40);
        Answers.due("cost(0)", gate.cost(0), 540);
        Answers.due("cost(49)", gate.cost(49), 560);
        Answers.due("cancel(49)", gate.cancel(49), 560);
        Answers.due("state(0)", gate.state(0), RateGate.BOOKED);
        Answers.due("state(49)", gate.state(49), RateGate.CANCELLED);
    }

    @Holds(promise = 20, sentence = "- `grams`: 1 to 30000")
    static void weighTakes1To30000Grams() {
        RateGate gate = withParcels(1);
        Answers.due("30000 grams", gate.weigh(0, 30000), 299 * 20);
        Answers.due("29901 grams", gate.weigh(0, 29901), 0);
        Answers.due("29900 grams", gate.weigh(0, 29900), -20);
        Answers.due("1 gram", gate.weigh(0, 1), -298 * 20);
        Answers.due("100 grams", gate.weigh(0, 100), 0);
        Answers.due("101 grams", gate.weigh(0, 101), 20);
    }

    @Holds(promise = 20, sentence = "Returns how much more it costs by that, below 0 if it costs less.")
    static void weighReturnsTheDifference() {
        RateGate gate = withParcels(1);
        Answers.due("more", gate.weigh(0, 1000), 180);
        Answers.due("the same", gate.weigh(0, 901), 0);
        Answers.due("less than weighed before", gate.weigh(0, 500), -100);
        Answers.due("less again", gate.weigh(0, 1), -80);
        Answers.due("as booked", gate.cost(0), 520);
    }

    @Holds(promise = {20, 21, 22, 23}, sentence = "Throws `IndexOutOfBoundsException` if there is no such parcel")
    static void whatTakesAParcelThrowsWithoutIt() {
        for (int parcel : NO_PARCELS) {
            dueRefused("weigh(" + parcel + ", 5)", INDEX, GateCalls::busyGate, gate -> gate.weigh(parcel, 5));
            dueRefused("cancel(" + parcel + ")", INDEX, GateCalls::busyGate, gate -> gate.cancel(parcel));
            dueRefused("state(" + parcel + ")", INDEX, GateCalls::busyGate, gate -> gate.state(parcel));
            dueRefused("cost(" + parcel + ")", INDEX, GateCalls::busyGate, gate -> gate.cost(parcel));
        }
        dueRefused("weigh(0, 5) without one", INDEX, () -> withParcels(0), gate -> gate.weigh(0, 5));
        dueRefused("cancel(0) without one", INDEX, () -> withParcels(0), gate -> gate.cancel(0));
        dueRefused("state(0) without one", INDEX, () -> withParcels(0), gate -> gate.state(0));
        dueRefused("cost(0) without one", INDEX, () -> withParcels(0), gate -> gate.cost(0));
        dueRefused("weigh(50, 5) with 50", INDEX, () -> withParcels(50), gate -> gate.weigh(50, 5));
    }

    @Holds(promise = 20, sentence = "Throws `IllegalArgumentException` if grams is out of its range")
    static void weighThrowsBeside1To30000() {
        for (int grams : new int[] {0, -1, -100, 30001, Integer.MIN_VALUE, Integer.MAX_VALUE}) {
            dueRefused("weigh by " + grams, ARGUMENT, () -> withParcels(1), gate -> gate.weigh(0, grams));
        }
    }

    @Holds(promise = 20, sentence = "Throws `IllegalStateException` if it is not BOOKED")
    static void weighThrowsIfItIsNotBooked() {
        dueRefused("a CANCELLED one", STATE, () -> cancelled(withParcels(2), 1), gate -> gate.weigh(1, 5));
        dueRefused("a BILLED one", STATE, () -> billedLater(withParcels(2)), gate -> gate.weigh(1, 5));
        RateGate gate = withParcels(1);
        gate.close(0);
        passAll(gate, 20000);
        Answers.due("one that is BOOKED in the last minute", gate.weigh(0, 101), 20);
    }

    // ---- promise 21

    @Holds(promise = 21, sentence = "Cancels a parcel.")
    static void cancelCancelsOneAlone() {
        RateGate gate = cancelled(withParcels(3), 1);
        Answers.due("the parcel before", gate.state(0), RateGate.BOOKED);
        Answers.due("the parcel", gate.state(1), RateGate.CANCELLED);
        Answers.due("the parcel behind", gate.state(2), RateGate.BOOKED);
        gate.pass(31);
        Answers.due("the bill of the others", gate.close(0), 3 + 2 * 520);
        Answers.due("the parcel behind the bill", gate.state(1), RateGate.CANCELLED);
    }

    @Holds(promise = 21, sentence = "Returns what it cost.")
    static void cancelReturnsTheCost() {
        RateGate gate = withParcels(2);
        gate.weigh(1, 1000);
        Answers.due("as booked", gate.cancel(0), 520);
        Answers.due("as weighed", gate.cancel(1), 700);
    }

    @Holds(promise = 21, sentence = "Throws `IllegalStateException` if it is not BOOKED, or it is too late for that")
    static void cancelThrowsIfItIsNotBookedOrTooLate() {
        dueRefused("a CANCELLED one", STATE, () -> cancelled(withParcels(2), 1), gate -> gate.cancel(1));
        dueRefused("a BILLED one", STATE, () -> billedLater(withParcels(2)), gate -> gate.cancel(1));
        dueRefused("31 minutes behind", STATE, () -> passAll(withParcels(1), 31), gate -> gate.cancel(0));
        dueRefused("in the last minute", STATE, () -> passAll(withParcels(1), 20000), gate -> gate.cancel(0));
        Answers.due("30 minutes behind", passAll(withParcels(1), 30).cancel(0), 520);
        Answers.due("29 minutes behind", passAll(withParcels(1), 29).cancel(0), 520);
    }

    // ---- promise 22

    @Holds(promise = 22, sentence = "Returns the state of a parcel.")
    static void stateOfEachParcel() {
        RateGate gate = busyGate();
        Answers.due("of the first", gate.state(0), RateGate.BILLED);
        Answers.due("of the second", gate.state(1), RateGate.CANCELLED);
        Answers.due("of the third", gate.state(2), RateGate.BOOKED);
    }

    @Holds(promise = 22, sentence = "Returns BOOKED, CANCELLED or BILLED.")
    static void stateReturnsEachOfTheThree() {
        RateGate gate = cancelled(withParcels(2), 1);
        Answers.due("BOOKED", gate.state(0), 0);
        Answers.due("CANCELLED", gate.state(1), 1);
        gate.pass(31);
        Answers.due("BOOKED, when it is too late to cancel", gate.state(0), 0);
        gate.close(0);
        Answers.due("BILLED", gate.state(0), 2);
        Answers.due("CANCELLED, behind the bill", gate.state(1), 1);
    }

    // ---- promise 23

    @Holds(promise = 23, sentence = "Returns what a parcel costs, whatever its state.")
    static void costWhateverTheState() {
        RateGate gate = withParcels(2);
        gate.weigh(0, 101);
        gate.weigh(1, 201);
        Answers.due("BOOKED", gate.cost(0), 540);
        gate.cancel(1);
        Answers.due("CANCELLED", gate.cost(1), 560);
        billedLater(gate);
        Answers.due("BILLED", gate.cost(0), 540);
        Answers.due("CANCELLED, behind the bill", gate.cost(1), 560);
    }

    @Holds(promise = 23, sentence = "Returns the amount.")
    static void costMayBe0() {
        RateGate gate = new RateGate();
        gate.tariff(0, 0, 0, 0);
        gate.tariff(1, 10000, 1000, 1000);
        gate.book(callWith(gate, request(0, 0, 0, 0)));
        gate.book(callWith(gate, "S=0;C=1;F=0;T=7;W=30000;X=Y"));
        Answers.due("the least", gate.cost(0), 0);
        Answers.due("the greatest", gate.cost(1), 475500);
    }

    // ---- promise 24

    @Holds(promise = 24, sentence = "Returns what a bill of a shipper would be now.")
    static void billIsThatOfNowAndBillsNothing() {
        RateGate gate = withParcels(1);
        Answers.due("calls", gate.bill(0), 3);
        gate.pass(30);
        Answers.due("calls, 30 minutes behind", gate.bill(0), 3);
        gate.pass(1);
        Answers.due("calls and a parcel", gate.bill(0), 523);
        Answers.due("the same again", gate.bill(0), 523);
        Answers.due("the parcel", gate.state(0), RateGate.BOOKED);
        Answers.due("all bills", gate.billed(0), 0);
        Answers.due("the bill itself", gate.close(0), 523);
        Answers.due("behind the bill", gate.bill(0), 0);
    }

    private static RateGate aCallOfEachShipper() {
        RateGate gate = new RateGate();
        for (int shipper = 0; shipper <= 5; shipper++) {
            for (int i = 0; i <= shipper; i++) {
                callWith(gate, request(shipper, 0, 0, 0));
            }
        }
        return gate;
    }

    @Holds(promise = {24, 25, 26}, sentence = "- `shipper`: 0 to 5")
    static void billsTakeTheShippers0To5() {
        RateGate gate = aCallOfEachShipper();
        for (int shipper = 0; shipper <= 5; shipper++) {
            Answers.due("bill(" + shipper + ")", gate.bill(shipper), 3 + shipper);
            Answers.due("billed(" + shipper + ")", gate.billed(shipper), 0);
            Answers.due("close(" + shipper + ")", gate.close(shipper), 3 + shipper);
            Answers.due("billed(" + shipper + ") then", gate.billed(shipper), 3 + shipper);
            Answers.due("bill(" + shipper + ") then", gate.bill(shipper), 0);
        }
    }

    @Holds(promise = 24, sentence = "Returns the amount.")
    static void billMayBe0() {
        RateGate gate = new RateGate();
        Answers.due("nothing", gate.bill(3), 0);
        gate.quota(3, 0, 1);
        callWith(gate, request(3, 0, 0, 0));
        Answers.due("a LIMITED call", gate.bill(3), 0);
        gate.quota(3, 1, 1);
        gate.tariff(0, 0, 0, 0);
        gate.book(callWith(gate, request(3, 0, 0, 0)));
        gate.pass(31);
        Answers.due("a call, and a parcel for nothing", gate.bill(3), 3);
    }

    @Holds(promise = {24, 25, 26}, sentence = "Throws `IndexOutOfBoundsException` if there is no such shipper")
    static void billsThrowWithoutTheShipper() {
        for (int shipper : NO_SHIPPERS) {
            dueRefused("bill(" + shipper + ")", INDEX, GateCalls::busyGate, gate -> gate.bill(shipper));
            dueRefused("close(" + shipper + ")", INDEX, GateCalls::busyGate, gate -> gate.close(shipper));
            dueRefused("billed(" + shipper + ")", INDEX, GateCalls::busyGate, gate -> gate.billed(shipper));
        }
    }

    // ---- promise 25

    @Holds(promise = 25, sentence = "Bills a shipper.")
    static void closeBillsOneShipperAlone() {
        RateGate gate = withParcels(1);
        gate.book(callWith(gate, request(1, 0, 0, 0)));
        gate.pass(31);
        gate.close(0);
        Answers.due("its parcel", gate.state(0), RateGate.BILLED);
        Answers.due("what is left to bill", gate.bill(0), 0);
        Answers.due("the parcel of another", gate.state(1), RateGate.BOOKED);
        Answers.due("what another is to pay", gate.bill(1), 523);
        Answers.due("what another was billed", gate.billed(1), 0);
    }

    @Holds(promise = 25, sentence = "Returns the bill.")
    static void closeReturnsTheBillOnce() {
        RateGate gate = new RateGate();
        Answers.due("of nothing", gate.close(0), 0);
        callWith(gate, request(0, 0, 0, 0));
        gate.book(0);
        Answers.due("of a call", gate.close(0), 3);
        Answers.due("at once again", gate.close(0), 0);
        gate.pass(31);
        Answers.due("of a parcel", gate.close(0), 520);
        Answers.due("of it again", gate.close(0), 0);
    }

    // ---- promise 26

    @Holds(promise = 26, sentence = "Returns what all bills of a shipper were so far.")
    static void billedAddsAllBills() {
        RateGate gate = withParcels(2);
        Answers.due("before a bill", gate.billed(0), 0);
        gate.close(0);
        Answers.due("behind the first", gate.billed(0), 3);
        gate.cancel(1);
        gate.pass(31);
        Answers.due("before the second", gate.billed(0), 3);
        gate.close(0);
        Answers.due("behind the second", gate.billed(0), 523);
        callWith(gate, request(0, 0, 0, 0));
        gate.close(0);
        Answers.due("behind the third", gate.billed(0), 524);
    }

    @Holds(promise = 26, sentence = "Returns the amount.")
    static void billedStaysWithABillOf0() {
        RateGate gate = withParcels(0);
        gate.close(1);
        Answers.due("a bill of nothing", gate.billed(1), 0);
        gate.close(0);
        gate.close(0);
        Answers.due("a bill of nothing behind another", gate.billed(0), 3);
    }

    // ---- the section Parcels and bills

    @Holds(promise = {19, 20, 21, 22, 23}, section = "Parcels and bills",
            sentence = "Parcels are numbered from 0, at most 50.")
    static void parcelsAreNumberedFrom0To49() {
        RateGate gate = new RateGate();
        callWith(gate, request(0, 0, 0, 0));
        Answers.due("the first", gate.book(0), 0);
        Answers.dueThrow("one that throws", INDEX, () -> gate.book(1));
        gate.cancel(0);
        Answers.due("the second, behind a CANCELLED one", gate.book(0), 1);
        for (int i = 2; i < 50; i++) {
            Answers.due("the parcel " + i, gate.book(0), i);
        }
        Answers.due("the last", gate.state(49), RateGate.BOOKED);
        Answers.dueThrow("a 51st", STATE, () -> gate.book(0));
        Answers.dueThrow("none behind the last", INDEX, () -> gate.state(50));
    }

    @Holds(promise = {19, 23}, section = "Parcels and bills",
            sentence = "A parcel is booked on a quote, at its price, as long as the rate is fixed")
    static void bookedAtThePriceAsLongAsTheRateIsFixed() {
        for (int minutes : new int[] {0, 1, 58, 59}) {
            RateGate gate = withOtherTariff(minutes, 9, 9, 9);
            Answers.due("booked, " + minutes + " minutes behind", gate.book(0), 0);
            Answers.due("at its price", gate.cost(0), 620);
        }
        RateGate gate = withOtherTariff(59, 9, 9, 9);
        Answers.due("a later quote by the rate", callWith(gate, request(0, 0, 0, 1)), 1);
        gate.pass(1);
        Answers.dueThrow("the later quote, when the rate is over", STATE, () -> gate.book(1));
        Answers.due("a quote with the rate fixed anew", callWith(gate, request(0, 0, 0, 1)), 2);
        Answers.dueThrow("the first quote, with the rate fixed anew", STATE, () -> gate.book(0));
        gate.book(2);
        Answers.due("at the new price", gate.cost(0), 27);
    }

    @Holds(promise = {19, 23}, section = "Parcels and bills",
            sentence = "or behind that if the price by the tariff of its carrier then is the same.")
    static void bookedBehindThatByTheSamePrice() {
        RateGate gate = new RateGate();
        callWith(gate, "S=0;C=1;F=0;T=1;W=101;X=Y");
        gate.tariff(0, 9, 9, 9);
        gate.pass(60);
        Answers.due("with a new tariff of another carrier", gate.book(0), 0);
        gate.tariff(1, 501, 100, 20);
        Answers.dueThrow("961 cents instead of 960", STATE, () -> gate.book(0));
        gate.tariff(1, 498, 100, 20);
        Answers.dueThrow("957 cents", STATE, () -> gate.book(0));
        gate.tariff(1, 460, 100, 40);
        Answers.due("960 cents by other amounts", gate.book(0), 1);
        Answers.due("at the price", gate.cost(1), 960);
        passAll(gate, 20000 - 60);
        gate.tariff(1, 500, 100, 20);
        Answers.due("in the last minute", gate.book(0), 2);
    }

    @Holds(promise = {20, 23}, section = "Parcels and bills",
            sentence = "Weighed, it costs what the tariff of its quote makes of that weight.")
    static void weighedByTheTariffOfTheQuote() {
        RateGate gate = new RateGate();
        callWith(gate, "S=0;C=0;F=7;T=4;W=250;X=Y");
        gate.book(0);
        gate.tariff(0, 0, 0, 0);
        Answers.due("as told", gate.weigh(0, 300), 0);
        Answers.due("100 more begun", gate.weigh(0, 301), 30);
        Answers.due("100 less begun", gate.weigh(0, 200), -60);
        passAll(gate, 60);
        gate.tariff(0, 740, 0, 40);
        Answers.due("booked by other amounts behind the time", gate.book(0), 1);
        Answers.due("weighed by those of the quote", gate.weigh(1, 301), 30);
        Answers.due("its cost", gate.cost(1), 1320);
    }

    @Holds(promise = {19, 20, 22}, section = "Parcels and bills", sentence = "It is BOOKED")
    static void bookedUntilItIsCancelledOrBilled() {
        RateGate gate = withParcels(1);
        Answers.due("at once", gate.state(0), RateGate.BOOKED);
        gate.weigh(0, 500);
        gate.close(0);
        Answers.due("weighed, and behind an early bill", gate.state(0), RateGate.BOOKED);
        passAll(gate, 20000);
        Answers.due("in the last minute", gate.state(0), RateGate.BOOKED);
    }

    @Holds(promise = {21, 22}, section = "Parcels and bills",
            sentence = "it can be CANCELLED in the minute in which it was booked, and the 30 ones behind it")
    static void cancelledInThisMinuteAndThe30Behind() {
        RateGate gate = new RateGate();
        gate.pass(7);
        callWith(gate, request(0, 0, 0, 0));
        for (int i = 0; i < 4; i++) {
            gate.book(0);
        }
        Answers.due("in this minute", gate.cancel(0), 520);
        gate.pass(29);
        Answers.due("29 minutes behind", gate.cancel(1), 520);
        gate.pass(1);
        Answers.due("30 minutes behind", gate.cancel(2), 520);
        gate.pass(1);
        Answers.dueThrow("31 minutes behind", STATE, () -> gate.cancel(3));
        Answers.due("which changes nothing", gate.state(3), RateGate.BOOKED);
    }

    @Holds(promise = {22, 24, 25}, section = "Parcels and bills",
            sentence = "when its shipper is billed behind these, it is BILLED.")
    static void billedBehindThe30Minutes() {
        RateGate gate = withParcels(1);
        gate.close(0);
        Answers.due("billed in the same minute", gate.state(0), RateGate.BOOKED);
        gate.pass(30);
        Answers.due("billed 30 minutes behind", gate.close(0), 0);
        Answers.due("its state then", gate.state(0), RateGate.BOOKED);
        gate.pass(1);
        Answers.due("a bill of another 31 minutes behind", gate.close(1), 0);
        Answers.due("its state behind that", gate.state(0), RateGate.BOOKED);
        Answers.due("billed 31 minutes behind", gate.close(0), 520);
        Answers.due("its state at last", gate.state(0), RateGate.BILLED);
    }

    @Holds(promise = {24, 25, 26}, section = "Parcels and bills",
            sentence = "A bill of a shipper is the costs of the calls since the bill before")
    static void aBillHasTheCallsSinceTheBillBefore() {
        RateGate gate = new RateGate();
        callWith(gate, request(0, 0, 0, 0));
        callWith(gate, request(0, 0, 0, 0));
        callWith(gate, request(1, 0, 0, 0));
        Answers.due("3 and 1", gate.close(0), 4);
        Answers.due("none since", gate.close(0), 0);
        callWith(gate, request(0, 0, 0, 0));
        Answers.due("1 since", gate.close(0), 1);
        openCircuit(gate, 1);
        callWith(gate, request(5, 1, 0, 0));
        gate.quota(5, 0, 1);
        callWith(gate, request(5, 1, 0, 0));
        Answers.due("two FAILED, one REFUSED and one LIMITED", gate.close(5), 3);
        passAll(gate, 20000);
        Answers.due("of another, long behind", gate.close(1), 3);
    }

    @Holds(promise = {24, 25, 26}, section = "Parcels and bills",
            sentence = "and the prices of all parcels that are BILLED by it.")
    static void aBillHasTheParcelsThatItBills() {
        RateGate gate = withParcels(4);
        gate.book(callWith(gate, request(1, 0, 0, 0)));
        gate.weigh(1, 101);
        gate.cancel(2);
        gate.close(0);
        gate.pass(1);
        gate.book(0);
        gate.pass(30);
        Answers.due("as booked, as weighed, and as booked", gate.bill(0), 520 + 540 + 520);
        Answers.due("the bill itself", gate.close(0), 520 + 540 + 520);
        Answers.due("the one booked later", gate.state(5), RateGate.BOOKED);
        gate.pass(1);
        Answers.due("the later one alone", gate.close(0), 520);
        Answers.due("none is left", gate.close(0), 0);
        Answers.due("of another", gate.close(1), 523);
    }

    // ---- the constants

    @Holds(promise = 1, section = "Parcels and bills", sentence = "`NONE = -1`: None.")
    static void noneIsMinus1() {
        Answers.due("NONE", RateGate.NONE, -1);
    }

    @Holds(promise = 11, section = "Parcels and bills",
            sentence = "`LIMITED = -2, REFUSED = -3, FAILED = -4`: What becomes of calls that get no quote.")
    static void whatGetsNoQuoteIsBelowNone() {
        Answers.due("LIMITED", RateGate.LIMITED, -2);
        Answers.due("REFUSED", RateGate.REFUSED, -3);
        Answers.due("FAILED", RateGate.FAILED, -4);
    }

    @Holds(promise = 16, section = "Parcels and bills", sentence = "`CLOSED = 0, OPEN = 1, HALF = 2`: Circuits.")
    static void circuitsAre0To2() {
        Answers.due("CLOSED", RateGate.CLOSED, 0);
        Answers.due("OPEN", RateGate.OPEN, 1);
        Answers.due("HALF", RateGate.HALF, 2);
    }

    @Holds(promise = 22, section = "Parcels and bills",
            sentence = "`BOOKED = 0, CANCELLED = 1, BILLED = 2`: States of parcels.")
    static void statesAre0To2() {
        Answers.due("BOOKED", RateGate.BOOKED, 0);
        Answers.due("CANCELLED", RateGate.CANCELLED, 1);
        Answers.due("BILLED", RateGate.BILLED, 2);
    }
}

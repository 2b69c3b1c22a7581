/** Calls on a RateGate that many tests make. */
abstract class GateCalls {
    static final Class<IllegalArgumentException> ARGUMENT = IllegalArgumentException.class;
    static final Class<IllegalStateException> STATE = IllegalStateException.class;
    static final Class<IndexOutOfBoundsException> INDEX = IndexOutOfBoundsException.class;

    /** Makes a gate, and the same one each time. */
    interface History {
        RateGate make();
    }

    /** A call on a gate. */
    interface Step {
        long on(RateGate gate);
    }

    static void typeAll(RateGate gate, String text) {
        for (int i = 0; i < text.length(); i++) {
            gate.type(text.charAt(i));
        }
    }

    static RateGate typed(String text) {
        RateGate gate = new RateGate();
        typeAll(gate, text);
        return gate;
    }

    /** A request of 1 gram, not express. */
    static String request(int shipper, int carrier, int from, int to) {
        return "S=" + shipper + ";C=" + carrier + ";F=" + from + ";T=" + to + ";W=1";
    }

    static int callWith(RateGate gate, String text) {
        gate.wipe();
        typeAll(gate, text);
        return gate.call();
    }

    static RateGate passAll(RateGate gate, int minutes) {
        for (int rest = minutes; rest > 0; rest -= 500) {
            gate.pass(Math.min(rest, 500));
        }
        return gate;
    }

    static String faultOf(RateGate gate) {
        StringBuilder fault = new StringBuilder();
        for (int i = 0; i < gate.faultLength(); i++) {
            fault.append(gate.fault(i));
        }
        return fault.toString();
    }

    static void dueFault(String text, String want) {
        RateGate gate = typed(text);
        Answers.due("the fault of " + text, faultOf(gate), want);
        Answers.due("isRight() with " + text, gate.isRight(), want.isEmpty());
    }

    static void dueRight(String text) {
        dueFault(text, "");
    }

    static void dueLeft(RateGate gate, String what, int shipper, int want) {
        Answers.due("left, " + what, gate.left(shipper), want);
        Answers.due("leftByLog, " + what, gate.leftByLog(shipper), want);
    }

    /** Opens a circuit by two calls of the shipper 5; the carrier is down then. */
    static void openCircuit(RateGate gate, int carrier) {
        gate.carrier(carrier, false, 0);
        Answers.due("fails", callWith(gate, request(5, carrier, 7, 7)), RateGate.FAILED);
        Answers.due("fails", callWith(gate, request(5, carrier, 7, 7)), RateGate.FAILED);
        Answers.due("is OPEN", gate.circuit(carrier), RateGate.OPEN);
    }

    /** A gate in the midst of its work: rates that are fixed and not, calls of all kinds, parcels of each state. */
    static RateGate busyGate() {
        RateGate gate = new RateGate();
        gate.tariff(1, 300, 30, 3);
        callWith(gate, "S=0;C=0;F=0;T=1;W=1");
        gate.book(0);
        gate.book(0);
        gate.cancel(1);
        gate.pass(31);
        gate.close(0);
        gate.pass(39);
        callWith(gate, "S=0;C=1;F=2;T=1;W=250;X=Y");
        gate.book(1);
        gate.carrier(2, true, 3);
        gate.carrier(3, false, 0);
        callWith(gate, "S=0;C=3;F=0;T=1;W=1");
        gate.quota(4, 0, 1440);
        callWith(gate, "S=4;C=0;F=0;T=1;W=1");
        typeAll(gate, "S=1;C=2;F=0;T=7;W=101");
        return gate;
    }

    /** The call throws, and the gate goes on as one that was not asked for it. */
    static void dueRefused(String what, Class<? extends RuntimeException> want, History history, Step call) {
        RateGate asked = history.make();
        RateGate spared = history.make();
        Answers.dueThrow(what, want, () -> call.on(asked));
        Answers.due("behind " + what + ", all", traceOf(asked), traceOf(spared));
    }

    /** What a gate answers when it is asked for all, and what calls and settings answer that show the rest. */
    static String traceOf(RateGate gate) {
        StringBuilder trace = new StringBuilder();
        askAll(gate, trace);
        put(trace, gate::call);
        put(trace, gate::wipe);
        for (int i = 0; i < 4; i++) {
            String text = request(i, i, 3, 4);
            put(trace, () -> callWith(gate, text));
        }
        for (int i = 0; i < 6; i++) {
            int number = i;
            put(trace, () -> gate.carrier(number, true, 0));
            put(trace, () -> gate.tariff(number, 1, 1, 1));
            put(trace, () -> gate.quota(number, 1, 1));
        }
        put(trace, () -> gate.pass(1));
        askAll(gate, trace);
        return trace.toString();
    }

    private static void askAll(RateGate gate, StringBuilder trace) {
        trace.append('\n').append(faultOf(gate));
        put(trace, gate::calls);
        for (int i = 0; i < 6; i++) {
            int number = i;
            put(trace, () -> gate.left(number));
            put(trace, () -> gate.leftByLog(number));
            put(trace, () -> gate.bill(number));
            put(trace, () -> gate.billed(number));
            put(trace, () -> gate.circuit(number));
            put(trace, () -> gate.tries(number));
        }
        for (int i = 0; put(trace, priceOf(gate, i)); i++) {
            int number = i;
            put(trace, () -> gate.fixed(number));
        }
        for (int i = 0; put(trace, costOf(gate, i)); i++) {
            int number = i;
            put(trace, () -> gate.state(number));
        }
    }

    private static Answers.Call priceOf(RateGate gate, int quote) {
        return () -> gate.price(quote);
    }

    private static Answers.Call costOf(RateGate gate, int parcel) {
        return () -> gate.cost(parcel);
    }

    /** Writes what a call answers or throws; tells whether it throws nothing. */
    private static boolean put(StringBuilder trace, Answers.Call call) {
        String outcome = Answers.outcome(call);
        trace.append(' ').append(outcome);
        return !outcome.startsWith("throws");
    }
}

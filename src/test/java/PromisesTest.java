/** For each promise: ordinary inputs, the edges that the document names, and wrong inputs. */
public final class PromisesTest extends GateCalls {
    public static void main(String[] args) {
        newObject();
        type();
        wipe();
        isRight();
        unknownFaults();
        doubledFaults();
        badFaults();
        missingFaults();
        faultPlaces();
        pass();
        quota();
        carrier();
        tariff();
        callAnswersAndEmptiesTheRequest();
        callThrows();
        callIsLimited();
        callUsesFixedRates();
        callIsRefusedOrFails();
        price();
        fixed();
        left();
        circuitOpensAndCloses();
        circuitOfAFlawedCarrier();
        tries();
        calls();
        book();
        bookBehindTheFixedTime();
        weigh();
        cancel();
        stateAndCost();
        bill();
        close();
        billed();
        useBehind512Calls();
        Answers.end();
    }

    // ---- requests

    private static void newObject() {
        RateGate gate = new RateGate();
        Answers.due("new: calls()", gate.calls(), 0);
        for (int shipper = 0; shipper < 6; shipper++) {
            Answers.due("new: left", gate.left(shipper), 10);
            Answers.due("new: leftByLog", gate.leftByLog(shipper), 10);
            Answers.due("new: bill", gate.bill(shipper), 0);
            Answers.due("new: billed", gate.billed(shipper), 0);
        }
        for (int carrier = 0; carrier < 4; carrier++) {
            Answers.due("new: circuit", gate.circuit(carrier), RateGate.CLOSED);
            Answers.due("new: tries", gate.tries(carrier), 0);
        }
        Answers.dueThrow("new: price(0)", INDEX, () -> gate.price(0));
        Answers.dueThrow("new: state(0)", INDEX, () -> gate.state(0));
        Answers.due("new: isRight()", gate.isRight(), false);
        Answers.due("new: wipe()", gate.wipe(), 0);
        Answers.due("new: pass(1)", gate.pass(1), 1);
        dueFault("", "UNKNOWN 0");
    }

    private static void type() {
        RateGate gate = new RateGate();
        String allowed = "ABCDEFGHIJKLMNOPQRSTUVWXYZ0123456789=;";
        for (int i = 0; i < allowed.length(); i++) {
            Answers.due("type " + allowed.charAt(i), gate.type(allowed.charAt(i)), i + 1);
        }
        for (int sign = 0; sign <= Character.MAX_VALUE; sign++) {
            char typed = (char) sign;
            if (allowed.indexOf(typed) < 0) {
                Answers.dueThrow("type of the sign " + sign, ARGUMENT, () -> gate.type(typed));
            }
        }
        Answers.due("what throws types nothing", gate.wipe(), allowed.length());
        typeAll(gate, ";".repeat(59));
        Answers.due("the 60th sign", gate.type(';'), 60);
        Answers.dueThrow("the 61st sign", STATE, () -> gate.type(';'));
        Answers.dueThrow("a wrong 61st sign", ARGUMENT, () -> gate.type('a'));
        Answers.due("a full request", gate.wipe(), 60);
        Answers.due("type behind a full request", gate.type('S'), 1);
    }

    private static void wipe() {
        RateGate gate = new RateGate();
        typeAll(gate, "S=0;C=0;F=0;T=0;W=1");
        Answers.due("wipe of 19 signs", gate.wipe(), 19);
        Answers.due("wipe of none", gate.wipe(), 0);
        Answers.due("right behind wipe", gate.isRight(), false);
        typeAll(gate, "S=0");
        Answers.due("wipe of 3 signs", gate.wipe(), 3);
    }

    private static void isRight() {
        dueFault("S=0;C=0;F=0;T=0;W=1", "");
        dueFault("S=5;C=3;F=7;T=7;W=30000;X=Y", "");
        dueFault("X=N;W=00001;T=1;F=2;C=3;S=4", "");
        dueFault("W=00100;S=4;X=Y;T=1;F=2;C=3", "");
        RateGate gate = new RateGate();
        typeAll(gate, "S=0;C=0;F=0;T=0;W=1");
        Answers.due("right once", gate.isRight(), true);
        Answers.due("right twice", gate.isRight(), true);
        Answers.due("faultLength() if right", gate.faultLength(), 0);
        gate.type('0');
        Answers.due("right with W=10", gate.isRight(), true);
        gate.type(';');
        Answers.due("not right with an empty part behind", gate.isRight(), false);
        Answers.due("faultLength() if not right", gate.faultLength(), 9);
    }

    private static void unknownFaults() {
        dueFault(";", "UNKNOWN 0");
        dueFault("S", "UNKNOWN 0");
        dueFault("=", "UNKNOWN 0");
        dueFault("=1", "UNKNOWN 0");
        dueFault("1=1", "UNKNOWN 0");
        dueFault("A=1", "UNKNOWN 0");
        dueFault("SC=1", "UNKNOWN 0");
        dueFault("S1", "UNKNOWN 0");
        dueFault("S=1;", "UNKNOWN 1");
        dueFault("S=1;;C=1", "UNKNOWN 1");
        dueFault("S=1;C=1;F", "UNKNOWN 2");
        dueFault("S=1;C=1;F=1;T=1;W=1;", "UNKNOWN 5");
        dueFault("S=1;C=1;F=1;T=1;W=1;X=Y;", "UNKNOWN 6");
        dueFault("S=1;C=1;F=1;T=1;W=1;X=Y;Z=1", "UNKNOWN 6");
        dueFault(";".repeat(60), "UNKNOWN 0");
        dueFault("A=1;S=9", "UNKNOWN 0");
    }

    private static void doubledFaults() {
        for (String key : "S C F T W".split(" ")) {
            dueFault(key + "=1;" + key + "=1", "DOUBLED " + key);
            dueFault(key + "=1;" + key + "=", "DOUBLED " + key);
        }
        dueFault("X=Y;X=Y", "DOUBLED X");
        dueFault("S=1;C=1;F=1;T=1;W=1;X=Y;S=1", "DOUBLED S");
        dueFault("S=9;S=1", "BAD S");
        dueFault("S=1;S=1;Q=1", "DOUBLED S");
    }

    private static void badFaults() {
        dueFault("S=6", "BAD S");
        dueFault("S=01", "BAD S");
        dueFault("S=", "BAD S");
        dueFault("S=A", "BAD S");
        dueFault("S==", "BAD S");
        dueFault("S==1", "BAD S");
        dueFault("S=1=", "BAD S");
        dueFault("C=4", "BAD C");
        dueFault("C=", "BAD C");
        dueFault("C=00", "BAD C");
        dueFault("F=8", "BAD F");
        dueFault("F=77", "BAD F");
        dueFault("T=8", "BAD T");
        dueFault("T=Y", "BAD T");
        dueFault("W=", "BAD W");
        dueFault("W=0", "BAD W");
        dueFault("W=00000", "BAD W");
        dueFault("W=000001", "BAD W");
        dueFault("W=30001", "BAD W");
        dueFault("W=99999", "BAD W");
        dueFault("W=1G", "BAD W");
        dueFault("W==1", "BAD W");
        dueFault("X=", "BAD X");
        dueFault("X=1", "BAD X");
        dueFault("X=YY", "BAD X");
        dueFault("X=NO", "BAD X");
        dueFault("S=1;C=9;F=9;Q", "BAD C");
        dueFault("W=30000;S=9", "BAD S");
        dueFault("F=7;T=7;C=3;S=5;W=0", "BAD W");
    }

    private static void missingFaults() {
        dueFault("C=0;F=0;T=0;W=1", "MISSING S");
        dueFault("S=0;F=0;T=0;W=1", "MISSING C");
        dueFault("S=0;C=0;T=0;W=1", "MISSING F");
        dueFault("S=0;C=0;F=0;W=1", "MISSING T");
        dueFault("S=0;C=0;F=0;T=0", "MISSING W");
        dueFault("X=Y", "MISSING S");
        dueFault("W=1;S=1", "MISSING C");
        dueFault("W=1;C=0", "MISSING S");
        dueFault("S=0;C=0;F=0;T=0;", "UNKNOWN 4");
    }

    private static void faultPlaces() {
        RateGate gate = new RateGate();
        typeAll(gate, "S=9");
        Answers.due("faultLength() of BAD S", gate.faultLength(), 5);
        Answers.due("fault(0)", gate.fault(0), 'B');
        Answers.due("fault(3)", gate.fault(3), ' ');
        Answers.due("fault(4)", gate.fault(4), 'S');
        Answers.dueThrow("fault(5)", INDEX, () -> gate.fault(5));
        Answers.dueThrow("fault(-1)", INDEX, () -> gate.fault(-1));
        Answers.dueThrow("fault of the greatest", INDEX, () -> gate.fault(Integer.MAX_VALUE));
        Answers.dueThrow("fault of the least", INDEX, () -> gate.fault(Integer.MIN_VALUE));
        gate.wipe();
        typeAll(gate, "S=0;C=0;F=0;T=0;W=1");
        Answers.dueThrow("fault(0) if right", INDEX, () -> gate.fault(0));
    }

    // ---- what is set

    private static void pass() {
        RateGate gate = new RateGate();
        Answers.due("pass(1)", gate.pass(1), 1);
        Answers.due("pass(500)", gate.pass(500), 501);
        for (int wrong : new int[] {0, -1, 501, Integer.MIN_VALUE, Integer.MAX_VALUE}) {
            Answers.dueThrow("pass(" + wrong + ")", ARGUMENT, () -> gate.pass(wrong));
        }
        passAll(gate, 20000 - 501 - 100);
        Answers.dueThrow("pass to 20001", STATE, () -> gate.pass(101));
        Answers.dueThrow("pass(501) near the end", ARGUMENT, () -> gate.pass(501));
        Answers.due("pass to 20000", gate.pass(100), 20000);
        Answers.dueThrow("pass at the end", STATE, () -> gate.pass(1));
        Answers.dueThrow("pass(0) at the end", ARGUMENT, () -> gate.pass(0));
    }

    private static void quota() {
        RateGate gate = new RateGate();
        Answers.due("quota before", gate.quota(0, 50, 1440), 10);
        Answers.due("quota then", gate.quota(0, 0, 1), 50);
        Answers.due("quota of another", gate.quota(5, 3, 7), 10);
        for (int wrong : new int[] {-1, 6, Integer.MIN_VALUE, Integer.MAX_VALUE}) {
            Answers.dueThrow("quota of shipper " + wrong, INDEX, () -> gate.quota(wrong, 5, 5));
            Answers.dueThrow("quota, all wrong", INDEX, () -> gate.quota(wrong, -1, 0));
        }
        Answers.dueThrow("quota of -1 calls", ARGUMENT, () -> gate.quota(0, -1, 5));
        Answers.dueThrow("quota of 51 calls", ARGUMENT, () -> gate.quota(0, 51, 5));
        Answers.dueThrow("quota in 0 minutes", ARGUMENT, () -> gate.quota(0, 5, 0));
        Answers.dueThrow("quota in 1441 minutes", ARGUMENT, () -> gate.quota(0, 5, 1441));
        Answers.due("what throws sets nothing", gate.quota(0, 1, 1), 0);
    }

    private static void carrier() {
        RateGate gate = new RateGate();
        Answers.due("flaw before", gate.carrier(0, true, 10), 0);
        Answers.due("flaw then", gate.carrier(0, false, 0), 10);
        Answers.due("flaw of another", gate.carrier(3, true, 1), 0);
        for (int wrong : new int[] {-1, 4, Integer.MIN_VALUE, Integer.MAX_VALUE}) {
            Answers.dueThrow("carrier " + wrong, INDEX, () -> gate.carrier(wrong, true, 0));
            Answers.dueThrow("carrier, all wrong", INDEX, () -> gate.carrier(wrong, true, 11));
        }
        Answers.dueThrow("flaw -1", ARGUMENT, () -> gate.carrier(0, true, -1));
        Answers.dueThrow("flaw 11", ARGUMENT, () -> gate.carrier(0, true, 11));
        Answers.due("what throws sets no isUp", callWith(gate, "S=0;C=0;F=0;T=0;W=1"), RateGate.FAILED);
        Answers.due("what throws sets no flaw", gate.carrier(0, true, 1), 0);
        Answers.due("a try with flaw 1", callWith(gate, "S=0;C=0;F=0;T=0;W=1"), RateGate.FAILED);
    }

    private static void tariff() {
        RateGate gate = new RateGate();
        Answers.due("base before", gate.tariff(0, 10000, 1000, 1000), 500);
        Answers.due("base then", gate.tariff(0, 0, 0, 0), 10000);
        Answers.due("base of another", gate.tariff(3, 7, 8, 9), 500);
        for (int wrong : new int[] {-1, 4, Integer.MIN_VALUE, Integer.MAX_VALUE}) {
            Answers.dueThrow("tariff of carrier " + wrong, INDEX, () -> gate.tariff(wrong, 1, 1, 1));
            Answers.dueThrow("tariff, all wrong", INDEX, () -> gate.tariff(wrong, -1, -1, -1));
        }
        Answers.dueThrow("base -1", ARGUMENT, () -> gate.tariff(3, -1, 1, 1));
        Answers.dueThrow("base 10001", ARGUMENT, () -> gate.tariff(3, 10001, 1, 1));
        Answers.dueThrow("zone -1", ARGUMENT, () -> gate.tariff(3, 1, -1, 1));
        Answers.dueThrow("zone 1001", ARGUMENT, () -> gate.tariff(3, 1, 1001, 1));
        Answers.dueThrow("weight -1", ARGUMENT, () -> gate.tariff(3, 1, 1, -1));
        Answers.dueThrow("weight 1001", ARGUMENT, () -> gate.tariff(3, 1, 1, 1001));
        Answers.due("what throws sets nothing", callWith(gate, "S=0;C=3;F=0;T=1;W=1"), 0);
        Answers.due("the price by 7, 8, 9", gate.price(0), 24);
        Answers.due("the base behind what throws", gate.tariff(3, 1, 1, 1), 7);
    }

    // ---- calls and quotes

    private static void callAnswersAndEmptiesTheRequest() {
        RateGate gate = new RateGate();
        Answers.due("the first quote", callWith(gate, "S=1;C=1;F=0;T=1;W=5"), 0);
        Answers.due("empty behind a quote", gate.wipe(), 0);
        Answers.due("the second quote", callWith(gate, "S=1;C=1;F=0;T=2;W=5"), 1);
        gate.carrier(1, false, 0);
        Answers.due("FAILED", callWith(gate, "S=1;C=1;F=0;T=3;W=5"), RateGate.FAILED);
        Answers.due("empty behind FAILED", gate.wipe(), 0);
        Answers.due("FAILED again", callWith(gate, "S=1;C=1;F=0;T=3;W=5"), RateGate.FAILED);
        Answers.due("REFUSED", callWith(gate, "S=1;C=1;F=0;T=3;W=5"), RateGate.REFUSED);
        Answers.due("empty behind REFUSED", gate.wipe(), 0);
        gate.quota(1, 0, 60);
        Answers.due("LIMITED", callWith(gate, "S=1;C=1;F=0;T=3;W=5"), RateGate.LIMITED);
        Answers.due("empty behind LIMITED", gate.wipe(), 0);
        Answers.due("the third quote", callWith(gate, "S=0;C=2;F=0;T=1;W=5"), 2);
        Answers.due("the costs of these calls", gate.bill(1), 3 + 3 + 1 + 1 + 1);
        Answers.due("the costs of another", gate.bill(0), 3);
    }

    private static void callThrows() {
        RateGate gate = new RateGate();
        Answers.dueThrow("call with nothing", ARGUMENT, gate::call);
        typeAll(gate, "S=1;C=1;F=0;T=1");
        Answers.dueThrow("call with a fault", ARGUMENT, gate::call);
        Answers.due("a call that throws counts not", gate.calls(), 0);
        Answers.due("a call that throws empties not", gate.wipe(), 15);
        quotesUpTo100(gate);
        Answers.dueThrow("call without W and with 100 quotes", ARGUMENT, () -> callWith(gate, "S=1"));
        gate.quota(5, 0, 1);
        Answers.dueThrow("call with 100 quotes", STATE, () -> callWith(gate, "S=0;C=0;F=0;T=0;W=1"));
        Answers.dueThrow("call that would be LIMITED", STATE, () -> callWith(gate, "S=5;C=0;F=0;T=0;W=1"));
        Answers.due("the request is as it was", gate.wipe(), 19);
        Answers.due("100 calls", gate.calls(), 100);
        Answers.due("the last quote", gate.price(99), 520);
        Answers.dueThrow("behind the last quote", INDEX, () -> gate.price(100));
    }

    private static void quotesUpTo100(RateGate gate) {
        gate.quota(0, 50, 1);
        gate.quota(1, 50, 1);
        for (int i = 0; i < 100; i++) {
            Answers.due("quote " + i, callWith(gate, "S=" + i % 2 + ";C=0;F=0;T=0;W=1"), i);
        }
    }

    private static void callIsLimited() {
        RateGate gate = new RateGate();
        for (int i = 0; i < 10; i++) {
            Answers.due("the quota of a new shipper", callWith(gate, "S=3;C=0;F=0;T=0;W=1"), i);
        }
        Answers.due("the 11th call", callWith(gate, "S=3;C=0;F=0;T=0;W=1"), RateGate.LIMITED);
        Answers.due("another shipper", callWith(gate, "S=2;C=0;F=0;T=0;W=1"), 10);
        gate.pass(59);
        Answers.due("59 minutes behind", callWith(gate, "S=3;C=0;F=0;T=0;W=1"), RateGate.LIMITED);
        gate.pass(1);
        Answers.due("60 minutes behind", callWith(gate, "S=3;C=0;F=0;T=0;W=1"), 11);
        Answers.due("what LIMITED costs", gate.bill(3), 3 + 9 + 3);
        gate.quota(3, 11, 61);
        Answers.due("in 61 minutes", callWith(gate, "S=3;C=0;F=0;T=0;W=1"), RateGate.LIMITED);
        gate.quota(3, 12, 61);
        Answers.due("12 in 61 minutes", callWith(gate, "S=3;C=0;F=0;T=0;W=1"), 12);
        gate.carrier(1, false, 0);
        gate.quota(4, 3, 1);
        Answers.due("FAILED counts", callWith(gate, "S=4;C=1;F=0;T=0;W=1"), RateGate.FAILED);
        Answers.due("FAILED counts, twice", callWith(gate, "S=4;C=1;F=0;T=0;W=1"), RateGate.FAILED);
        Answers.due("REFUSED counts", callWith(gate, "S=4;C=1;F=0;T=0;W=1"), RateGate.REFUSED);
        Answers.due("LIMITED then", callWith(gate, "S=4;C=1;F=0;T=0;W=1"), RateGate.LIMITED);
    }

    private static void callUsesFixedRates() {
        RateGate gate = new RateGate();
        for (int shipper = 0; shipper < 6; shipper++) {
            gate.quota(shipper, 50, 1440);
        }
        callWith(gate, "S=0;C=0;F=1;T=2;W=100");
        gate.tariff(0, 1000, 200, 40);
        gate.pass(59);
        Answers.due("by the fixed rate", callWith(gate, "S=0;C=0;F=1;T=2;W=200;X=Y"), 1);
        Answers.due("its price", gate.price(1), (500 + 100 + 40) * 3 / 2);
        Answers.due("its time", gate.fixed(1), 1);
        Answers.due("its cost", gate.bill(0), 3 + 1);
        Answers.due("the carrier is not asked", gate.tries(0), 1);
        Answers.due("another order of the zones", gate.price(callWith(gate, "S=0;C=0;F=2;T=1;W=100")), 1240);
        Answers.due("another shipper", gate.price(callWith(gate, "S=1;C=0;F=1;T=2;W=100")), 1240);
        Answers.due("another carrier", gate.price(callWith(gate, "S=0;C=1;F=1;T=2;W=100")), 620);
        Answers.due("another zone to which", gate.price(callWith(gate, "S=0;C=0;F=1;T=3;W=100")), 1440);
        Answers.due("another zone from which", gate.price(callWith(gate, "S=0;C=0;F=0;T=2;W=100")), 1440);
        Answers.due("the carrier is asked", gate.tries(0), 5);
        gate.pass(1);
        Answers.due("not fixed any more", gate.price(callWith(gate, "S=0;C=0;F=1;T=2;W=100")), 1240);
        Answers.due("fixed anew", gate.fixed(7), 60);
        openCircuit(gate, 0);
        Answers.due("by a fixed rate, while OPEN", callWith(gate, "S=0;C=0;F=1;T=2;W=100"), 8);
        Answers.due("no rate, while OPEN", callWith(gate, "S=0;C=0;F=1;T=7;W=100"), RateGate.REFUSED);
    }

    private static void callIsRefusedOrFails() {
        RateGate gate = new RateGate();
        openCircuit(gate, 2);
        Answers.due("tries up to OPEN", gate.tries(2), 5);
        gate.pass(9);
        Answers.due("REFUSED", callWith(gate, "S=1;C=2;F=0;T=0;W=1"), RateGate.REFUSED);
        Answers.due("REFUSED without a try", gate.tries(2), 5);
        Answers.due("what REFUSED costs", gate.bill(1), 1);
        Answers.due("what FAILED costs", gate.bill(5), 2);
        gate.pass(1);
        Answers.due("FAILED by one try", callWith(gate, "S=1;C=2;F=0;T=0;W=1"), RateGate.FAILED);
        Answers.due("one try while HALF", gate.tries(2), 6);
        gate.carrier(2, true, 0);
        Answers.due("REFUSED, though up", callWith(gate, "S=1;C=2;F=0;T=0;W=1"), RateGate.REFUSED);
        gate.pass(10);
        Answers.due("a quote while HALF", callWith(gate, "S=1;C=2;F=0;T=0;W=1"), 0);
        Answers.due("CLOSED then", gate.circuit(2), RateGate.CLOSED);
        Answers.due("nothing was fixed by what failed", gate.fixed(0), 60);
        Answers.due("all costs", gate.bill(1), 1 + 1 + 1 + 3);
    }

    private static void price() {
        RateGate gate = new RateGate();
        gate.tariff(1, 501, 100, 20);
        String[] texts = {
            "S=0;C=0;F=0;T=0;W=1", "S=0;C=0;F=2;T=5;W=100", "S=0;C=0;F=5;T=2;W=101", "S=0;C=0;F=7;T=0;W=30000;X=N",
            "S=0;C=1;F=1;T=1;W=1;X=Y", "S=0;C=0;F=0;T=7;W=00200;X=Y"
        };
        int[] prices = {520, 820, 840, 7200, 781, 1860};
        for (int i = 0; i < texts.length; i++) {
            Answers.due("price of " + texts[i], gate.price(callWith(gate, texts[i])), prices[i]);
        }
        gate.tariff(0, 10000, 1000, 1000);
        Answers.due("the price stays", gate.price(1), 820);
        Answers.due("the greatest price", gate.price(callWith(gate, "S=1;C=0;F=0;T=7;W=30000;X=Y")), 475500);
        for (int wrong : new int[] {-1, 7, Integer.MIN_VALUE, Integer.MAX_VALUE}) {
            Answers.dueThrow("price(" + wrong + ")", INDEX, () -> gate.price(wrong));
        }
    }

    private static void fixed() {
        RateGate gate = new RateGate();
        Answers.dueThrow("fixed(0) without a quote", INDEX, () -> gate.fixed(0));
        callWith(gate, "S=0;C=0;F=0;T=0;W=1");
        Answers.due("fixed at first", gate.fixed(0), 60);
        gate.pass(20);
        callWith(gate, "S=0;C=0;F=0;T=0;W=1");
        Answers.due("fixed by the same end", gate.fixed(1), 40);
        gate.pass(39);
        Answers.due("fixed for the last minute", gate.fixed(0), 1);
        gate.pass(1);
        Answers.due("fixed no more", gate.fixed(0), 0);
        gate.pass(500);
        Answers.due("fixed long ago", gate.fixed(1), 0);
        for (int wrong : new int[] {-1, 2, Integer.MIN_VALUE, Integer.MAX_VALUE}) {
            Answers.dueThrow("fixed(" + wrong + ")", INDEX, () -> gate.fixed(wrong));
        }
    }

    private static void left() {
        RateGate gate = new RateGate();
        callWith(gate, "S=0;C=0;F=0;T=0;W=1");
        dueLeft(gate, "a call", 0, 9);
        dueLeft(gate, "another shipper", 1, 10);
        gate.pass(30);
        callWith(gate, "S=0;C=0;F=0;T=0;W=1");
        dueLeft(gate, "two calls", 0, 8);
        gate.pass(29);
        dueLeft(gate, "59 minutes behind", 0, 8);
        gate.pass(1);
        dueLeft(gate, "60 minutes behind", 0, 9);
        gate.quota(0, 1, 61);
        dueLeft(gate, "more calls than the quota", 0, 0);
        callWith(gate, "S=0;C=0;F=0;T=0;W=1");
        gate.quota(0, 2, 61);
        dueLeft(gate, "LIMITED counts not", 0, 0);
        gate.quota(0, 3, 61);
        dueLeft(gate, "a greater quota", 0, 1);
        gate.quota(0, 3, 1);
        dueLeft(gate, "a shorter window", 0, 3);
        gate.quota(0, 0, 1440);
        dueLeft(gate, "a quota of none", 0, 0);
        manyCallsLeft(gate);
        for (int wrong : new int[] {-1, 6, Integer.MIN_VALUE, Integer.MAX_VALUE}) {
            Answers.dueThrow("left(" + wrong + ")", INDEX, () -> gate.left(wrong));
            Answers.dueThrow("leftByLog(" + wrong + ")", INDEX, () -> gate.leftByLog(wrong));
        }
    }

    private static void manyCallsLeft(RateGate gate) {
        gate.quota(2, 50, 10);
        for (int i = 0; i < 90; i++) {
            callWith(gate, "S=2;C=0;F=0;T=0;W=1");
            dueLeft(gate, "many calls", 2, i < 50 ? 49 - i : 0);
        }
        gate.pass(5);
        gate.quota(2, 50, 5);
        for (int i = 0; i < 20; i++) {
            callWith(gate, "S=2;C=0;F=0;T=0;W=1");
            dueLeft(gate, "many calls, in the last 5 minutes", 2, 49 - i);
        }
        gate.quota(2, 50, 6);
        dueLeft(gate, "many calls, in the last 6 minutes", 2, 0);
    }

    private static void circuitOpensAndCloses() {
        RateGate gate = new RateGate();
        gate.carrier(1, false, 0);
        callWith(gate, "S=0;C=1;F=0;T=0;W=1");
        Answers.due("3 fails", gate.circuit(1), RateGate.CLOSED);
        Answers.due("the circuit of another", gate.circuit(0), RateGate.CLOSED);
        gate.pass(100);
        callWith(gate, "S=0;C=1;F=0;T=0;W=1");
        Answers.due("5 fails", gate.circuit(1), RateGate.OPEN);
        gate.carrier(1, true, 0);
        gate.pass(9);
        Answers.due("9 minutes behind", gate.circuit(1), RateGate.OPEN);
        gate.pass(1);
        Answers.due("10 minutes behind", gate.circuit(1), RateGate.HALF);
        gate.pass(500);
        Answers.due("long behind", gate.circuit(1), RateGate.HALF);
        gate.carrier(1, false, 0);
        callWith(gate, "S=0;C=1;F=0;T=0;W=1");
        Answers.due("a fail while HALF", gate.circuit(1), RateGate.OPEN);
        gate.pass(9);
        Answers.due("9 minutes behind that", gate.circuit(1), RateGate.OPEN);
        gate.pass(1);
        gate.carrier(1, true, 0);
        callWith(gate, "S=0;C=1;F=0;T=0;W=1");
        Answers.due("a try that fails not", gate.circuit(1), RateGate.CLOSED);
        gate.carrier(1, false, 0);
        callWith(gate, "S=0;C=1;F=0;T=1;W=1");
        Answers.due("3 fails anew", gate.circuit(1), RateGate.CLOSED);
        for (int wrong : new int[] {-1, 4, Integer.MIN_VALUE, Integer.MAX_VALUE}) {
            Answers.dueThrow("circuit(" + wrong + ")", INDEX, () -> gate.circuit(wrong));
        }
    }

    private static void circuitOfAFlawedCarrier() {
        RateGate gate = new RateGate();
        gate.carrier(0, true, 2);
        for (int zone = 0; zone < 7; zone++) {
            Answers.due("every second try fails", callWith(gate, "S=0;C=0;F=0;T=" + zone + ";W=1"), zone);
            Answers.due("tries then", gate.tries(0), 1 + 2 * zone);
            Answers.due("CLOSED", gate.circuit(0), RateGate.CLOSED);
        }
        gate.carrier(0, false, 2);
        callWith(gate, "S=0;C=0;F=1;T=0;W=1");
        gate.carrier(0, true, 9);
        Answers.due("the 17th try", callWith(gate, "S=0;C=0;F=1;T=0;W=1"), 7);
        Answers.due("17 tries", gate.tries(0), 17);
        gate.carrier(0, true, 9);
        Answers.due("the 18th try and the next", callWith(gate, "S=0;C=0;F=1;T=1;W=1"), 8);
        Answers.due("19 tries", gate.tries(0), 19);
    }

    private static void tries() {
        RateGate gate = new RateGate();
        callWith(gate, "S=0;C=3;F=0;T=0;W=1");
        Answers.due("one try", gate.tries(3), 1);
        callWith(gate, "S=0;C=3;F=0;T=0;W=1");
        Answers.due("no try by a fixed rate", gate.tries(3), 1);
        gate.carrier(3, false, 0);
        callWith(gate, "S=0;C=3;F=0;T=1;W=1");
        Answers.due("three tries", gate.tries(3), 4);
        callWith(gate, "S=0;C=3;F=0;T=1;W=1");
        Answers.due("two tries", gate.tries(3), 6);
        Answers.due("the tries of another", gate.tries(2), 0);
        for (int wrong : new int[] {-1, 4, Integer.MIN_VALUE, Integer.MAX_VALUE}) {
            Answers.dueThrow("tries(" + wrong + ")", INDEX, () -> gate.tries(wrong));
        }
    }

    private static void calls() {
        RateGate gate = new RateGate();
        callWith(gate, "S=0;C=3;F=0;T=0;W=1");
        callWith(gate, "S=0;C=3;F=0;T=0;W=1");
        Answers.due("two quotes", gate.calls(), 2);
        gate.quota(0, 0, 1);
        callWith(gate, "S=0;C=3;F=0;T=0;W=1");
        Answers.due("and one LIMITED", gate.calls(), 3);
        openCircuit(gate, 3);
        Answers.due("and two FAILED", gate.calls(), 5);
        callWith(gate, "S=5;C=3;F=0;T=0;W=1");
        Answers.due("and one REFUSED", gate.calls(), 6);
    }

    // ---- parcels and bills

    private static void book() {
        RateGate gate = new RateGate();
        Answers.dueThrow("book(0) without a quote", INDEX, () -> gate.book(0));
        callWith(gate, "S=0;C=0;F=0;T=0;W=1");
        for (int i = 0; i < 50; i++) {
            Answers.due("book " + i, gate.book(0), i);
        }
        Answers.dueThrow("book a 51st", STATE, () -> gate.book(0));
        Answers.dueThrow("behind the last parcel", INDEX, () -> gate.state(50));
        for (int wrong : new int[] {-1, 1, Integer.MIN_VALUE, Integer.MAX_VALUE}) {
            Answers.dueThrow("book(" + wrong + ")", INDEX, () -> gate.book(wrong));
        }
        Answers.due("booking costs no call", gate.bill(0), 3);
    }

    private static void bookBehindTheFixedTime() {
        RateGate gate = new RateGate();
        callWith(gate, "S=0;C=0;F=0;T=1;W=1;X=Y");
        gate.tariff(0, 501, 100, 20);
        gate.pass(59);
        Answers.due("in the last fixed minute", gate.book(0), 0);
        Answers.due("at the price of the quote", gate.cost(0), 930);
        gate.pass(1);
        Answers.dueThrow("behind, by another price", STATE, () -> gate.book(0));
        gate.tariff(0, 500, 90, 30);
        Answers.due("behind, by the same price of other amounts", gate.book(0), 1);
        Answers.due("weighed by the tariff of the quote", gate.weigh(1, 101), 30);
        gate.tariff(0, 500, 99, 20);
        Answers.dueThrow("behind, by a lower price", STATE, () -> gate.book(0));
        gate.tariff(1, 500, 100, 20);
        Answers.dueThrow("behind, with the tariff of another carrier", STATE, () -> gate.book(0));
        gate.tariff(0, 500, 100, 20);
        gate.pass(500);
        Answers.due("behind, by the tariff as it was", gate.book(0), 2);
    }

    private static void weigh() {
        RateGate gate = new RateGate();
        Answers.dueThrow("weigh without a parcel", INDEX, () -> gate.weigh(0, 1));
        callWith(gate, "S=0;C=0;F=7;T=4;W=250;X=Y");
        gate.book(0);
        gate.book(0);
        gate.tariff(0, 0, 0, 0);
        Answers.due("cost booked", gate.cost(0), 1290);
        Answers.due("as heavy as told", gate.weigh(0, 300), 0);
        Answers.due("lighter", gate.weigh(0, 200), -30);
        Answers.due("heavier", gate.weigh(0, 201), 30);
        Answers.due("the heaviest", gate.weigh(0, 30000), 8910);
        Answers.due("the lightest", gate.weigh(0, 1), -8970);
        Answers.due("cost weighed", gate.cost(0), 1230);
        Answers.due("cost of another", gate.cost(1), 1290);
        Answers.due("the quote stays", gate.price(0), 1290);
        Answers.dueThrow("weigh 0", ARGUMENT, () -> gate.weigh(0, 0));
        Answers.dueThrow("weigh 30001", ARGUMENT, () -> gate.weigh(0, 30001));
        for (int wrong : new int[] {-1, 2, Integer.MIN_VALUE, Integer.MAX_VALUE}) {
            Answers.dueThrow("weigh parcel " + wrong, INDEX, () -> gate.weigh(wrong, 0));
        }
        gate.pass(100);
        Answers.due("weigh when it is too late to cancel", gate.weigh(0, 101), 30);
        gate.close(0);
        Answers.dueThrow("weigh a BILLED one", STATE, () -> gate.weigh(0, 5));
        Answers.dueThrow("weigh a BILLED one, by 0", ARGUMENT, () -> gate.weigh(0, 0));
        Answers.due("cost BILLED", gate.cost(0), 1260);
    }

    private static void cancel() {
        RateGate gate = new RateGate();
        Answers.dueThrow("cancel without a parcel", INDEX, () -> gate.cancel(0));
        callWith(gate, "S=0;C=0;F=0;T=0;W=1");
        for (int i = 0; i < 4; i++) {
            gate.book(0);
        }
        gate.weigh(1, 1000);
        Answers.due("cancel at once", gate.cancel(0), 520);
        Answers.dueThrow("cancel twice", STATE, () -> gate.cancel(0));
        Answers.dueThrow("weigh what is cancelled", STATE, () -> gate.weigh(0, 1));
        gate.pass(30);
        Answers.due("cancel what was weighed, 30 minutes behind", gate.cancel(1), 700);
        gate.book(0);
        gate.pass(1);
        Answers.dueThrow("cancel 31 minutes behind", STATE, () -> gate.cancel(2));
        Answers.due("it is BOOKED still", gate.state(2), RateGate.BOOKED);
        gate.close(0);
        Answers.dueThrow("cancel what is BILLED", STATE, () -> gate.cancel(2));
        Answers.due("cancel what was booked later", gate.cancel(4), 520);
        for (int wrong : new int[] {-1, 5, Integer.MIN_VALUE, Integer.MAX_VALUE}) {
            Answers.dueThrow("cancel(" + wrong + ")", INDEX, () -> gate.cancel(wrong));
        }
    }

    private static void stateAndCost() {
        RateGate gate = new RateGate();
        callWith(gate, "S=0;C=0;F=0;T=0;W=1");
        gate.book(0);
        gate.book(0);
        Answers.due("state at first", gate.state(0), RateGate.BOOKED);
        gate.cancel(1);
        Answers.due("state cancelled", gate.state(1), RateGate.CANCELLED);
        Answers.due("cost cancelled", gate.cost(1), 520);
        gate.pass(31);
        Answers.due("state before the bill", gate.state(0), RateGate.BOOKED);
        gate.bill(0);
        gate.close(1);
        Answers.due("state behind a bill of another", gate.state(0), RateGate.BOOKED);
        gate.close(0);
        Answers.due("state billed", gate.state(0), RateGate.BILLED);
        Answers.due("cost billed", gate.cost(0), 520);
        Answers.due("state cancelled, behind a bill", gate.state(1), RateGate.CANCELLED);
        for (int wrong : new int[] {-1, 2, Integer.MIN_VALUE, Integer.MAX_VALUE}) {
            Answers.dueThrow("state(" + wrong + ")", INDEX, () -> gate.state(wrong));
            Answers.dueThrow("cost(" + wrong + ")", INDEX, () -> gate.cost(wrong));
        }
    }

    private static void bill() {
        RateGate gate = new RateGate();
        callWith(gate, "S=4;C=0;F=0;T=0;W=1");
        callWith(gate, "S=5;C=0;F=0;T=1;W=1");
        gate.book(0);
        gate.book(1);
        gate.book(1);
        gate.cancel(2);
        gate.pass(30);
        Answers.due("calls alone", gate.bill(4), 3);
        gate.book(0);
        gate.pass(1);
        Answers.due("calls and a parcel", gate.bill(4), 3 + 520);
        gate.weigh(0, 101);
        Answers.due("calls and what was weighed", gate.bill(4), 3 + 540);
        Answers.due("no cancelled parcel", gate.bill(5), 3 + 620);
        Answers.due("bill bills not", gate.bill(4), 3 + 540);
        gate.pass(30);
        Answers.due("calls and both parcels", gate.bill(4), 3 + 540 + 520);
        for (int wrong : new int[] {-1, 6, Integer.MIN_VALUE, Integer.MAX_VALUE}) {
            Answers.dueThrow("bill(" + wrong + ")", INDEX, () -> gate.bill(wrong));
        }
    }

    private static void close() {
        RateGate gate = new RateGate();
        Answers.due("close of nothing", gate.close(2), 0);
        callWith(gate, "S=2;C=0;F=0;T=0;W=1");
        callWith(gate, "S=2;C=0;F=0;T=0;W=1");
        gate.book(0);
        Answers.due("close with calls", gate.close(2), 4);
        Answers.due("it is BOOKED still", gate.state(0), RateGate.BOOKED);
        Answers.due("close again", gate.close(2), 0);
        gate.pass(30);
        Answers.due("close 30 minutes behind", gate.close(2), 0);
        gate.pass(1);
        gate.book(0);
        Answers.due("close 31 minutes behind", gate.close(2), 520);
        Answers.due("it is BILLED", gate.state(0), RateGate.BILLED);
        Answers.due("the later one is not", gate.state(1), RateGate.BOOKED);
        Answers.due("nothing is billed twice", gate.close(2), 0);
        gate.pass(31);
        callWith(gate, "S=2;C=0;F=0;T=0;W=1");
        Answers.due("the later one and a call", gate.close(2), 523);
        for (int wrong : new int[] {-1, 6, Integer.MIN_VALUE, Integer.MAX_VALUE}) {
            Answers.dueThrow("close(" + wrong + ")", INDEX, () -> gate.close(wrong));
        }
    }

    private static void billed() {
        RateGate gate = new RateGate();
        callWith(gate, "S=2;C=0;F=0;T=0;W=1");
        gate.book(0);
        Answers.due("before the first bill", gate.billed(2), 0);
        gate.close(2);
        Answers.due("behind the first bill", gate.billed(2), 3);
        gate.pass(31);
        gate.bill(2);
        Answers.due("before the second bill", gate.billed(2), 3);
        gate.close(2);
        Answers.due("behind the second bill", gate.billed(2), 523);
        gate.close(2);
        Answers.due("behind a bill of nothing", gate.billed(2), 523);
        Answers.due("of another", gate.billed(1), 0);
        for (int wrong : new int[] {-1, 6, Integer.MIN_VALUE, Integer.MAX_VALUE}) {
            Answers.dueThrow("billed(" + wrong + ")", INDEX, () -> gate.billed(wrong));
        }
    }

    // ---- what is free

    /** What the answers are is free then, but nothing may break; and these are kept right. */
    private static void useBehind512Calls() {
        RateGate gate = new RateGate();
        gate.quota(1, 0, 1440);
        for (int i = 0; i < 1300; i++) {
            Answers.due("LIMITED", callWith(gate, "S=1;C=0;F=0;T=0;W=1"), RateGate.LIMITED);
        }
        callWith(gate, "S=0;C=0;F=0;T=0;W=1");
        Answers.due("all calls", gate.calls(), 1301);
        dueLeft(gate, "behind 1300 calls", 0, 9);
        dueLeft(gate, "behind 1300 calls that were LIMITED", 1, 0);
    }
}

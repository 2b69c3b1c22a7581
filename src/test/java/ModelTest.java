import java.util.ArrayList;
import java.util.HashMap;
import java.util.List;
import java.util.Map;
import java.util.Random;
import java.util.TreeMap;

/** Compares runs of 512 calls, from fixed seeds, with a second program of the document that shares no code with it. */
public final class ModelTest {
    private static final int RUNS = 3000;
    private static final int CALLS = 512;

    private final Random random;
    private final int run;
    private final RateGate gate = new RateGate();
    private final Model model = new Model();
    private final Map<String, Integer> outcomes;
    private int callsMade = 0;

    private ModelTest(int run, Map<String, Integer> outcomes) {
        this.run = run;
        this.random = new Random(run);
        this.outcomes = outcomes;
    }

    public static void main(String[] args) {
        Map<String, Integer> outcomes = new TreeMap<>();
        for (int run = 0; run < RUNS; run++) {
            new ModelTest(run, outcomes).makeRun();
        }
        dueOutcomes(outcomes);
        Answers.end();
    }

    /** A run that never comes to a quote, a parcel or a bill would compare nothing. */
    private static void dueOutcomes(Map<String, Integer> outcomes) {
        String[] wanted = {
            "call -2", "call -3", "call -4", "call 9", "call throws IllegalArgumentException", "quote by a fixed rate",
            "book 0", "book behind the fixed time", "book throws IllegalStateException", "weigh", "cancel",
            "cancel throws IllegalStateException", "weigh throws IllegalStateException", "close with a parcel",
            "circuit 0", "circuit 1", "circuit 2"
        };
        for (String outcome : wanted) {
            Answers.due("the runs have " + outcome, outcomes.getOrDefault(outcome, 0) >= 20, true);
        }
    }

    private void makeRun() {
        int kind = run % 3;
        while (callsMade < CALLS) {
            if (kind == 0) {
                anyCall();
            } else {
                likelyCall();
            }
        }
    }

    private int number(int least, int most) {
        return least + random.nextInt(most - least + 1);
    }

    private int oneOf(int... numbers) {
        return numbers[random.nextInt(numbers.length)];
    }

    /** Runs one call on both, and compares what they answer or throw. */
    private void both(String what, Answers.Call onGate, Answers.Call onModel) {
        if (callsMade >= CALLS) {
            return;
        }
        callsMade++;
        String want = Answers.outcome(onModel).replace("java.lang.", "");
        Answers.due("run " + run + ", call " + callsMade + ": " + what,
                Answers.outcome(onGate).replace("java.lang.", ""), want);
        String name = what.substring(0, what.indexOf('('));
        count(name + " " + want);
        if (!want.startsWith("throws")) {
            count(name);
        }
    }

    private void count(String outcome) {
        outcomes.merge(outcome, 1, Integer::sum);
    }

    private void typeAll(String text) {
        for (char sign : text.toCharArray()) {
            both("type(" + sign + ")", () -> gate.type(sign), () -> model.type(sign));
        }
    }

    private String rightRequest() {
        List<String> parts = new ArrayList<>();
        parts.add("S=" + oneOf(0, 0, 0, 1));
        parts.add("C=" + oneOf(0, 0, 1, 3));
        parts.add("F=" + oneOf(0, 2, 2, 7));
        parts.add("T=" + oneOf(2, 2, 7));
        parts.add("W=" + oneOf(1, 99, 100, 101, 30000, number(1, 30000)));
        if (random.nextInt(3) == 0) {
            parts.add("X=" + (random.nextBoolean() ? "Y" : "N"));
        }
        java.util.Collections.shuffle(parts, random);
        return String.join(";", parts);
    }

    private String brokenRequest() {
        StringBuilder text = new StringBuilder(rightRequest());
        String signs = "SCFTWXYN0123456789==;;A";
        for (int i = number(1, 3); i > 0; i--) {
            int place = random.nextInt(text.length());
            char sign = signs.charAt(random.nextInt(signs.length()));
            switch (random.nextInt(3)) {
                case 0:
                    text.setCharAt(place, sign);
                    break;
                case 1:
                    text.insert(place, sign);
                    break;
                default:
                    text.deleteCharAt(place);
            }
        }
        return text.toString();
    }

    private void askFault() {
        both("isRight()", () -> gate.isRight() ? 1 : 0, () -> model.fault().isEmpty() ? 1 : 0);
        both("faultLength()", () -> gate.faultLength(), () -> model.fault().length());
        for (int i = 0; i < 10; i++) {
            int place = i;
            both("fault(" + i + ")", () -> gate.fault(place), () -> model.fault(place));
        }
    }

    private void callByRequest() {
        int unfixed = model.freshQuotes;
        both("call()", gate::call, model::call);
        if (model.lastAnswer >= 0 && unfixed == model.freshQuotes) {
            count("quote by a fixed rate");
        }
    }

    private void likelyCall() {
        int quote = random.nextInt(model.quotes.size() + 1) - random.nextInt(2) * random.nextInt(2);
        int parcel = random.nextInt(model.parcels.size() + 1);
        switch (random.nextInt(20)) {
            case 0:
            case 1:
            case 2:
            case 3:
                typeAll(rightRequest());
                callByRequest();
                break;
            case 4:
                typeAll(brokenRequest());
                askFault();
                callByRequest();
                both("wipe()", gate::wipe, model::wipe);
                break;
            case 5:
            case 6:
            case 7:
                bookOn(quote);
                break;
            case 8:
                weigh(parcel, oneOf(1, 100, 101, 30000, 0, 30001, number(1, 30000)));
                break;
            case 9:
                both("cancel()", () -> gate.cancel(parcel), () -> model.cancel(parcel));
                break;
            case 10:
            case 11:
                pass(oneOf(1, 1, 5, 10, 29, 30, 31, 59, 60, 500));
                break;
            case 12:
                setCarrier(oneOf(0, 0, 1, 3), random.nextInt(3) != 0, oneOf(0, 0, 1, 2, 2, 3, 5));
                break;
            case 13:
                setTariff(oneOf(0, 0, 1, 3), oneOf(500, 500, 501, 0), oneOf(100, 100, 0), oneOf(20, 20, 21));
                break;
            case 14:
                setQuota(oneOf(0, 0, 1), oneOf(0, 1, 2, 3, 5, 50), oneOf(1, 5, 10, 60, 61, 1440));
                break;
            case 15:
                closeFor(oneOf(0, 0, 1));
                break;
            default:
                ask(oneOf(0, 0, 1, 5), oneOf(0, 0, 1, 3), quote, parcel);
        }
    }

    private void anyCall() {
        int any = oneOf(-1, 0, 1, 3, 4, 5, 6, 7, Integer.MIN_VALUE, Integer.MAX_VALUE);
        int other = oneOf(-1, 0, 1, 50, 51, 500, 501, 1000, 1001, 1440, 1441, 10000, 10001, number(-5, 2000));
        int third = oneOf(-1, 0, 1, 10, 11, 1000, 1001, 1440, 1441, number(-5, 2000));
        switch (random.nextInt(10)) {
            case 0:
                typeAll(rightRequest());
                callByRequest();
                both("wipe()", gate::wipe, model::wipe);
                break;
            case 1:
                char sign = (char) number(32, 128);
                both("type(" + (int) sign + ")", () -> gate.type(sign), () -> model.type(sign));
                break;
            case 2:
                pass(other);
                break;
            case 3:
                setQuota(any, other, third);
                break;
            case 4:
                setCarrier(any, random.nextBoolean(), third);
                break;
            case 5:
                setTariff(any, other, third, oneOf(-1, 0, 1000, 1001, 20));
                break;
            case 6:
                bookOn(any);
                weigh(any, other);
                break;
            case 7:
                both("cancel()", () -> gate.cancel(any), () -> model.cancel(any));
                break;
            case 8:
                closeFor(any);
                break;
            default:
                ask(any, any, any, any);
        }
    }

    private void bookOn(int quote) {
        boolean isLate = quote >= 0 && quote < model.quotes.size() && model.fixed(quote) == 0;
        int before = model.parcels.size();
        both("book(" + quote + ")", () -> gate.book(quote), () -> model.book(quote));
        if (isLate && model.parcels.size() > before) {
            count("book behind the fixed time");
        }
    }

    private void weigh(int parcel, int grams) {
        both("weigh(" + parcel + ", " + grams + ")", () -> gate.weigh(parcel, grams), () -> model.weigh(parcel, grams));
    }

    private void pass(int minutes) {
        both("pass(" + minutes + ")", () -> gate.pass(minutes), () -> model.pass(minutes));
    }

    private void setCarrier(int carrier, boolean isUp, int flaw) {
        both("carrier(" + carrier + ", " + isUp + ", " + flaw + ")",
                () -> gate.carrier(carrier, isUp, flaw), () -> model.carrier(carrier, isUp, flaw));
    }

    private void setTariff(int carrier, int base, int zone, int weight) {
        both("tariff(" + carrier + ", " + base + ", " + zone + ", " + weight + ")",
                () -> gate.tariff(carrier, base, zone, weight), () -> model.tariff(carrier, base, zone, weight));
    }

    private void setQuota(int shipper, int calls, int minutes) {
        both("quota(" + shipper + ", " + calls + ", " + minutes + ")",
                () -> gate.quota(shipper, calls, minutes), () -> model.quota(shipper, calls, minutes));
    }

    private void closeFor(int shipper) {
        long billedBefore = model.parcelsBilled;
        both("close(" + shipper + ")", () -> gate.close(shipper), () -> model.close(shipper));
        if (model.parcelsBilled > billedBefore) {
            count("close with a parcel");
        }
    }

    private void ask(int shipper, int carrier, int quote, int parcel) {
        both("left(" + shipper + ")", () -> gate.left(shipper), () -> model.left(shipper));
        both("leftByLog(" + shipper + ")", () -> gate.leftByLog(shipper), () -> model.left(shipper));
        both("bill(" + shipper + ")", () -> gate.bill(shipper), () -> model.bill(shipper));
        both("billed(" + shipper + ")", () -> gate.billed(shipper), () -> model.billed(shipper));
        both("circuit(" + carrier + ")", () -> gate.circuit(carrier), () -> model.circuit(carrier));
        both("tries(" + carrier + ")", () -> gate.tries(carrier), () -> model.tries(carrier));
        both("price(" + quote + ")", () -> gate.price(quote), () -> model.price(quote));
        both("fixed(" + quote + ")", () -> gate.fixed(quote), () -> model.fixed(quote));
        both("state(" + parcel + ")", () -> gate.state(parcel), () -> model.state(parcel));
        both("cost(" + parcel + ")", () -> gate.cost(parcel), () -> model.cost(parcel));
        both("calls()", gate::calls, () -> model.log.size());
    }

    /** The document once more, with texts, maps and lists, and minute by minute where the class counts. */
    private static final class Model {
        private String text = "";
        private int now = 0;
        private final int[][] quotas = {{10, 60}, {10, 60}, {10, 60}, {10, 60}, {10, 60}, {10, 60}};
        private final int[] owed = new int[6];
        private final int[] paid = new int[6];
        private final boolean[] down = new boolean[4];
        private final int[] flaws = new int[4];
        private final int[] tried = new int[4];
        private final int[] fails = new int[4];
        private final int[] circuits = new int[4];
        private final int[] openFor = new int[4];
        private final int[][] tariffs = {{500, 100, 20}, {500, 100, 20}, {500, 100, 20}, {500, 100, 20}};
        private final Map<String, int[]> rates = new HashMap<>();
        private final Map<String, Integer> rateEnds = new HashMap<>();
        private final List<int[]> log = new ArrayList<>();
        private final List<int[]> quotes = new ArrayList<>();
        private final List<int[]> quoteRates = new ArrayList<>();
        private final List<int[]> parcels = new ArrayList<>();
        private int freshQuotes = 0;
        private int lastAnswer = -1;
        private long parcelsBilled = 0;

        private static void index(int number, int count) {
            if (number < 0 || number >= count) {
                throw new IndexOutOfBoundsException();
            }
        }

        private static void argument(boolean isRight) {
            if (!isRight) {
                throw new IllegalArgumentException();
            }
        }

        private static void state(boolean isRight) {
            if (!isRight) {
                throw new IllegalStateException();
            }
        }

        int type(char sign) {
            argument(String.valueOf(sign).matches("[A-Z0-9=;]"));
            state(text.length() < 60);
            text += sign;
            return text.length();
        }

        int wipe() {
            int before = text.length();
            text = "";
            return before;
        }

        String fault() {
            Map<String, String> seen = new HashMap<>();
            String[] parts = text.split(";", -1);
            for (int i = 0; i < parts.length; i++) {
                if (!parts[i].matches("[SCFTWX]=.*")) {
                    return "UNKNOWN " + i;
                }
                String key = parts[i].substring(0, 1);
                if (seen.put(key, parts[i].substring(2)) != null) {
                    return "DOUBLED " + key;
                }
                if (!parts[i].matches("S=[0-5]|C=[0-3]|[FT]=[0-7]|X=[YN]|W=0*([1-9][0-9]{0,3}|[12][0-9]{4}|30000)")
                        || parts[i].length() > 7) {
                    return "BAD " + key;
                }
            }
            for (String key : "S C F T W".split(" ")) {
                if (!seen.containsKey(key)) {
                    return "MISSING " + key;
                }
            }
            return "";
        }

        int fault(int place) {
            index(place, fault().length());
            return fault().charAt(place);
        }

        int pass(int minutes) {
            argument(minutes >= 1 && minutes <= 500);
            state(now + minutes <= 20000);
            for (int i = 0; i < minutes; i++) {
                now++;
                for (int carrier = 0; carrier < 4; carrier++) {
                    if (circuits[carrier] == RateGate.OPEN && --openFor[carrier] == 0) {
                        circuits[carrier] = RateGate.HALF;
                    }
                }
            }
            return now;
        }

        int quota(int shipper, int calls, int minutes) {
            index(shipper, 6);
            argument(calls >= 0 && calls <= 50 && minutes >= 1 && minutes <= 1440);
            int before = quotas[shipper][0];
            quotas[shipper] = new int[] {calls, minutes};
            return before;
        }

        int carrier(int carrier, boolean isUp, int flaw) {
            index(carrier, 4);
            argument(flaw >= 0 && flaw <= 10);
            int before = flaws[carrier];
            down[carrier] = !isUp;
            flaws[carrier] = flaw;
            return before;
        }

        int tariff(int carrier, int base, int zone, int weight) {
            index(carrier, 4);
            argument(base >= 0 && base <= 10000 && zone >= 0 && zone <= 1000 && weight >= 0 && weight <= 1000);
            int before = tariffs[carrier][0];
            tariffs[carrier] = new int[] {base, zone, weight};
            return before;
        }

        int left(int shipper) {
            index(shipper, 6);
            long made = log.stream()
                    .filter(row -> row[0] == shipper && row[2] != RateGate.LIMITED)
                    .filter(row -> now - row[1] + 1 <= quotas[shipper][1])
                    .count();
            return (int) Math.max(0, quotas[shipper][0] - made);
        }

        int call() {
            argument(fault().isEmpty());
            state(quotes.size() < 100);
            Map<String, Integer> fields = new HashMap<>();
            for (String part : text.split(";")) {
                String value = part.substring(2);
                fields.put(part.substring(0, 1), value.equals("Y") ? 1 : value.equals("N") ? 0 : Integer.parseInt(value));
            }
            int shipper = fields.get("S");
            lastAnswer = answer(shipper, fields);
            log.add(new int[] {shipper, now, lastAnswer});
            text = "";
            return lastAnswer;
        }

        private int answer(int shipper, Map<String, Integer> fields) {
            String lane = shipper + " " + fields.get("C") + " " + fields.get("F") + " " + fields.get("T");
            if (left(shipper) == 0) {
                return RateGate.LIMITED;
            }
            if (rateEnds.getOrDefault(lane, 0) > now) {
                owed[shipper] += 1;
                return addQuote(lane, fields);
            }
            int asked = ask(fields.get("C"));
            if (asked != 0) {
                owed[shipper] += 1;
                return asked;
            }
            owed[shipper] += 3;
            freshQuotes++;
            rates.put(lane, tariffs[fields.get("C")]);
            rateEnds.put(lane, now + 60);
            return addQuote(lane, fields);
        }

        private int ask(int carrier) {
            if (circuits[carrier] == RateGate.OPEN) {
                return RateGate.REFUSED;
            }
            int most = circuits[carrier] == RateGate.HALF ? 1 : 3;
            for (int i = 0; i < most; i++) {
                tried[carrier]++;
                if (!down[carrier] && (flaws[carrier] == 0 || tried[carrier] % flaws[carrier] > 0)) {
                    circuits[carrier] = RateGate.CLOSED;
                    fails[carrier] = 0;
                    return 0;
                }
                fails[carrier]++;
                if (fails[carrier] >= 5 || circuits[carrier] == RateGate.HALF) {
                    circuits[carrier] = RateGate.OPEN;
                    openFor[carrier] = 10;
                    break;
                }
            }
            return RateGate.FAILED;
        }

        private int addQuote(String lane, Map<String, Integer> fields) {
            quotes.add(new int[] {
                fields.get("S"), fields.get("C"), fields.get("F"), fields.get("T"), fields.get("W"),
                fields.getOrDefault("X", 0), rateEnds.get(lane)
            });
            quoteRates.add(rates.get(lane));
            return quotes.size() - 1;
        }

        private int priceBy(int[] tariff, int[] quote, int grams) {
            int begun = 0;
            for (int weight = 0; weight < grams; weight += 100) {
                begun++;
            }
            int zones = Math.max(quote[2], quote[3]) - Math.min(quote[2], quote[3]);
            int sum = tariff[0] + tariff[1] * zones + tariff[2] * begun;
            return quote[5] == 1 ? sum + sum / 2 : sum;
        }

        int price(int quote) {
            index(quote, quotes.size());
            return priceBy(quoteRates.get(quote), quotes.get(quote), quotes.get(quote)[4]);
        }

        int fixed(int quote) {
            index(quote, quotes.size());
            return Math.max(0, quotes.get(quote)[6] - now);
        }

        int circuit(int carrier) {
            index(carrier, 4);
            return circuits[carrier];
        }

        int tries(int carrier) {
            index(carrier, 4);
            return tried[carrier];
        }

        int book(int quote) {
            int price = price(quote);
            int[] told = quotes.get(quote);
            state(fixed(quote) > 0 || priceBy(tariffs[told[1]], told, told[4]) == price);
            state(parcels.size() < 50);
            parcels.add(new int[] {quote, price, now, RateGate.BOOKED});
            return parcels.size() - 1;
        }

        int weigh(int number, int grams) {
            index(number, parcels.size());
            argument(grams >= 1 && grams <= 30000);
            int[] parcel = parcels.get(number);
            state(parcel[3] == RateGate.BOOKED);
            int before = parcel[1];
            parcel[1] = priceBy(quoteRates.get(parcel[0]), quotes.get(parcel[0]), grams);
            return parcel[1] - before;
        }

        int cancel(int number) {
            index(number, parcels.size());
            int[] parcel = parcels.get(number);
            state(parcel[3] == RateGate.BOOKED && now - parcel[2] <= 30);
            parcel[3] = RateGate.CANCELLED;
            return parcel[1];
        }

        int state(int parcel) {
            index(parcel, parcels.size());
            return parcels.get(parcel)[3];
        }

        int cost(int parcel) {
            index(parcel, parcels.size());
            return parcels.get(parcel)[1];
        }

        int bill(int shipper) {
            index(shipper, 6);
            return owed[shipper] + due(shipper).stream().mapToInt(parcel -> parcel[1]).sum();
        }

        int close(int shipper) {
            int amount = bill(shipper);
            for (int[] parcel : due(shipper)) {
                parcel[3] = RateGate.BILLED;
                parcelsBilled++;
            }
            owed[shipper] = 0;
            paid[shipper] += amount;
            return amount;
        }

        private List<int[]> due(int shipper) {
            List<int[]> due = new ArrayList<>();
            for (int[] parcel : parcels) {
                if (quotes.get(parcel[0])[0] == shipper && parcel[3] == RateGate.BOOKED && now - parcel[2] > 30) {
                    due.add(parcel);
                }
            }
            return due;
        }

        int billed(int shipper) {
            index(shipper, 6);
            return paid[shipper];
        }
    }
}

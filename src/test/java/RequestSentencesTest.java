/** A test for each sentence of the document about a new object, requests and their faults: promises 1 to 6. */
public final class RequestSentencesTest extends GateCalls {
    private static final String SIGNS = "ABCDEFGHIJKLMNOPQRSTUVWXYZ0123456789=;";

    public static void main(String[] args) {
        Sentences.runAll(RequestSentencesTest.class);
        Answers.end();
    }

    private static RateGate fullRequest() {
        return typed("S=0;C=0;F=0;T=0;W=1;X=" + "Y".repeat(38));
    }

    // ---- promise 1

    @Holds(promise = 1, sentence = "An empty request, at the minute 0.")
    static void newIsEmptyAtMinute0() {
        Answers.due("wipe() of a new object", new RateGate().wipe(), 0);
        Answers.due("the first sign typed", new RateGate().type('S'), 1);
        Answers.due("pass(1) of a new object", new RateGate().pass(1), 1);
    }

    // ---- promise 2

    @Holds(promise = 2, sentence = "Types a character at the end of the request.")
    static void typeTypesAtTheEnd() {
        RateGate gate = typed("S=0;C=0;F=0;T=0;W=100");
        gate.type('1');
        Answers.due("the price of 1001 grams", gate.price(gate.call()), 500 + 11 * 20);
    }

    @Holds(promise = 2, sentence = "- `character`: A to Z, 0 to 9, '=' or ';'")
    static void typeTakesTheFirstAndLastSigns() {
        RateGate gate = new RateGate();
        for (int i = 0; i < SIGNS.length(); i++) {
            Answers.due("type " + SIGNS.charAt(i), gate.type(SIGNS.charAt(i)), i + 1);
        }
    }

    @Holds(promise = 2, sentence = "Returns how many characters it has then.")
    static void typeCountsFrom1To60() {
        RateGate gate = new RateGate();
        for (int i = 1; i <= 60; i++) {
            Answers.due("the sign " + i, gate.type('9'), i);
        }
        gate.wipe();
        Answers.due("the first sign behind a full request", gate.type('9'), 1);
    }

    @Holds(promise = 2, sentence = "Throws `IllegalArgumentException` if it is none of these")
    static void typeThrowsBesideTheSigns() {
        for (char sign : "@[/:<>`{azsxw -_.,\n\t\0\u007f\u0080\u00e9\u0131\u0660\uff11\uff33\uffff".toCharArray()) {
            dueRefused("type of the sign " + (int) sign, ARGUMENT, GateCalls::busyGate, gate -> gate.type(sign));
        }
        for (int sign = 0; sign <= Character.MAX_VALUE; sign++) {
            char typed = (char) sign;
            if (SIGNS.indexOf(typed) < 0) {
                Answers.dueThrow("type of the sign " + sign, ARGUMENT, () -> new RateGate().type(typed));
            }
        }
    }

    @Holds(promise = 2, sentence = "Throws `IllegalStateException` if there are 60")
    static void typeThrowsAt60() {
        RateGate gate = typed("9".repeat(59));
        Answers.due("the 60th sign", gate.type('9'), 60);
        Answers.dueThrow("the 61st sign", STATE, () -> gate.type('9'));
        for (char sign : "AZ09=;".toCharArray()) {
            dueRefused("a 61st sign " + sign, STATE, RequestSentencesTest::fullRequest, full -> full.type(sign));
        }
    }

    // ---- promise 3

    @Holds(promise = 3, sentence = "Empties the request; returns how many characters it had.")
    static void wipeEmptiesTheEmptyAndTheFull() {
        RateGate gate = new RateGate();
        Answers.due("wipe of an empty request", gate.wipe(), 0);
        gate.type('S');
        Answers.due("wipe of one sign", gate.wipe(), 1);
        Answers.due("wipe behind it", gate.wipe(), 0);
        typeAll(gate, "S".repeat(60));
        Answers.due("wipe of a full request", gate.wipe(), 60);
        Answers.due("wipe behind that", gate.wipe(), 0);
        typeAll(gate, request(0, 0, 0, 0));
        Answers.due("no sign of before is left", gate.isRight(), true);
    }

    // ---- promise 4

    @Holds(promise = 4, sentence = "Tells whether the request is right.")
    static void isRightAtEachSign() {
        String text = request(0, 0, 0, 0) + ";X=Y";
        RateGate gate = new RateGate();
        Answers.due("isRight() if it is empty", gate.isRight(), false);
        for (int i = 1; i <= text.length(); i++) {
            gate.type(text.charAt(i - 1));
            Answers.due("isRight() with " + text.substring(0, i), gate.isRight(), i == 19 || i == 23);
        }
        Answers.due("isRight() if it is full", fullRequest().isRight(), false);
    }

    // ---- promise 5

    @Holds(promise = 5, sentence = "Returns how many characters the text of the fault has; 0 if the request is right.")
    static void faultLengthOfEachFault() {
        Answers.due("UNKNOWN 0, empty", new RateGate().faultLength(), 9);
        Answers.due("UNKNOWN 0, full", typed(";".repeat(60)).faultLength(), 9);
        Answers.due("DOUBLED S", typed("S=0;S=0").faultLength(), 9);
        Answers.due("BAD S", typed("S=6").faultLength(), 5);
        Answers.due("BAD X, full", fullRequest().faultLength(), 5);
        Answers.due("MISSING C", typed("S=0").faultLength(), 9);
        Answers.due("right", typed(request(0, 0, 0, 0)).faultLength(), 0);
        Answers.due("right, with X", typed(request(0, 0, 0, 0) + ";X=N").faultLength(), 0);
    }

    // ---- promise 6

    @Holds(promise = 6, sentence = "Returns a character of the text of the fault.")
    static void faultIsReadSignBySign() {
        Answers.due("of an empty request", faultOf(new RateGate()), "UNKNOWN 0");
        Answers.due("of a full request", faultOf(fullRequest()), "BAD X");
    }

    @Holds(promise = 6, sentence = "- `place`: 0 for the first one")
    static void faultPlacesStartAt0() {
        Answers.due("fault(0) of BAD S", typed("S=6").fault(0), 'B');
        Answers.due("fault(1) of BAD S", typed("S=6").fault(1), 'A');
        Answers.due("fault(0) of UNKNOWN 0", new RateGate().fault(0), 'U');
    }

    @Holds(promise = 6, sentence = "Returns the character.")
    static void faultReturnsTheLastCharacter() {
        Answers.due("fault(4) of BAD S", typed("S=6").fault(4), 'S');
        Answers.due("fault(8) of MISSING C", typed("S=0").fault(8), 'C');
        Answers.due("fault(8) of UNKNOWN 0", new RateGate().fault(8), '0');
    }

    @Holds(promise = 6, sentence = "Throws `IndexOutOfBoundsException` if it has no such place")
    static void faultThrowsBesideTheText() {
        for (int place : new int[] {-1, 5, 6, 60, Integer.MIN_VALUE, Integer.MAX_VALUE}) {
            dueRefused("fault(" + place + ") of BAD S", INDEX, () -> typed("S=6"), gate -> gate.fault(place));
        }
        for (int place : new int[] {-1, 0, 1, Integer.MIN_VALUE, Integer.MAX_VALUE}) {
            dueRefused("fault(" + place + ") if right", INDEX, GateCalls::busyGate, gate -> gate.fault(place));
        }
        dueRefused("fault(9) of UNKNOWN 0", INDEX, RateGate::new, gate -> gate.fault(9));
    }

    // ---- the section Requests

    @Holds(promise = {2, 3}, section = "Requests",
            sentence = "A request is a text, typed character by character: A to Z, 0 to 9, '=' and ';', at most 60.")
    static void requestHasAtMost60() {
        RateGate gate = fullRequest();
        Answers.dueThrow("the 61st sign", STATE, () -> gate.type('Y'));
        Answers.due("a full request", gate.wipe(), 60);
        typeAll(gate, SIGNS);
        Answers.due("a request of each sign", gate.wipe(), SIGNS.length());
    }

    @Holds(promise = {4, 5, 6}, section = "Requests",
            sentence = "Its parts are what lies between the ';', before the first and behind the last one, "
                    + "perhaps nothing.")
    static void partsMayBeNothing() {
        dueFault("", "UNKNOWN 0");
        dueFault(";", "UNKNOWN 0");
        dueFault(";S=0", "UNKNOWN 0");
        dueFault("S=0;", "UNKNOWN 1");
        dueFault("S=0;;C=0", "UNKNOWN 1");
        dueFault(request(0, 0, 0, 0) + ";", "UNKNOWN 5");
        dueFault(request(0, 0, 0, 0) + ";X=N;", "UNKNOWN 6");
        dueFault(";" + request(0, 0, 0, 0), "UNKNOWN 0");
        dueFault(";".repeat(60), "UNKNOWN 0");
    }

    @Holds(promise = {4, 5, 6}, section = "Requests",
            sentence = "A part is a field if it is a key, '=', and a value, which is all behind the first '='.")
    static void fieldIsCutAtTheFirstEqualsSign() {
        dueFault("S", "UNKNOWN 0");
        dueFault("S0", "UNKNOWN 0");
        dueFault("=", "UNKNOWN 0");
        dueFault("=0", "UNKNOWN 0");
        dueFault("S;=0", "UNKNOWN 0");
        dueFault("S=", "BAD S");
        dueFault("S==", "BAD S");
        dueFault("S==0", "BAD S");
        dueFault("S=0=", "BAD S");
        dueFault("S=0=0", "BAD S");
        dueFault("W=1=1", "BAD W");
        dueFault("X==Y", "BAD X");
    }

    private static void dueDigit(String key, int most) {
        for (int digit = 0; digit <= 9; digit++) {
            String text = request(1, 1, 1, 1).replace(key + "=1", key + "=" + digit);
            dueFault(text, digit <= most ? "" : "BAD " + key);
        }
        for (String value : new String[] {"", "00", "01", "10", "A", "Z", "S", "=", "=1", "1="}) {
            dueFault(request(1, 1, 1, 1).replace(key + "=1", key + "=" + value), "BAD " + key);
        }
    }

    @Holds(promise = {4, 5, 6, 11}, section = "Requests", sentence = "S, the shipper: one digit, 0 to 5.")
    static void shipperIs0To5() {
        dueDigit("S", 5);
    }

    @Holds(promise = {4, 5, 6, 11}, section = "Requests", sentence = "C, the carrier: one digit, 0 to 3.")
    static void carrierIs0To3() {
        dueDigit("C", 3);
    }

    @Holds(promise = {4, 5, 6, 11}, section = "Requests",
            sentence = "F and T, the zones from which and to which: one digit each, 0 to 7.")
    static void zonesAre0To7() {
        dueDigit("F", 7);
        dueDigit("T", 7);
    }

    private static void dueWeight(String value, boolean isRight) {
        dueFault("S=1;C=1;F=1;T=1;W=" + value, isRight ? "" : "BAD W");
    }

    @Holds(promise = {4, 5, 6}, section = "Requests", sentence = "W, the weight in grams: 1 to 5 digits")
    static void weightHas1To5Digits() {
        for (String value : new String[] {"1", "12", "123", "1234", "12345"}) {
            dueWeight(value, true);
        }
        for (String value : new String[] {"", "123456", "000001", "A", "1A", "A1", "1=", "=1", "0X1", "1Y"}) {
            dueWeight(value, false);
        }
        dueWeight("1".repeat(42), false);
        dueWeight("0".repeat(41) + "1", false);
    }

    @Holds(promise = {4, 5, 6, 11, 12}, section = "Requests", sentence = "zeros ahead as well")
    static void weightMayHaveZerosAhead() {
        for (String value : new String[] {"01", "00001", "00010", "00100", "09999"}) {
            dueWeight(value, true);
        }
        RateGate gate = new RateGate();
        Answers.due("00100 grams", gate.price(callWith(gate, "S=0;C=0;F=0;T=0;W=00100")), 520);
        Answers.due("00101 grams", gate.price(callWith(gate, "S=0;C=0;F=0;T=0;W=00101")), 540);
    }

    @Holds(promise = {4, 5, 6}, section = "Requests", sentence = "1 to 30000 together.")
    static void weightIs1To30000() {
        dueWeight("1", true);
        dueWeight("29999", true);
        dueWeight("30000", true);
        for (String value : new String[] {"0", "00", "00000", "30001", "30010", "31000", "40000", "99999"}) {
            dueWeight(value, false);
        }
    }

    @Holds(promise = {4, 5, 6, 11, 12}, section = "Requests", sentence = "X, whether it is express: Y or N.")
    static void expressIsYOrN() {
        for (char sign : SIGNS.toCharArray()) {
            if (sign != ';') {
                dueFault(request(0, 0, 0, 0) + ";X=" + sign, sign == 'Y' || sign == 'N' ? "" : "BAD X");
            }
        }
        for (String value : new String[] {"", "YY", "NN", "YN", "NO", "YES", "Y=", "=N"}) {
            dueFault(request(0, 0, 0, 0) + ";X=" + value, "BAD X");
        }
    }

    @Holds(promise = {4, 5, 6}, section = "Requests", sentence = "The text is right if each part is a field")
    static void rightOnlyIfEachPartIsAField() {
        dueRight(request(0, 0, 0, 0));
        dueFault(request(0, 0, 0, 0) + ";", "UNKNOWN 5");
        dueFault(request(0, 0, 0, 0) + ";X", "UNKNOWN 5");
        dueFault(request(0, 0, 0, 0) + ";XY", "UNKNOWN 5");
    }

    @Holds(promise = {4, 5, 6}, section = "Requests", sentence = "no key is there twice")
    static void rightOnlyIfNoKeyIsThereTwice() {
        for (String field : new String[] {"S=0", "C=0", "F=0", "T=0", "W=1"}) {
            dueFault(request(0, 0, 0, 0) + ";" + field, "DOUBLED " + field.charAt(0));
        }
        dueFault(request(0, 0, 0, 0) + ";X=Y;X=Y", "DOUBLED X");
    }

    @Holds(promise = {4, 5, 6}, section = "Requests", sentence = "all values are as they are to be")
    static void rightOnlyIfAllValuesAre() {
        dueRight("S=5;C=3;F=7;T=7;W=30000;X=N");
        dueFault("S=6;C=3;F=7;T=7;W=30000;X=N", "BAD S");
        dueFault("S=5;C=4;F=7;T=7;W=30000;X=N", "BAD C");
        dueFault("S=5;C=3;F=8;T=7;W=30000;X=N", "BAD F");
        dueFault("S=5;C=3;F=7;T=8;W=30000;X=N", "BAD T");
        dueFault("S=5;C=3;F=7;T=7;W=30001;X=N", "BAD W");
        dueFault("S=5;C=3;F=7;T=7;W=30000;X=M", "BAD X");
    }

    @Holds(promise = {4, 5, 6}, section = "Requests",
            sentence = "and S, C, F, T and W are there; X need not be.")
    static void rightWithoutXButNotWithoutTheOthers() {
        dueRight("S=0;C=0;F=0;T=0;W=1");
        dueRight("S=0;C=0;F=0;T=0;W=1;X=N");
        dueRight("X=Y;W=1;T=0;F=0;C=0;S=0");
        dueFault("C=0;F=0;T=0;W=1;X=Y", "MISSING S");
        dueFault("S=0;F=0;T=0;W=1;X=Y", "MISSING C");
        dueFault("S=0;C=0;T=0;W=1;X=Y", "MISSING F");
        dueFault("S=0;C=0;F=0;W=1;X=Y", "MISSING T");
        dueFault("S=0;C=0;F=0;T=0;X=Y", "MISSING W");
    }

    @Holds(promise = {5, 6}, section = "Requests",
            sentence = "Otherwise it has a fault, the first one found like this: part by part")
    static void faultIsTheFirstPartByPart() {
        dueFault("S=6;A=0", "BAD S");
        dueFault("S=6;S=0", "BAD S");
        dueFault("A=0;S=6", "UNKNOWN 0");
        dueFault("S=0;S=0;A=0", "DOUBLED S");
        dueFault("S=0;A=0;S=0", "UNKNOWN 1");
        dueFault("S=0;S=0;C=4", "DOUBLED S");
        dueFault("S=0;C=4;S=0", "BAD C");
        dueFault("T=8;S=6", "BAD T");
    }

    @Holds(promise = {5, 6}, section = "Requests", sentence = "UNKNOWN if it is no field with one of these keys")
    static void unknownIfNoKeyOfThese() {
        for (char sign : SIGNS.toCharArray()) {
            if (sign != ';') {
                boolean isKey = "SCFTWX".indexOf(sign) >= 0;
                dueFault(sign + "=A", isKey ? "BAD " + sign : "UNKNOWN 0");
            }
        }
        dueFault("SC=0", "UNKNOWN 0");
        dueFault("SS=0", "UNKNOWN 0");
        dueFault("0S=0", "UNKNOWN 0");
        dueFault("S0=0", "UNKNOWN 0");
    }

    @Holds(promise = {5, 6}, section = "Requests", sentence = "DOUBLED if its key was there before")
    static void doubledBeforeBad() {
        dueFault("S=0;S=1", "DOUBLED S");
        dueFault("S=0;S=6", "DOUBLED S");
        dueFault("S=0;S=", "DOUBLED S");
        dueFault("S=0;S", "UNKNOWN 1");
        dueFault("X=N;X=N", "DOUBLED X");
        dueFault("S=0;C=0;F=0;T=0;W=1;X=Y;S=0", "DOUBLED S");
    }

    @Holds(promise = {5, 6}, section = "Requests", sentence = "BAD if its value is not as it is to be")
    static void badIfTheValueIs() {
        dueFault("S=6", "BAD S");
        dueFault("C=4", "BAD C");
        dueFault("F=8", "BAD F");
        dueFault("T=8", "BAD T");
        dueFault("W=0", "BAD W");
        dueFault("X=0", "BAD X");
        dueFault("X=" + "Y".repeat(58), "BAD X");
    }

    @Holds(promise = {5, 6}, section = "Requests",
            sentence = "behind all parts MISSING, for the first of S, C, F, T, W that is not there.")
    static void missingBehindAllPartsInThisOrder() {
        dueFault("X=Y", "MISSING S");
        dueFault("W=1;T=0;F=0;C=0", "MISSING S");
        dueFault("S=0", "MISSING C");
        dueFault("W=1;S=0", "MISSING C");
        dueFault("S=0;C=0", "MISSING F");
        dueFault("S=0;C=0;F=0", "MISSING T");
        dueFault("S=0;C=0;F=0;T=0", "MISSING W");
        dueFault("C=0;F=0;T=0;W=0", "BAD W");
        dueFault("C=0;F=0;T=0;C=0", "DOUBLED C");
        dueFault("C=0;F=0;T=0;", "UNKNOWN 3");
    }

    @Holds(promise = {5, 6}, section = "Requests",
            sentence = "The fault is told as a text: the word, a space, and the key, "
                    + "for UNKNOWN the number of the part, from 0.")
    static void faultIsWordSpaceAndKeyOrNumber() {
        String text = request(0, 0, 0, 0) + ";X=N";
        for (int part = 0; part <= 6; part++) {
            String ahead = part == 0 ? "" : text.substring(0, part == 6 ? text.length() : 4 * part - 1) + ";";
            dueFault(ahead + "A=0", "UNKNOWN " + part);
        }
        for (String field : new String[] {"S=0", "C=0", "F=0", "T=0", "W=1", "X=Y"}) {
            dueFault(field + ";" + field, "DOUBLED " + field.charAt(0));
            dueFault(field + "A", "BAD " + field.charAt(0));
        }
        dueFault("C=0", "MISSING S");
    }
}

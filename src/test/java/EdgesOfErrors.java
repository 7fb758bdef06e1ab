import java.util.function.Supplier;
import java.util.function.ToIntFunction;

/**
 * "Errors": "If several error codes apply, the one that is named first in the description of the method
 * is returned", and "A method that returns an error code changes nothing." For each method that has
 * more than one error code, calls to which several of them apply; for each one that has only one, calls
 * with several wrong arguments.
 */
public final class EdgesOfErrors {
    private static final int INVALID = Colonies.INVALID;
    private static final int ILLEGAL = Colonies.ILLEGAL;
    private static final int FULL = Colonies.FULL;
    private static final int NONE = Colonies.NONE;
    private static final int LOW = Integer.MIN_VALUE;
    private static final int HIGH = Integer.MAX_VALUE;

    public static void main(String[] args) {
        theConstants();
        addRoomInvalidBeforeCapacity();
        addRoomWithSeveralWrongArguments();
        setLinkInvalidBeforeIllegal();
        setLinkWithSeveralWrongArguments();
        setThermostatWithSeveralWrongArguments();
        setNumberWithSeveralWrongArguments();
        warmInvalidBeforeIllegal();
        resetCutoutInvalidBeforeIllegal();
        appendCharacterInvalidBeforeCapacity();
        passInvalidBeforeIllegal();
        passInvalidBeforeCapacity();
        questionsWithSeveralWrongArguments();
        forecastsWithSeveralWrongArguments();
        noneOnlyWhenNothingIsWrong();
        afterAnErrorAllGoesOn();
        Check.end("EdgesOfErrors");
    }

    private static void invalidEverywhere(String name, ToIntFunction<ThermostatColony> call) {
        Edges.refused(name + " in an empty colony", INVALID, Colonies::empty, call);
        Edges.refused(name + " in a busy colony", INVALID, Colonies::busy, call);
        Edges.refused(name + " in a full colony", INVALID, Colonies::full, call);
    }

    private static void theConstants() {
        Check.due("INVALID_ARGUMENT", ThermostatColony.INVALID_ARGUMENT, -1000001);
        Check.due("ILLEGAL_STATE", ThermostatColony.ILLEGAL_STATE, -1000002);
        Check.due("CAPACITY_EXCEEDED", ThermostatColony.CAPACITY_EXCEEDED, -1000003);
        Check.due("NONE", ThermostatColony.NONE, -1000009);
    }

    /** "INVALID_ARGUMENT if an argument is out of range; CAPACITY_EXCEEDED if there are 6 rooms" */
    private static void addRoomInvalidBeforeCapacity() {
        int[][] wrong = {{9, 1, 0, 0}, {501, 1, 0, 0}, {100, 0, 0, 0}, {100, 201, 0, 0}, {100, 1, -1, 0}, {500, 1, 51, 0},
                {99, 1, 50, 0}, {10, 1, 6, 0}, {100, 1, 0, -41}, {100, 1, 0, 41}};
        for (int[] call : wrong) {
            String name = "2: addRoom(" + call[0] + ", " + call[1] + ", " + call[2] + ", " + call[3] + ")";
            Edges.refused(name + " with six rooms", INVALID, Colonies::full,
                    x -> x.addRoom(call[0], call[1], call[2], call[3]));
        }
        Edges.refused("2: a good room with six rooms", FULL, Colonies::full, x -> x.addRoom(100, 1, 0, 0));
    }

    private static void addRoomWithSeveralWrongArguments() {
        invalidEverywhere("2: addRoom() with the lowest", x -> x.addRoom(LOW, LOW, LOW, LOW));
        invalidEverywhere("2: addRoom() with the highest", x -> x.addRoom(HIGH, HIGH, HIGH, HIGH));
        invalidEverywhere("2: addRoom() with two wrong", x -> x.addRoom(9, 201, 0, 0));
        invalidEverywhere("2: addRoom(-10, 1, -5, 0)", x -> x.addRoom(-10, 1, -5, 0));
        invalidEverywhere("2: addRoom(0, 1, 0, 0)", x -> x.addRoom(0, 1, 0, 0));
    }

    private static ThermostatColony tight() {
        ThermostatColony x = new ThermostatColony();
        x.addRoom(10, 1, 5, 0);
        x.addRoom(10, 1, 5, 0);
        return x;
    }

    /** "INVALID_ARGUMENT if .. link is out of range; ILLEGAL_STATE if .. would be more than half" */
    private static void setLinkInvalidBeforeIllegal() {
        Edges.refused("3: a link that is too much", ILLEGAL, EdgesOfErrors::tight, x -> x.setLink(0, 1, 1));
        Edges.refused("3: the most that is too much", ILLEGAL, EdgesOfErrors::tight, x -> x.setLink(0, 1, 50));
        Edges.refused("3: out of range and too much", INVALID, EdgesOfErrors::tight, x -> x.setLink(0, 1, 51));
        Edges.refused("3: far out of range and too much", INVALID, EdgesOfErrors::tight, x -> x.setLink(1, 0, HIGH));
        Edges.refused("3: out of range below", INVALID, EdgesOfErrors::tight, x -> x.setLink(1, 0, -1));
        Edges.refused("3: the same room and too much", INVALID, EdgesOfErrors::tight, x -> x.setLink(1, 1, 50));
        Edges.refused("3: no room and too much", INVALID, EdgesOfErrors::tight, x -> x.setLink(0, 2, 50));
        Edges.refused("3: no room first and too much", INVALID, EdgesOfErrors::tight, x -> x.setLink(-1, 1, 50));
    }

    private static void setLinkWithSeveralWrongArguments() {
        invalidEverywhere("3: setLink() with the lowest", x -> x.setLink(LOW, LOW, LOW));
        invalidEverywhere("3: setLink() with the highest", x -> x.setLink(HIGH, HIGH, HIGH));
        invalidEverywhere("3: setLink(0, 0, 51)", x -> x.setLink(0, 0, 51));
        invalidEverywhere("3: setLink(6, -1, 10)", x -> x.setLink(6, -1, 10));
        invalidEverywhere("3: setLink(LOW, HIGH, 0)", x -> x.setLink(LOW, HIGH, 0));
    }

    private static void setThermostatWithSeveralWrongArguments() {
        invalidEverywhere("4: setThermostat() with the lowest", x -> x.setThermostat(LOW, LOW, LOW));
        invalidEverywhere("4: setThermostat() with the highest", x -> x.setThermostat(HIGH, HIGH, HIGH));
        invalidEverywhere("4: setThermostat(0, 4999, 100)", x -> x.setThermostat(0, 4999, 100));
        invalidEverywhere("4: setThermostat(0, 35001, 100)", x -> x.setThermostat(0, 35001, 100));
        invalidEverywhere("4: setThermostat(0, 5000, 99)", x -> x.setThermostat(0, 5000, 99));
        invalidEverywhere("4: setThermostat(0, 5000, 5001)", x -> x.setThermostat(0, 5000, 5001));
        invalidEverywhere("4: setThermostat(6, 4999, 5001)", x -> x.setThermostat(6, 4999, 5001));
    }

    private static void setNumberWithSeveralWrongArguments() {
        invalidEverywhere("5: setNumber() with the lowest", x -> x.setNumber(LOW, LOW));
        invalidEverywhere("5: setNumber() with the highest", x -> x.setNumber(HIGH, HIGH));
        invalidEverywhere("5: setNumber(-1, 25)", x -> x.setNumber(-1, 25));
        invalidEverywhere("5: setNumber(7, 15)", x -> x.setNumber(7, 15));
        invalidEverywhere("5: setNumber(13, 6)", x -> x.setNumber(13, 6));
    }

    private static ThermostatColony hottest() {
        ThermostatColony x = new ThermostatColony();
        x.addRoom(10, 1, 5, 0);
        x.warm(0, 2000);
        return x;
    }

    /** "INVALID_ARGUMENT if .. heat is out of range; ILLEGAL_STATE if its temperature would be below .. or above" */
    private static void warmInvalidBeforeIllegal() {
        Edges.refused("6: too hot", ILLEGAL, EdgesOfErrors::hottest, x -> x.warm(0, 50000));
        Edges.refused("6: too cold", ILLEGAL, EdgesOfErrors::hottest, x -> x.warm(0, -50000));
        Edges.refused("6: out of range and too hot", INVALID, EdgesOfErrors::hottest, x -> x.warm(0, 50001));
        Edges.refused("6: out of range and too cold", INVALID, EdgesOfErrors::hottest, x -> x.warm(0, -50001));
        Edges.refused("6: far out of range", INVALID, EdgesOfErrors::hottest, x -> x.warm(0, HIGH));
        Edges.refused("6: far out of range below", INVALID, EdgesOfErrors::hottest, x -> x.warm(0, LOW));
        Edges.refused("6: no room", INVALID, EdgesOfErrors::hottest, x -> x.warm(1, 50000));
        invalidEverywhere("6: warm() with the lowest", x -> x.warm(LOW, LOW));
        invalidEverywhere("6: warm() with the highest", x -> x.warm(HIGH, HIGH));
    }

    /** "INVALID_ARGUMENT if there is no such room; ILLEGAL_STATE if its cutout is in, or its temperature is above" */
    private static void resetCutoutInvalidBeforeIllegal() {
        Edges.refused("8: a cutout that is in", ILLEGAL, EdgesOfErrors::hottest, x -> x.resetCutout(0));
        Edges.refused("8: no room beside it", INVALID, EdgesOfErrors::hottest, x -> x.resetCutout(1));
        invalidEverywhere("8: resetCutout(-1)", x -> x.resetCutout(-1));
        invalidEverywhere("8: resetCutout(6)", x -> x.resetCutout(6));
        invalidEverywhere("7: service(-1)", x -> x.service(-1));
        invalidEverywhere("7: service(6)", x -> x.service(6));
    }

    /** "INVALID_ARGUMENT if character is out of range; CAPACITY_EXCEEDED if the text has 100 characters" */
    private static void appendCharacterInvalidBeforeCapacity() {
        Edges.refused("13: a good character behind 100", FULL, Colonies::full, x -> x.appendCharacter(32));
        invalidEverywhere("13: appendCharacter(-1)", x -> x.appendCharacter(-1));
        invalidEverywhere("13: appendCharacter(256)", x -> x.appendCharacter(256));
        invalidEverywhere("13: appendCharacter() with the lowest", x -> x.appendCharacter(LOW));
        invalidEverywhere("13: appendCharacter() with the highest", x -> x.appendCharacter(HIGH));
    }

    /** "INVALID_ARGUMENT if minutes is out of range; ILLEGAL_STATE if there are no rooms" */
    private static void passInvalidBeforeIllegal() {
        for (int minutes : new int[] {0, -1, 501, 20001, LOW, HIGH}) {
            Edges.refused("17: pass(" + minutes + ") without rooms", INVALID, Colonies::empty, x -> x.pass(minutes));
        }
        Edges.refused("17: pass(1) without rooms", ILLEGAL, Colonies::empty, x -> x.pass(1));
        Edges.refused("17: pass(500) without rooms", ILLEGAL, Colonies::empty, x -> x.pass(500));
    }

    /** "INVALID_ARGUMENT if minutes is out of range; .. CAPACITY_EXCEEDED if the time would be greater than 20000" */
    private static void passInvalidBeforeCapacity() {
        for (int minutes : new int[] {0, -1, 501, LOW, HIGH}) {
            Edges.refused("17: pass(" + minutes + ") at 20000", INVALID, Colonies::late, x -> x.pass(minutes));
        }
        Edges.refused("17: pass(1) at 20000", FULL, Colonies::late, x -> x.pass(1));
        Edges.refused("17: pass(500) at 20000", FULL, Colonies::late, x -> x.pass(500));
    }

    private static void questionsWithSeveralWrongArguments() {
        invalidEverywhere("9: room() with the lowest", x -> x.room(LOW, LOW));
        invalidEverywhere("9: room() with the highest", x -> x.room(HIGH, HIGH));
        invalidEverywhere("9: room(6, 14)", x -> x.room(6, 14));
        invalidEverywhere("9: room(-1, 0)", x -> x.room(-1, 0));
        invalidEverywhere("9: room(0, -1)", x -> x.room(0, -1));
        invalidEverywhere("10: book() with the lowest", x -> x.book(LOW, LOW));
        invalidEverywhere("10: book() with the highest", x -> x.book(HIGH, HIGH));
        invalidEverywhere("10: book(0, 5)", x -> x.book(0, 5));
        invalidEverywhere("10: book(6, 0)", x -> x.book(6, 0));
        invalidEverywhere("11: link() with the lowest", x -> x.link(LOW, LOW));
        invalidEverywhere("11: link() with the highest", x -> x.link(HIGH, LOW));
        invalidEverywhere("11: link(0, 0)", x -> x.link(0, 0));
        invalidEverywhere("12: count(-1)", x -> x.count(-1));
        invalidEverywhere("12: count(14)", x -> x.count(14));
        invalidEverywhere("16: outside(-1)", x -> x.outside(-1));
        invalidEverywhere("16: outside(20001)", x -> x.outside(20001));
    }

    private static void forecastsWithSeveralWrongArguments() {
        invalidEverywhere("18: minutesToSuspect(6)", x -> x.minutesToSuspect(6));
        invalidEverywhere("19: heatIn(0)", x -> x.heatIn(0));
        invalidEverywhere("19: heatIn(1001)", x -> x.heatIn(1001));
        invalidEverywhere("20: finesWith() with the lowest", x -> x.finesWith(LOW, LOW, LOW));
        invalidEverywhere("20: finesWith() with the highest", x -> x.finesWith(HIGH, HIGH, HIGH));
        invalidEverywhere("20: finesWith(0, 99, 1)", x -> x.finesWith(0, 99, 1));
        invalidEverywhere("20: finesWith(0, 5001, 1)", x -> x.finesWith(0, 5001, 1));
        invalidEverywhere("20: finesWith(0, 100, 0)", x -> x.finesWith(0, 100, 0));
        invalidEverywhere("20: finesWith(0, 100, 1001)", x -> x.finesWith(0, 100, 1001));
        invalidEverywhere("21: quietBand() with the lowest", x -> x.quietBand(LOW, LOW));
        invalidEverywhere("21: quietBand() with the highest", x -> x.quietBand(HIGH, HIGH));
        invalidEverywhere("21: quietBand(0, 0)", x -> x.quietBand(0, 0));
        invalidEverywhere("21: quietBand(0, 301)", x -> x.quietBand(0, 301));
    }

    /** It closes in the next minute with each band, and is fined. */
    private static ThermostatColony never() {
        ThermostatColony x = Colonies.quickBlade(100, 10, 0, 10);
        x.pass(1);
        x.service(0);
        return x;
    }

    /** "NONE is no error, and it is returned only if no error code applies." */
    private static void noneOnlyWhenNothingIsWrong() {
        Supplier<ThermostatColony> made = EdgesOfErrors::never;
        Edges.refused("21: no band", NONE, made, x -> x.quietBand(0, 300));
        Edges.refused("21: no band, but too many minutes", INVALID, made, x -> x.quietBand(0, 301));
        Edges.refused("21: no band, but no minutes", INVALID, made, x -> x.quietBand(0, 0));
        Edges.refused("21: no band, but no room", INVALID, made, x -> x.quietBand(1, 300));
        Edges.refused("18: never", NONE, made, x -> x.minutesToSuspect(0));
        Edges.refused("18: never, but no room", INVALID, made, x -> x.minutesToSuspect(1));
        Edges.refused("9: no closing, but no room", INVALID, Colonies::empty, x -> x.room(0, 11));
        Edges.refused("9: no closing", NONE, EdgesOfErrors::tight, x -> x.room(0, 11));
    }

    /** "A method that returns an error code changes nothing.": what is good goes on after many errors. */
    private static void afterAnErrorAllGoesOn() {
        ThermostatColony x = new ThermostatColony();
        for (int i = 0; i < 10; i++) {
            x.addRoom(9, 1, 0, 0);
            x.pass(1);
            x.undo();
            x.appendCharacter(256);
            x.service(0);
        }
        Check.due("2: the first room after errors", x.addRoom(10, 1, 0, 0), 0);
        for (int i = 0; i < 10; i++) {
            x.setLink(0, 0, 1);
            x.warm(0, 2001);
            x.resetCutout(0);
            x.setThermostat(0, 4999, 100);
            x.setNumber(0, 101);
            x.pass(501);
        }
        Check.due("22: the one state", x.undo(), 0);
        Check.due("22: no more", x.undo(), ILLEGAL);
    }
}

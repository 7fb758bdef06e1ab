/** Promises 1 to 12: a new object, the rooms and what is asked of them. */
public final class RoomPromises {
    private static final int INVALID = Colonies.INVALID;
    private static final int ILLEGAL = Colonies.ILLEGAL;
    private static final int FULL = Colonies.FULL;
    private static final int NONE = Colonies.NONE;
    private static final int[] EXTREMES = {Integer.MIN_VALUE, Integer.MAX_VALUE};

    public static void main(String[] args) {
        promise1NewObject();
        promise2AddRoomRanges();
        promise2AddRoomState();
        promise2AddRoomCapacity();
        promise3SetLink();
        promise3SetLinkHalfOfCapacity();
        promise4SetThermostat();
        promise4ContactWaitsForTheMinute();
        promise5SetNumber();
        promise6Warm();
        promise6WarmLimits();
        promise7Service();
        promise7ServiceKeepsSuspectMinutes();
        promise8ResetCutout();
        promise9Room();
        promise9RoomRoundsDown();
        promise10Book();
        promise11Link();
        promise12Count();
        Check.end("RoomPromises");
    }

    private static void promise1NewObject() {
        ThermostatColony x = new ThermostatColony();
        int[] first = {25, 1000, 5, 10, 7, 45000, 15, 0, 0, 0, 0, 0, 0, 0};
        for (int what = 0; what < first.length; what++) {
            Check.due("1: count(" + what + ")", x.count(what), first[what]);
        }
        Check.due("1: room(0, 0)", x.room(0, 0), INVALID);
        Check.due("1: outside(0)", x.outside(0), 0);
        Check.due("1: outside(20000)", x.outside(20000), 0);
        Check.due("1: undo()", x.undo(), ILLEGAL);
        Check.due("1: clearText()", x.clearText(), 0);
        Check.due("1: INVALID_ARGUMENT", ThermostatColony.INVALID_ARGUMENT, -1000001);
        Check.due("1: ILLEGAL_STATE", ThermostatColony.ILLEGAL_STATE, -1000002);
        Check.due("1: CAPACITY_EXCEEDED", ThermostatColony.CAPACITY_EXCEEDED, -1000003);
        Check.due("1: NONE", ThermostatColony.NONE, -1000009);
        ThermostatColony other = new ThermostatColony();
        other.addRoom(100, 1, 0, 0);
        Check.due("1: count(7) of another object", x.count(7), 0);
    }

    private static void addRoomIs(int capacity, int power, int leak, int degrees, int want) {
        ThermostatColony x = new ThermostatColony();
        String call = "2: addRoom(" + capacity + ", " + power + ", " + leak + ", " + degrees + ")";
        Check.due(call, x.addRoom(capacity, power, leak, degrees), want);
        Check.due(call + ", count(7)", x.count(7), want == 0 ? 1 : 0);
        Check.due(call + ", count(13)", x.count(13), want == 0 ? 1 : 0);
    }

    private static void promise2AddRoomRanges() {
        addRoomIs(10, 1, 0, -40, 0);
        addRoomIs(500, 200, 50, 40, 0);
        addRoomIs(9, 1, 0, 0, INVALID);
        addRoomIs(501, 1, 0, 0, INVALID);
        addRoomIs(100, 0, 0, 0, INVALID);
        addRoomIs(100, 201, 0, 0, INVALID);
        addRoomIs(100, 1, -1, 0, INVALID);
        addRoomIs(500, 1, 51, 0, INVALID);
        addRoomIs(100, 1, 50, 0, 0);
        addRoomIs(99, 1, 50, 0, INVALID);
        addRoomIs(99, 1, 49, 0, 0);
        addRoomIs(10, 1, 5, 0, 0);
        addRoomIs(10, 1, 6, 0, INVALID);
        addRoomIs(11, 1, 5, 0, 0);
        addRoomIs(11, 1, 6, 0, INVALID);
        addRoomIs(100, 1, 0, -41, INVALID);
        addRoomIs(100, 1, 0, 41, INVALID);
        for (int wild : EXTREMES) {
            addRoomIs(wild, 1, 0, 0, INVALID);
            addRoomIs(100, wild, 0, 0, INVALID);
            addRoomIs(100, 1, wild, 0, INVALID);
            addRoomIs(100, 1, 0, wild, INVALID);
        }
    }

    private static void promise2AddRoomState() {
        ThermostatColony x = new ThermostatColony();
        x.addRoom(120, 7, 3, -13);
        int[] first = {-13000, -1560, -13000, 0, 0, 0, 0, 0, 0, 0, 0, NONE, 20000, 1000};
        for (int what = 0; what < first.length; what++) {
            Check.due("2: room(0, " + what + ")", x.room(0, what), first[what]);
        }
        int[] books = {-1560, 0, 0, 0, 0};
        for (int what = 0; what < books.length; what++) {
            Check.due("2: book(0, " + what + ")", x.book(0, what), books[what]);
        }
        // A room of which undo() has taken back all is not seen in the next one at its place.
        x.addRoom(100, 200, 0, 19);
        x.setLink(0, 1, 20);
        x.setThermostat(1, 30000, 100);
        x.setNumber(1, 1);
        x.setNumber(5, 20000);
        x.pass(5);
        for (int i = 0; i < 6; i++) {
            x.undo();
        }
        Check.due("2: count(7) after undo()", x.count(7), 1);
        x.addRoom(50, 9, 1, 4);
        int[] again = {4000, 200, 4000, 0, 0, 0, 0, 0, 0, 0, 0, NONE, 20000, 1000};
        for (int what = 0; what < again.length; what++) {
            Check.due("2: room(1, " + what + ") after undo()", x.room(1, what), again[what]);
        }
        int[] booksAgain = {200, 0, 0, 0, 0};
        for (int what = 0; what < booksAgain.length; what++) {
            Check.due("2: book(1, " + what + ") after undo()", x.book(1, what), booksAgain[what]);
        }
        Check.due("2: link(0, 1) after undo()", x.link(0, 1), 0);
    }

    private static void promise2AddRoomCapacity() {
        ThermostatColony x = new ThermostatColony();
        for (int room = 0; room < 6; room++) {
            Check.due("2: addRoom number " + room, x.addRoom(100, 1, 0, room), room);
        }
        Check.due("2: a seventh room", x.addRoom(100, 1, 0, 0), FULL);
        Check.due("2: a seventh room, out of range", x.addRoom(9, 1, 0, 0), INVALID);
        Check.due("2: count(7)", x.count(7), 6);
        Check.due("2: room(5, 0)", x.room(5, 0), 5000);
        Check.due("2: room(6, 0)", x.room(6, 0), INVALID);
    }

    private static void promise3SetLink() {
        ThermostatColony x = new ThermostatColony();
        x.addRoom(500, 1, 0, 0);
        x.addRoom(500, 1, 0, 0);
        x.addRoom(500, 1, 0, 0);
        Check.due("3: setLink(0, 1, 50)", x.setLink(0, 1, 50), 0);
        Check.due("3: setLink(1, 0, 20)", x.setLink(1, 0, 20), 50);
        Check.due("3: setLink(0, 1, 0)", x.setLink(0, 1, 0), 20);
        Check.due("3: setLink(2, 1, 7)", x.setLink(2, 1, 7), 0);
        Check.due("3: link(0, 2)", x.link(0, 2), 0);
        Check.due("3: link(1, 2)", x.link(1, 2), 7);
        int saved = x.count(13);
        int[][] wrong = {{0, 1, -1}, {0, 1, 51}, {0, 0, 1}, {2, 2, 0}, {0, 3, 1}, {3, 0, 1}, {-1, 0, 1}, {0, -1, 1},
                {0, 1, Integer.MIN_VALUE}, {0, 1, Integer.MAX_VALUE}, {Integer.MAX_VALUE, 1, 1}, {0, Integer.MIN_VALUE, 1}};
        for (int[] call : wrong) {
            Check.due("3: setLink(" + call[0] + ", " + call[1] + ", " + call[2] + ")",
                    x.setLink(call[0], call[1], call[2]), INVALID);
        }
        Check.due("3: count(13) after errors", x.count(13), saved);
        Check.due("3: link(0, 1) after errors", x.link(0, 1), 0);
    }

    private static void promise3SetLinkHalfOfCapacity() {
        ThermostatColony x = new ThermostatColony();
        x.addRoom(41, 1, 5, 0);
        x.addRoom(500, 1, 0, 0);
        x.addRoom(500, 1, 50, 0);
        Check.due("3: half of 41 less the leak is 15", x.setLink(0, 1, 16), ILLEGAL);
        Check.due("3: the same from the other side", x.setLink(1, 0, 16), ILLEGAL);
        Check.due("3: link after ILLEGAL_STATE", x.link(0, 1), 0);
        Check.due("3: setLink(0, 1, 15)", x.setLink(0, 1, 15), 0);
        Check.due("3: setLink(0, 2, 1)", x.setLink(0, 2, 1), ILLEGAL);
        Check.due("3: the same link again", x.setLink(0, 1, 15), 15);
        Check.due("3: less of it", x.setLink(0, 1, 10), 15);
        Check.due("3: setLink(2, 0, 6)", x.setLink(2, 0, 6), ILLEGAL);
        Check.due("3: setLink(2, 0, 5)", x.setLink(2, 0, 5), 0);
        Check.due("3: a wrong link is named first", x.setLink(0, 1, 51), INVALID);
        // The links with the first and with the last room count, on either side.
        ThermostatColony y = new ThermostatColony();
        for (int room = 0; room < 6; room++) {
            y.addRoom(room == 2 ? 20 : 500, 1, 0, 0);
        }
        Check.due("3: setLink(0, 2, 4)", y.setLink(0, 2, 4), 0);
        Check.due("3: setLink(2, 5, 5)", y.setLink(2, 5, 5), 0);
        Check.due("3: setLink(3, 2, 2)", y.setLink(3, 2, 2), ILLEGAL);
        Check.due("3: setLink(3, 2, 1)", y.setLink(3, 2, 1), 0);
        Check.due("3: setLink(3, 0, 50)", y.setLink(3, 0, 50), 0);
        Check.due("3: setLink(5, 0, 50)", y.setLink(5, 0, 50), 0);
    }

    private static void promise4SetThermostat() {
        ThermostatColony x = new ThermostatColony();
        x.addRoom(100, 1, 0, 0);
        Check.due("4: nothing changed", x.setThermostat(0, 20000, 1000), 0);
        Check.due("4: also that is saved", x.count(13), 2);
        Check.due("4: the point changed", x.setThermostat(0, 5000, 1000), 1);
        Check.due("4: the band changed", x.setThermostat(0, 5000, 5000), 1);
        Check.due("4: both changed", x.setThermostat(0, 35000, 100), 1);
        Check.due("4: nothing changed again", x.setThermostat(0, 35000, 100), 0);
        Check.due("4: room(0, 12)", x.room(0, 12), 35000);
        Check.due("4: room(0, 13)", x.room(0, 13), 100);
        Check.due("4: count(13)", x.count(13), 6);
        x.undo();
        int[][] wrong = {{0, 4999, 100}, {0, 35001, 100}, {0, 5000, 99}, {0, 5000, 5001}, {1, 5000, 100}, {-1, 5000, 100},
                {0, Integer.MIN_VALUE, 100}, {0, 5000, Integer.MAX_VALUE}, {Integer.MAX_VALUE, 5000, 100}};
        for (int[] call : wrong) {
            Check.due("4: setThermostat(" + call[0] + ", " + call[1] + ", " + call[2] + ")",
                    x.setThermostat(call[0], call[1], call[2]), INVALID);
        }
        Check.due("4: room(0, 12) after errors", x.room(0, 12), 35000);
        Check.due("4: room(0, 13) after errors", x.room(0, 13), 100);
        Check.due("4: count(13) after errors", x.count(13), 5);
    }

    private static void promise4ContactWaitsForTheMinute() {
        ThermostatColony x = Colonies.quickBlade(100, 1, 0, 18);
        x.pass(1);
        Check.due("4: closed", x.room(0, 3), 1);
        x.setThermostat(0, 5000, 100);
        Check.due("4: still closed", x.room(0, 3), 1);
        Check.due("4: opens in the minute", x.pass(1), 1);
        Check.due("4: open", x.room(0, 3), 0);
        x.setThermostat(0, 35000, 100);
        Check.due("4: still open", x.room(0, 3), 0);
    }

    private static void promise5SetNumber() {
        int[] first = {25, 1000, 5, 10, 7, 45000, 15};
        int[] least = {1, 1, 1, 0, 0, 20000, 1};
        int[] most = {100, 9999, 50, 120, 100, 90000, 120};
        for (int what = 0; what < 7; what++) {
            ThermostatColony x = new ThermostatColony();
            String call = "5: setNumber(" + what + ", ";
            Check.due(call + "least)", x.setNumber(what, least[what]), first[what]);
            Check.due(call + "most)", x.setNumber(what, most[what]), least[what]);
            Check.due(call + "most) again", x.setNumber(what, most[what]), most[what]);
            Check.due(call + "least - 1)", x.setNumber(what, least[what] - 1), INVALID);
            Check.due(call + "most + 1)", x.setNumber(what, most[what] + 1), INVALID);
            for (int wild : EXTREMES) {
                Check.due(call + wild + ")", x.setNumber(what, wild), INVALID);
            }
            for (int other = 0; other < 7; other++) {
                Check.due(call + "..), count(" + other + ")", x.count(other), other == what ? most[what] : first[other]);
            }
            Check.due(call + "..), count(13)", x.count(13), 3);
        }
        ThermostatColony x = new ThermostatColony();
        for (int what : new int[] {-1, 7, Integer.MIN_VALUE, Integer.MAX_VALUE}) {
            Check.due("5: setNumber(" + what + ", 50)", x.setNumber(what, 50), INVALID);
        }
    }

    private static void promise6Warm() {
        ThermostatColony x = new ThermostatColony();
        x.addRoom(30, 1, 0, 0);
        Check.due("6: warm(0, 100)", x.warm(0, 100), 3333);
        Check.due("6: warm(0, -200)", x.warm(0, -200), -3334);
        Check.due("6: warm(0, 0)", x.warm(0, 0), -3334);
        Check.due("6: heat", x.room(0, 1), -100);
        Check.due("6: book", x.book(0, 4), -100);
        Check.due("6: first heat", x.book(0, 0), 0);
        Check.due("6: the blade stays", x.room(0, 2), 0);
        Check.due("6: count(13)", x.count(13), 4);
        int[][] wrong = {{1, 0}, {-1, 0}, {0, 50001}, {0, -50001}, {0, Integer.MAX_VALUE}, {0, Integer.MIN_VALUE},
                {Integer.MIN_VALUE, 0}};
        for (int[] call : wrong) {
            Check.due("6: warm(" + call[0] + ", " + call[1] + ")", x.warm(call[0], call[1]), INVALID);
        }
        Check.due("6: count(13) after errors", x.count(13), 4);
    }

    private static void promise6WarmLimits() {
        ThermostatColony x = new ThermostatColony();
        x.addRoom(500, 1, 0, 0);
        x.addRoom(30, 1, 0, 0);
        Check.due("6: warm(0, 50000)", x.warm(0, 50000), 100000);
        Check.due("6: warm(0, 50000) again", x.warm(0, 50000), 200000);
        Check.due("6: above 200000", x.warm(0, 1), ILLEGAL);
        Check.due("6: out of range is named first", x.warm(0, 50001), INVALID);
        Check.due("6: heat after errors", x.room(0, 1), 100000);
        Check.due("6: book after errors", x.book(0, 4), 100000);
        Check.due("6: count(13) after errors", x.count(13), 4);
        for (int i = 0; i < 3; i++) {
            x.warm(0, -50000);
        }
        Check.due("6: warm(0, -50000)", x.warm(0, -50000), -200000);
        Check.due("6: below -200000", x.warm(0, -1), ILLEGAL);
        Check.due("6: temperature after errors", x.room(0, 0), -200000);
        Check.due("6: warm(1, 6000)", x.warm(1, 6000), 200000);
        Check.due("6: warm(1, 1)", x.warm(1, 1), ILLEGAL);
        Check.due("6: warm(1, -12000)", x.warm(1, -12000), -200000);
        Check.due("6: warm(1, -1)", x.warm(1, -1), ILLEGAL);
        // Heat alone does nothing to contact and cutout.
        Check.due("6: room(1, 3)", x.room(1, 3), 0);
        Check.due("6: room(0, 10)", x.room(0, 10), 0);
    }

    private static void promise7Service() {
        ThermostatColony x = Colonies.quickBlade(100, 200, 0, 19);
        x.setNumber(1, 200);
        x.pass(3);
        Check.due("7: welded", x.room(0, 4), 1);
        Check.due("7: attempts", x.room(0, 6), 2);
        Check.due("7: closed", x.room(0, 3), 1);
        int saved = x.count(13);
        Check.due("7: service(0)", x.service(0), 200);
        Check.due("7: not welded", x.room(0, 4), 0);
        Check.due("7: wear", x.room(0, 5), 0);
        Check.due("7: attempts then", x.room(0, 6), 0);
        Check.due("7: open", x.room(0, 3), 0);
        Check.due("7: closings stay", x.room(0, 7), 1);
        Check.due("7: latest closing stays", x.room(0, 11), 0);
        Check.due("7: saved", x.count(13), saved + 1);
        Check.due("7: service(0) again", x.service(0), 0);
        Check.due("7: service(1)", x.service(1), INVALID);
        Check.due("7: service(-1)", x.service(-1), INVALID);
        Check.due("7: service(MAX)", x.service(Integer.MAX_VALUE), INVALID);
        Check.due("7: saved after errors", x.count(13), saved + 2);
    }

    private static void promise7ServiceKeepsSuspectMinutes() {
        ThermostatColony x = Colonies.quickBlade(100, 200, 0, 19);
        x.setNumber(1, 1);
        x.setNumber(6, 2);
        x.setNumber(5, 21000);
        x.pass(4);
        Check.due("7: suspect minutes", x.room(0, 9), 3);
        Check.due("7: tripped", x.room(0, 10), 1);
        Check.due("7: wear", x.service(0), 200);
        Check.due("7: suspect minutes stay", x.room(0, 9), 3);
        Check.due("7: suspect stays", x.count(10), 1);
        Check.due("7: the cutout stays", x.room(0, 10), 1);
        x.pass(1);
        Check.due("7: till the next minute", x.room(0, 9), 0);
        Check.due("7: not suspect any more", x.count(10), 0);
    }

    private static void promise8ResetCutout() {
        ThermostatColony x = new ThermostatColony();
        x.addRoom(100, 1, 0, 30);
        x.setNumber(5, 29000);
        Check.due("8: the cutout is in", x.resetCutout(0), ILLEGAL);
        x.pass(1);
        Check.due("8: tripped", x.room(0, 10), 1);
        Check.due("8: above the cutout temperature", x.resetCutout(0), ILLEGAL);
        Check.due("8: still tripped", x.room(0, 10), 1);
        x.setNumber(5, 30000);
        int saved = x.count(13);
        Check.due("8: at the cutout temperature", x.resetCutout(0), 30000);
        Check.due("8: in", x.room(0, 10), 0);
        Check.due("8: saved", x.count(13), saved + 1);
        Check.due("8: in already", x.resetCutout(0), ILLEGAL);
        Check.due("8: resetCutout(1)", x.resetCutout(1), INVALID);
        Check.due("8: resetCutout(-1)", x.resetCutout(-1), INVALID);
        Check.due("8: saved after errors", x.count(13), saved + 1);
        x.warm(0, 1);
        x.pass(1);
        Check.due("8: tripped again", x.room(0, 10), 1);
        x.warm(0, -2000);
        Check.due("8: stays tripped when it is cold", x.room(0, 10), 1);
        Check.due("8: answers the temperature", x.resetCutout(0), 10010);
    }

    private static void promise9Room() {
        ThermostatColony x = Colonies.quickBlade(100, 200, 0, 19);
        x.setNumber(1, 200);
        x.setNumber(5, 22000);
        x.setThermostat(0, 20500, 1500);
        x.pass(3);
        // 1900, then 2100, then 2300: hot, welded, and above the cutout.
        int[] want = {23000, 2300, 23000, 1, 1, 200, 1, 1, 0, 1, 1, 0, 20500, 1500};
        for (int what = 0; what < want.length; what++) {
            Check.due("9: room(0, " + what + ")", x.room(0, what), want[what]);
        }
        Check.due("9: room(0, -1)", x.room(0, -1), INVALID);
        Check.due("9: room(0, 14)", x.room(0, 14), INVALID);
        Check.due("9: room(1, 0)", x.room(1, 0), INVALID);
        Check.due("9: room(-1, 0)", x.room(-1, 0), INVALID);
        for (int wild : EXTREMES) {
            Check.due("9: room(0, " + wild + ")", x.room(0, wild), INVALID);
            Check.due("9: room(" + wild + ", 0)", x.room(wild, 0), INVALID);
        }
    }

    private static void promise9RoomRoundsDown() {
        ThermostatColony x = new ThermostatColony();
        x.addRoom(300, 1, 0, 0);
        x.warm(0, 1);
        Check.due("9: 1000 / 300", x.room(0, 0), 3);
        x.warm(0, -2);
        Check.due("9: -1000 / 300", x.room(0, 0), -4);
        x.warm(0, -299);
        Check.due("9: -300000 / 300", x.room(0, 0), -1000);
    }

    private static void promise10Book() {
        ThermostatColony x = new ThermostatColony();
        x.addRoom(100, 50, 10, 18);
        x.addRoom(100, 20, 5, -10);
        x.setLink(0, 1, 10);
        x.pass(2);
        x.warm(0, 77);
        // In the first minute 180 leaks and 280 goes over; in the second one room 0 has 1340 and
        // room 1 has -670: temperatures 13400 and -6700, so 134 leaks and 201 goes over.
        int[] want = {1800, 50, 314, 481, 77};
        for (int what = 0; what < want.length; what++) {
            Check.due("10: book(0, " + what + ")", x.book(0, what), want[what]);
        }
        // Its leak: 50 and then 33 (33.5) come in from the outside.
        int[] other = {-1000, 20, -83, -481, 0};
        for (int what = 0; what < other.length; what++) {
            Check.due("10: book(1, " + what + ")", x.book(1, what), other[what]);
        }
        Check.due("10: the heat is told by the books", x.room(0, 1), 1800 + 50 - 314 - 481 + 77);
        Check.due("10: and in the other room", x.room(1, 1), -1000 + 20 + 83 + 481);
        Check.due("10: book(0, -1)", x.book(0, -1), INVALID);
        Check.due("10: book(0, 5)", x.book(0, 5), INVALID);
        Check.due("10: book(2, 0)", x.book(2, 0), INVALID);
        Check.due("10: book(-1, 0)", x.book(-1, 0), INVALID);
        for (int wild : EXTREMES) {
            Check.due("10: book(0, " + wild + ")", x.book(0, wild), INVALID);
            Check.due("10: book(" + wild + ", 0)", x.book(wild, 0), INVALID);
        }
    }

    private static void promise11Link() {
        ThermostatColony x = new ThermostatColony();
        for (int room = 0; room < 6; room++) {
            x.addRoom(500, 1, 0, 0);
        }
        for (int first = 0; first < 6; first++) {
            for (int second = first + 1; second < 6; second++) {
                x.setLink(second, first, 1 + 6 * first + second);
            }
        }
        for (int first = 0; first < 6; first++) {
            for (int second = 0; second < 6; second++) {
                int want = first == second ? INVALID
                        : 1 + 6 * Math.min(first, second) + Math.max(first, second);
                Check.due("11: link(" + first + ", " + second + ")", x.link(first, second), want);
            }
        }
        int[][] wrong = {{0, 6}, {6, 0}, {-1, 0}, {0, -1}, {6, 6}, {0, Integer.MAX_VALUE}, {Integer.MIN_VALUE, 0}};
        for (int[] call : wrong) {
            Check.due("11: link(" + call[0] + ", " + call[1] + ")", x.link(call[0], call[1]), INVALID);
        }
    }

    private static void promise12Count() {
        ThermostatColony x = Colonies.quickBlade(100, 200, 0, 19);
        x.addRoom(100, 200, 0, 19);
        x.addRoom(100, 200, 0, 20);
        x.setNumber(6, 2);
        x.setNumber(1, 200);
        x.setNumber(4, 9);
        // Rooms 0 and 1 close, weld and try to open five times; then they cool and close anew.
        x.pass(2);
        Check.due("12: not suspect yet", x.count(10), 0);
        x.pass(1);
        Check.due("12: both are suspect", x.count(10), 2);
        x.pass(3);
        Check.due("12: free, so not suspect", x.count(10), 0);
        Check.due("12: no fines yet", x.count(11), 0);
        x.warm(0, -1500);
        x.warm(1, -1500);
        x.pass(1);
        Check.due("12: fines of both", x.count(11), 18);
        Check.due("12: fines of room 0", x.room(0, 8), 9);
        Check.due("12: rooms", x.count(7), 3);
        Check.due("12: time", x.count(8), 7);
        Check.due("12: points", x.count(9), 0);
        Colonies.load(x, "0=1;5=2;7=3");
        Check.due("12: points then", x.count(9), 3);
        Colonies.write(x, "five!");
        Check.due("12: length", x.count(12), 5);
        Check.due("12: states", x.count(13), 6);
        x.undo();
        Check.due("12: states after undo()", x.count(13), 5);
        for (int what : new int[] {-1, 14, Integer.MIN_VALUE, Integer.MAX_VALUE}) {
            Check.due("12: count(" + what + ")", x.count(what), INVALID);
        }
    }
}

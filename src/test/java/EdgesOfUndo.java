import java.util.ArrayList;
import java.util.List;
import java.util.function.ToIntFunction;

/**
 * The edges that the document names for promise 22, with "Undo". A test stands under the document's
 * words for it.
 */
public final class EdgesOfUndo {
    private static final int ILLEGAL = Colonies.ILLEGAL;

    public static void main(String[] args) {
        noSavedState();
        eachSuccessfulCallSaves();
        callsThatChangeNothingSaveToo();
        refusedCallsSaveNothing();
        otherCallsSaveNothing();
        atMostSixStates();
        theSeventhStateDiscardsTheOldest();
        moreThanSevenStates();
        undoAndSaveByTurns();
        undoDiscardsTheState();
        undoSavesNothing();
        everythingButTheText();
        aWholeColonyComesBack();
        theRoomsGoAndComeAgain();
        aRoomThatComesAgainIsNew();
        minutesPassAnew();
        Check.end("EdgesOfUndo");
    }

    /** "ILLEGAL_STATE if there is none" */
    private static void noSavedState() {
        Edges.refused("22: undo() of a new object", ILLEGAL, Colonies::empty, ThermostatColony::undo);
        ThermostatColony x = new ThermostatColony();
        x.addRoom(10, 1, 0, 0);
        Check.due("22: undo() of one call", x.undo(), 0);
        Check.due("22: no room then", x.count(7), 0);
        Check.due("22: undo() of no call", x.undo(), ILLEGAL);
        Check.due("22: undo() of no call again", x.undo(), ILLEGAL);
        Check.due("22: states then", x.count(13), 0);
        Edges.refused("22: undo() when all are used", ILLEGAL, EdgesOfUndo::fullWithNoStates, ThermostatColony::undo);
    }

    private static ThermostatColony fullWithNoStates() {
        ThermostatColony x = Colonies.full();
        for (int i = 0; i < 6; i++) {
            x.undo();
        }
        return x;
    }

    /** Each of the nine kinds of calls, on Colonies.busy(); it changes something. */
    private static List<ToIntFunction<ThermostatColony>> changingCalls() {
        List<ToIntFunction<ThermostatColony>> calls = new ArrayList<>();
        calls.add(x -> x.addRoom(300, 5, 6, 7));
        calls.add(x -> x.setLink(1, 0, 4));
        calls.add(x -> x.setThermostat(1, 23000, 700));
        calls.add(x -> x.setNumber(4, 99));
        calls.add(ThermostatColony::load);
        calls.add(x -> x.warm(0, 321));
        calls.add(x -> x.service(0));
        calls.add(x -> x.resetCutout(1));
        calls.add(x -> x.pass(1));
        return calls;
    }

    /** "Every successful call of addRoom(), .. and pass() saves the state that preceded it" */
    private static void eachSuccessfulCallSaves() {
        List<ToIntFunction<ThermostatColony>> calls = changingCalls();
        for (int kind = 0; kind < calls.size(); kind++) {
            ThermostatColony x = Colonies.busy();
            String before = Colonies.portraitOfState(x);
            int saved = x.count(13);
            String name = "22: call of the kind " + kind;
            Check.holds(name + " is successful", calls.get(kind).applyAsInt(x) >= 0);
            Check.due(name + " saves", x.count(13), saved + 1);
            Check.holds(name + " changes", !before.equals(Colonies.portraitOfState(x)));
            Check.due(name + ", undo()", x.undo(), saved);
            Check.holds(name + " is taken back", before.equals(Colonies.portraitOfState(x)));
        }
    }

    private static void savesWithoutChange(String name, ToIntFunction<ThermostatColony> call) {
        ThermostatColony x = Colonies.busy();
        String before = Colonies.portraitOfState(x);
        int saved = x.count(13);
        Check.holds(name + " is successful", !Edges.isError(call.applyAsInt(x)));
        Check.holds(name + " changes nothing", before.equals(Colonies.portraitOfState(x)));
        Check.due(name + " saves", x.count(13), saved + 1);
        Check.due(name + " is taken back", x.undo(), saved);
    }

    /** "Every successful call .. saves": also one that leaves all as it is. */
    private static void callsThatChangeNothingSaveToo() {
        savesWithoutChange("22: the same link", x -> x.setLink(0, 1, 9));
        savesWithoutChange("22: the same thermostat", x -> x.setThermostat(0, 20000, 1000));
        savesWithoutChange("22: the same number", x -> x.setNumber(0, 100));
        savesWithoutChange("22: no heat", x -> x.warm(0, 0));
        savesWithoutChange("22: the same weather", x -> Colonies.load(x, "0=9;50=-3"));
        savesWithoutChange("22: an open contact without wear", x -> x.service(1));
        ThermostatColony x = new ThermostatColony();
        Check.due("22: load() of an empty text", x.load(), 0);
        Check.due("22: it saves", x.count(13), 1);
    }

    /** "Every successful call": a refused one saves nothing. */
    private static void refusedCallsSaveNothing() {
        ThermostatColony x = Colonies.busy();
        int saved = x.count(13);
        x.addRoom(9, 1, 0, 0);
        x.setLink(0, 1, 51);
        x.setLink(0, 1, 50);
        x.setThermostat(0, 4999, 100);
        x.setNumber(7, 1);
        x.warm(0, 50001);
        x.warm(0, 50000);
        x.service(2);
        x.resetCutout(0);
        x.pass(0);
        Colonies.load(x, "x");
        Check.due("22: states after refused calls", x.count(13), saved);
        ThermostatColony late = Colonies.late();
        late.undo();
        late.pass(499);
        int lateSaved = late.count(13);
        late.pass(2);
        Check.due("22: states after a pass() that is too long", late.count(13), lateSaved);
    }

    /** "of addRoom(), setLink(), setThermostat(), setNumber(), load(), warm(), service(), resetCutout() and pass()" */
    private static void otherCallsSaveNothing() {
        ThermostatColony x = Colonies.busy();
        String before = Colonies.portraitOfState(x);
        int saved = x.count(13);
        x.room(0, 0);
        x.book(0, 0);
        x.link(0, 1);
        x.count(3);
        x.appendCharacter('1');
        x.clearText();
        x.outside(8);
        x.minutesToSuspect(0);
        x.heatIn(1000);
        x.finesWith(0, 100, 1000);
        x.quietBand(0, 300);
        Check.due("22: states after other calls", x.count(13), saved);
        Check.holds("22: other calls change no state", before.equals(Colonies.portraitOfState(x)));
    }

    private static ThermostatColony withFines(int last) {
        ThermostatColony x = new ThermostatColony();
        for (int fine = 1; fine <= last; fine++) {
            x.setNumber(4, fine);
        }
        return x;
    }

    /** "At most 6 states are saved" */
    private static void atMostSixStates() {
        for (int calls = 0; calls <= 14; calls++) {
            Check.due("22: states after " + calls + " calls", withFines(calls).count(13), Math.min(calls, 6));
        }
        ThermostatColony x = withFines(6);
        for (int left = 5; left >= 0; left--) {
            Check.due("22: states that are left", x.undo(), left);
            Check.due("12: states that are left", x.count(13), left);
            Check.due("22: fine with " + left + " left", x.count(4), left == 0 ? 7 : left);
        }
        Check.due("22: none is left", x.undo(), ILLEGAL);
        Check.due("22: the first state", x.count(4), 7);
    }

    /** "when a seventh is saved, the oldest one is discarded" */
    private static void theSeventhStateDiscardsTheOldest() {
        ThermostatColony x = withFines(7);
        for (int left = 5; left >= 0; left--) {
            Check.due("22: seven calls, undo()", x.undo(), left);
            Check.due("22: seven calls, fine", x.count(4), left + 1);
        }
        Check.due("22: the state before all is gone", x.undo(), ILLEGAL);
        Check.due("22: the fine of the first call stays", x.count(4), 1);
    }

    private static void moreThanSevenStates() {
        for (int calls : new int[] {8, 12, 13, 14, 50}) {
            ThermostatColony x = withFines(calls);
            for (int left = 5; left >= 0; left--) {
                Check.due("22: " + calls + " calls, undo()", x.undo(), left);
                Check.due("22: " + calls + " calls, fine", x.count(4), calls - 6 + left);
            }
            Check.due("22: " + calls + " calls, no more", x.undo(), ILLEGAL);
        }
    }

    private static void undoAndSaveByTurns() {
        ThermostatColony x = withFines(9);
        for (int turn = 0; turn < 10; turn++) {
            Check.due("22: undo() in turn " + turn, x.undo(), 5);
            Check.due("22: fine in turn " + turn, x.count(4), 8);
            x.setNumber(4, 50 + turn);
            Check.due("22: states in turn " + turn, x.count(13), 6);
        }
        x.undo();
        x.undo();
        x.undo();
        Check.due("22: three steps back", x.count(4), 6);
        x.setNumber(4, 60);
        x.setNumber(4, 61);
        Check.due("22: two steps on", x.count(13), 5);
        int[] want = {60, 6, 5, 4, 3};
        for (int step = 0; step < want.length; step++) {
            Check.due("22: step " + step + " back", x.undo(), 4 - step);
            Check.due("22: fine at step " + step, x.count(4), want[step]);
        }
        Check.due("22: no step more", x.undo(), ILLEGAL);
    }

    /** "undo() restores the most recently saved state and discards it." */
    private static void undoDiscardsTheState() {
        ThermostatColony x = withFines(2);
        x.undo();
        Check.due("22: fine after one undo()", x.count(4), 1);
        x.undo();
        Check.due("22: fine after two", x.count(4), 7);
        Check.due("22: not a third time", x.undo(), ILLEGAL);
    }

    /** undo() is none of the calls that save. */
    private static void undoSavesNothing() {
        ThermostatColony x = withFines(3);
        Check.due("22: undo() saves nothing", x.undo(), 2);
        Check.due("22: and is not undone itself", x.undo(), 1);
        Check.due("22: fine", x.count(4), 1);
    }

    /** "which consists of everything but the text" */
    private static void everythingButTheText() {
        ThermostatColony x = new ThermostatColony();
        Colonies.load(x, "5=6");
        Check.due("22: undo() of load()", x.undo(), 0);
        Check.due("22: the weather is gone", x.count(9), 0);
        Check.due("22: the text does not come back", x.count(12), 0);
        Colonies.write(x, "7=");
        x.setNumber(4, 1);
        Colonies.write(x, "8");
        Check.due("22: undo() with a text", x.undo(), 0);
        Check.due("22: the text is that of now", x.count(12), 3);
        Check.due("22: all of it", x.load(), 1);
        Check.due("22: outside(0)", x.outside(0), 8000);
        Colonies.write(x, "9=9");
        x.setNumber(4, 2);
        x.clearText();
        x.undo();
        Check.due("22: a text that was cleared stays so", x.count(12), 0);
    }

    /** "Restores the most recently saved state": six times, each with six rooms and twelve points. */
    private static void aWholeColonyComesBack() {
        List<ToIntFunction<ThermostatColony>> calls = new ArrayList<>();
        calls.add(x -> x.setLink(4, 5, 0));
        calls.add(x -> x.setThermostat(5, 35000, 5000));
        calls.add(x -> Colonies.load(x, "77=-7"));
        calls.add(x -> x.warm(5, -2000));
        calls.add(x -> x.pass(77));
        calls.add(x -> x.service(4));
        for (int back = 0; back <= 6; back++) {
            // Each step is looked at in a colony of its own, since an object is used for at most 512 calls.
            ThermostatColony x = Colonies.full();
            for (ToIntFunction<ThermostatColony> call : calls) {
                Check.holds("22: a call on a full colony is successful", call.applyAsInt(x) >= 0);
            }
            for (int step = 0; step < back; step++) {
                Check.due("22: undo() on a full colony", x.undo(), 5 - step);
            }
            String want = portraitAfter(calls.subList(0, 6 - back));
            Check.holds("22: " + back + " steps back", want.equals(Colonies.portraitOfState(x)));
        }
    }

    private static String portraitAfter(List<ToIntFunction<ThermostatColony>> calls) {
        ThermostatColony x = Colonies.full();
        for (ToIntFunction<ThermostatColony> call : calls) {
            call.applyAsInt(x);
        }
        return Colonies.portraitOfState(x);
    }

    /** "saves the state that preceded it": with no room, and with six. */
    private static void theRoomsGoAndComeAgain() {
        ThermostatColony x = new ThermostatColony();
        for (int room = 0; room < 6; room++) {
            x.addRoom(100, 10, 5, 10 + room);
        }
        for (int left = 5; left >= 0; left--) {
            Check.due("22: undo() of addRoom()", x.undo(), left);
            Check.due("22: rooms", x.count(7), left);
            Check.due("22: the room is gone", x.room(left, 0), Colonies.INVALID);
        }
        for (int room = 0; room < 6; room++) {
            Check.due("22: addRoom() again", x.addRoom(50, 1, 0, -room), room);
            Check.due("22: its temperature", x.room(room, 0), -1000 * room);
        }
        Check.due("22: a seventh one", x.addRoom(50, 1, 0, 0), Colonies.FULL);
        x.pass(3);
        x.undo();
        x.undo();
        Check.due("22: five rooms", x.count(7), 5);
        Check.due("22: and no time", x.count(8), 0);
    }

    /** "At first all of these are 0, nothing is welded, and the cutout is in.": also where another room was. */
    private static void aRoomThatComesAgainIsNew() {
        ThermostatColony x = Colonies.quickBlade(100, 100, 5, 20);
        x.setNumber(1, 1);
        x.setNumber(3, 120);
        x.setNumber(5, 21500);
        Colonies.load(x, "0=10");
        x.addRoom(100, 200, 5, 19);
        x.setLink(0, 1, 10);
        x.warm(1, -20);
        x.pass(1);
        x.service(1);
        x.pass(5);
        int[] used = {3, 4, 5, 6, 7, 8, 9, 10};
        for (int what : used) {
            Check.holds("22: room(1, " + what + ") is used", x.room(1, what) != 0);
        }
        for (int what = 1; what <= 4; what++) {
            Check.holds("22: book(1, " + what + ") is used", x.book(1, what) != 0);
        }
        for (int step = 0; step < 6; step++) {
            x.undo();
        }
        Check.due("22: the room is gone", x.count(7), 1);
        x.addRoom(50, 1, 0, 7);
        int[] want = {7000, 350, 7000, 0, 0, 0, 0, 0, 0, 0, 0, Colonies.NONE, 20000, 1000};
        for (int what = 0; what < want.length; what++) {
            Check.due("22: room(1, " + what + ") of the new room", x.room(1, what), want[what]);
        }
        int[] books = {350, 0, 0, 0, 0};
        for (int what = 0; what < books.length; what++) {
            Check.due("22: book(1, " + what + ") of the new room", x.book(1, what), books[what]);
        }
        Check.due("22: link(0, 1) of the new room", x.link(0, 1), 0);
    }

    /** What passes after undo() is what would have passed before. */
    private static void minutesPassAnew() {
        ThermostatColony x = Colonies.full();
        int switches = x.pass(60);
        String after = Colonies.portraitOfState(x);
        ThermostatColony y = Colonies.full();
        y.setNumber(0, 3);
        y.pass(60);
        y.undo();
        y.undo();
        Check.due("22: the same minutes", y.pass(60), switches);
        Check.holds("22: with the same end", after.equals(Colonies.portraitOfState(y)));
    }
}

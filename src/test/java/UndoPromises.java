/** Promise 22: undo, and which calls save a state. */
public final class UndoPromises {
    private static final int ILLEGAL = Colonies.ILLEGAL;

    public static void main(String[] args) {
        nothingToUndo();
        eachSavingCall();
        callsThatSaveNothing();
        atMostSixStates();
        theTextStays();
        timeRunsAnew();
        finesComeBack();
        linksComeBack();
        Check.end("UndoPromises");
    }

    private static void nothingToUndo() {
        ThermostatColony x = new ThermostatColony();
        Check.due("22: undo() of a new object", x.undo(), ILLEGAL);
        x.addRoom(100, 1, 0, 0);
        Check.due("22: undo()", x.undo(), 0);
        Check.due("22: count(7)", x.count(7), 0);
        Check.due("22: undo() again", x.undo(), ILLEGAL);
        Check.due("22: count(13)", x.count(13), 0);
    }

    private static final int KINDS = 10;

    private static int save(ThermostatColony x, int kind) {
        switch (kind) {
            case 0:
                return x.addRoom(300, 5, 6, 7);
            case 1:
                return x.setLink(1, 0, 4);
            case 2:
                return x.setThermostat(1, 23000, 700);
            case 3:
                return x.setNumber(4, 99);
            case 4:
                return Colonies.load(x, "3=4;5=6;7=8");
            case 5:
                return x.warm(0, 321);
            case 6:
                return x.service(0);
            case 7:
                return x.resetCutout(1);
            case 8:
                return x.pass(60);
            default:
                return x.setThermostat(1, x.room(1, 12), x.room(1, 13));
        }
    }

    private static void eachSavingCall() {
        for (int kind = 0; kind < KINDS; kind++) {
            ThermostatColony x = Colonies.busy();
            String before = Colonies.portraitOfState(x);
            int saved = x.count(13);
            Check.holds("22: kind " + kind + " is successful", save(x, kind) >= 0);
            Check.due("22: states after kind " + kind, x.count(13), saved + 1);
            boolean changes = kind != KINDS - 1;
            Check.holds("22: kind " + kind + " changes", before.equals(Colonies.portraitOfState(x)) != changes);
            Check.due("22: undo() of kind " + kind, x.undo(), saved);
            Check.holds("22: undo() of kind " + kind + " restores all", before.equals(Colonies.portraitOfState(x)));
        }
    }

    private static void callsThatSaveNothing() {
        ThermostatColony x = Colonies.busy();
        String before = Colonies.portraitOfState(x);
        int saved = x.count(13);
        x.addRoom(9, 1, 1, 1);
        x.setLink(0, 1, 50);
        x.setLink(0, 0, 5);
        x.setThermostat(0, 1, 1);
        x.setNumber(7, 1);
        x.warm(0, 50000);
        x.warm(0, 50001);
        x.service(2);
        x.resetCutout(0);
        x.pass(0);
        Colonies.load(x, "x");
        x.clearText();
        x.appendCharacter('1');
        x.room(0, 0);
        x.book(0, 0);
        x.link(0, 1);
        x.count(3);
        x.outside(8);
        x.minutesToSuspect(0);
        x.heatIn(1000);
        x.finesWith(0, 100, 1000);
        x.quietBand(0, 300);
        Check.due("22: states after calls that save nothing", x.count(13), saved);
        Check.holds("22: such calls change nothing", before.equals(Colonies.portraitOfState(x)));
    }

    private static void atMostSixStates() {
        ThermostatColony x = new ThermostatColony();
        for (int value = 1; value <= 20; value++) {
            x.setNumber(4, value);
            Check.due("22: states after " + value, x.count(13), Math.min(value, 6));
        }
        for (int left = 5; left >= 0; left--) {
            Check.due("22: undo() to " + left, x.undo(), left);
            Check.due("22: fine with " + left, x.count(4), 14 + left);
        }
        Check.due("22: all are used", x.undo(), ILLEGAL);
        Check.due("22: the fine stays", x.count(4), 14);
        x.setNumber(4, 50);
        x.setNumber(4, 51);
        x.undo();
        x.setNumber(4, 52);
        Check.due("22: after undo() it goes on", x.undo(), 1);
        Check.due("22: fine", x.count(4), 50);
        Check.due("22: undo()", x.undo(), 0);
        Check.due("22: fine at last", x.count(4), 14);
    }

    private static void theTextStays() {
        ThermostatColony x = new ThermostatColony();
        Colonies.load(x, "5=6");
        Colonies.write(x, "7=8");
        Check.due("22: undo() of load()", x.undo(), 0);
        Check.due("22: no weather", x.outside(0), 0);
        Check.due("22: the text stays", x.count(12), 3);
        Check.due("22: and is read", x.load(), 1);
        Check.due("22: as the weather", x.outside(0), 8000);
        x.undo();
        Check.due("22: the text does not come back", x.count(12), 0);
    }

    private static void timeRunsAnew() {
        ThermostatColony x = Colonies.busy();
        String before = Colonies.portraitOfState(x);
        int first = x.pass(300);
        String after = Colonies.portraitOfState(x);
        x.undo();
        Check.holds("22: undo() of pass()", before.equals(Colonies.portraitOfState(x)));
        x.setNumber(3, 120);
        x.undo();
        Check.due("22: the same time again", x.pass(300), first);
        Check.holds("22: the same minutes again", after.equals(Colonies.portraitOfState(x)));
    }

    private static void finesComeBack() {
        ThermostatColony x = Colonies.quickBlade(100, 200, 5, 20);
        x.setThermostat(0, 20000, 100);
        x.pass(9);
        Check.due("22: fines", x.room(0, 8), 14);
        x.pass(4);
        Check.due("22: more fines", x.room(0, 8), 21);
        x.undo();
        Check.due("22: fines after undo()", x.room(0, 8), 14);
        Check.due("22: latest closing after undo()", x.room(0, 11), 8);
    }

    private static void linksComeBack() {
        ThermostatColony x = new ThermostatColony();
        for (int room = 0; room < 6; room++) {
            x.addRoom(500, 1, 0, 0);
        }
        x.setLink(4, 5, 3);
        x.setLink(5, 4, 9);
        x.undo();
        Check.due("22: link(4, 5)", x.link(4, 5), 3);
        Check.due("22: link(5, 4)", x.link(5, 4), 3);
        x.undo();
        Check.due("22: link(4, 5) at first", x.link(4, 5), 0);
    }
}

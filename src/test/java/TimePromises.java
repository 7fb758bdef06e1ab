/** Promises 17 to 21: minutes and forecasts. The answers that are due were reckoned by hand. */
public final class TimePromises {
    private static final int INVALID = Colonies.INVALID;
    private static final int ILLEGAL = Colonies.ILLEGAL;
    private static final int FULL = Colonies.FULL;
    private static final int NONE = Colonies.NONE;
    private static final int[] EXTREMES = {Integer.MIN_VALUE, Integer.MAX_VALUE};

    public static void main(String[] args) {
        promise17Errors();
        promise17TimeLimit();
        promise17HeatAndBlade();
        promise17HeatsChangeAtTheSameTime();
        promise17RoundsTowardZero();
        promise17OutsideAtTheBeginning();
        promise17Cutout();
        promise17ClosesAndOpens();
        promise17CountsSwitches();
        promise17Fines();
        promise17FinesAfterService();
        promise17Welds();
        promise17BreaksFree();
        promise17FewerAttempts();
        promise17SuspectMinutes();
        promise18MinutesToSuspect();
        promise18Limit();
        promise19HeatIn();
        promise19OnlyWorkingHeaters();
        promise20FinesWith();
        promise20OneRoom();
        promise21QuietBand();
        promise21None();
        forecastsChangeNothing();
        Check.end("TimePromises");
    }

    private static void promise17Errors() {
        ThermostatColony x = new ThermostatColony();
        Check.due("17: pass(1) without rooms", x.pass(1), ILLEGAL);
        Check.due("17: pass(0) without rooms", x.pass(0), INVALID);
        x.addRoom(100, 1, 0, 0);
        for (int wrong : new int[] {0, -1, 501, Integer.MIN_VALUE, Integer.MAX_VALUE}) {
            Check.due("17: pass(" + wrong + ")", x.pass(wrong), INVALID);
        }
        Check.due("17: time after errors", x.count(8), 0);
        Check.due("17: states after errors", x.count(13), 1);
        Check.due("17: pass(500)", x.pass(500), 1);
        Check.due("17: time", x.count(8), 500);
    }

    private static void promise17TimeLimit() {
        ThermostatColony x = new ThermostatColony();
        x.addRoom(100, 50, 10, 18);
        for (int i = 0; i < 39; i++) {
            x.pass(500);
        }
        x.pass(499);
        Check.due("17: time", x.count(8), 19999);
        Check.due("17: a minute too many", x.pass(2), FULL);
        Check.due("17: time stays", x.count(8), 19999);
        Check.due("17: out of range is named first", x.pass(501), INVALID);
        Check.due("17: the last minute", x.pass(1), 0);
        Check.due("17: time at last", x.count(8), 20000);
        Check.due("17: no more", x.pass(1), FULL);
        Check.due("19: a forecast goes on", x.heatIn(1000), 50000);
        Check.due("18: a forecast goes on", x.minutesToSuspect(0), NONE);
        Check.due("20: a forecast goes on", x.finesWith(0, 100, 1000), 0);
        Check.due("21: a forecast goes on", x.quietBand(0, 300), 100);
    }

    private static void promise17HeatAndBlade() {
        ThermostatColony x = new ThermostatColony();
        x.addRoom(100, 50, 10, 18);
        Check.due("17: it closes", x.pass(1), 1);
        Check.due("17: 1800 - 180", x.room(0, 1), 1620);
        Check.due("17: 18000 - 1800 * 25 / 100", x.room(0, 2), 17550);
        Check.due("17: nothing switches", x.pass(1), 0);
        Check.due("17: 1620 + 50 - 162", x.room(0, 1), 1508);
        Check.due("17: 17550 - 2470 * 25 / 100", x.room(0, 2), 16933);
        Check.due("17: from the heater", x.book(0, 1), 50);
        Check.due("17: to the outside", x.book(0, 2), 342);
    }

    private static void promise17HeatsChangeAtTheSameTime() {
        ThermostatColony x = new ThermostatColony();
        x.addRoom(100, 1, 0, 10);
        x.addRoom(100, 1, 0, -5);
        x.addRoom(200, 1, 0, 20);
        x.setLink(0, 1, 7);
        x.setLink(0, 2, 11);
        x.setLink(1, 2, 13);
        x.pass(1);
        Check.due("17: 1000 - 105 + 110", x.room(0, 1), 1005);
        Check.due("17: -500 + 105 + 325", x.room(1, 1), -70);
        Check.due("17: 4000 - 110 - 325", x.room(2, 1), 3565);
        Check.due("17: book(0, 3)", x.book(0, 3), -5);
        Check.due("17: book(1, 3)", x.book(1, 3), -430);
        Check.due("17: book(2, 3)", x.book(2, 3), 435);
    }

    private static void promise17RoundsTowardZero() {
        ThermostatColony x = new ThermostatColony();
        x.addRoom(30, 1, 1, 0);
        x.addRoom(30, 1, 0, 0);
        x.setLink(0, 1, 1);
        x.warm(0, -100);
        x.pass(1);
        // The temperature is -3334: 3 of heat come in from the outside, and 3 from the other room.
        Check.due("17: -100 + 3 + 3", x.room(0, 1), -94);
        Check.due("17: 0 - 3", x.room(1, 1), -3);
        Check.due("17: book(0, 2)", x.book(0, 2), -3);
        Check.due("17: book(0, 3)", x.book(0, 3), -3);
        Check.due("17: book(1, 3)", x.book(1, 3), 3);
        // The temperature is -3134 then, so the blade changes by -783 (783.5).
        Check.due("17: room(0, 0)", x.room(0, 0), -3134);
        Check.due("17: the blade", x.room(0, 2), -783);
    }

    private static void promise17OutsideAtTheBeginning() {
        ThermostatColony x = new ThermostatColony();
        x.addRoom(100, 1, 10, 40);
        Colonies.load(x, "0=0;1=10;2=-10");
        x.pass(1);
        Check.due("17: 400 leak", x.book(0, 2), 400);
        x.pass(1);
        Check.due("17: 260 more", x.book(0, 2), 660);
        x.pass(2);
        // 3340 has 33400, 434 leak; 2906 has 29060, 390 leak.
        Check.due("17: 434 and 390 more", x.book(0, 2), 1484);
        Check.due("17: heat", x.room(0, 1), 2516);
    }

    private static void promise17Cutout() {
        ThermostatColony x = Colonies.quickBlade(100, 200, 0, 19);
        x.setNumber(5, 21000);
        x.setThermostat(0, 25000, 1000);
        x.pass(2);
        Check.due("17: at the cutout temperature", x.room(0, 0), 21000);
        Check.due("17: the cutout is in", x.room(0, 10), 0);
        x.pass(1);
        Check.due("17: above it", x.room(0, 0), 23000);
        Check.due("17: the cutout trips", x.room(0, 10), 1);
        Check.due("17: the contact stays closed", x.room(0, 3), 1);
        x.pass(3);
        Check.due("17: no heat comes", x.room(0, 0), 23000);
        Check.due("17: from the heater", x.book(0, 1), 400);
        x.warm(0, -1000);
        x.pass(1);
        Check.due("17: it stays tripped", x.room(0, 10), 1);
        Check.due("17: and without heat", x.book(0, 1), 400);
        Check.due("8: resetCutout(0)", x.resetCutout(0), 13000);
        x.pass(1);
        Check.due("17: heat comes again", x.book(0, 1), 600);
    }

    private static void promise17ClosesAndOpens() {
        ThermostatColony x = Colonies.quickBlade(500, 1, 0, 19);
        x.warm(0, 1);
        Check.due("17: 19002 is not cold", x.pass(1), 0);
        Check.due("17: room(0, 11)", x.room(0, 11), NONE);
        x.warm(0, -1);
        Check.due("17: 19000 is cold", x.pass(1), 1);
        Check.due("17: closed", x.room(0, 3), 1);
        Check.due("17: closings", x.room(0, 7), 1);
        Check.due("17: time of the closing", x.room(0, 11), 1);
        Check.due("17: wear", x.room(0, 5), 1);
        x.warm(0, 998);
        Check.due("17: 20998 is not hot", x.pass(1), 0);
        Check.due("17: still closed", x.room(0, 3), 1);
        Check.due("17: 21000 is hot", x.pass(1), 1);
        Check.due("17: open", x.room(0, 3), 0);
        Check.due("17: closings stay", x.room(0, 7), 1);
        Check.due("17: the time of the closing stays", x.room(0, 11), 1);
        Check.due("17: the wear stays", x.room(0, 5), 1);
        Check.due("17: open and warm it stays so", x.pass(100), 0);
    }

    /** With power 200, capacity 100 and leak 5 it closes in the minutes 0, 4, 8 .., and opens in 2, 6 .. */
    private static ThermostatColony everyFourMinutes() {
        ThermostatColony x = Colonies.quickBlade(100, 200, 5, 20);
        x.setThermostat(0, 20000, 100);
        return x;
    }

    private static void promise17CountsSwitches() {
        ThermostatColony x = everyFourMinutes();
        x.addRoom(100, 200, 5, 20);
        x.setThermostat(1, 20000, 100);
        Check.due("17: two close", x.pass(1), 2);
        Check.due("17: none", x.pass(1), 0);
        Check.due("17: two open", x.pass(1), 2);
        Check.due("17: two close and open", x.pass(4), 4);
        Check.due("17: time of the closing", x.room(1, 11), 4);
    }

    private static void promise17Fines() {
        ThermostatColony x = everyFourMinutes();
        x.pass(1);
        Check.due("17: no fine for the first closing", x.room(0, 8), 0);
        x.setNumber(3, 4);
        x.pass(4);
        Check.due("17: the cycle time has passed", x.room(0, 8), 0);
        x.setNumber(3, 5);
        x.pass(4);
        Check.due("17: it has not", x.room(0, 8), 7);
        x.setNumber(4, 31);
        x.pass(4);
        Check.due("17: another fine", x.room(0, 8), 38);
        x.setNumber(3, 0);
        x.pass(4);
        Check.due("17: no cycle time", x.room(0, 8), 38);
        Check.due("17: closings", x.room(0, 7), 5);
        Check.due("17: time of the latest closing", x.room(0, 11), 16);
        Check.due("17: wear", x.room(0, 5), 1000);
    }

    private static void promise17FinesAfterService() {
        ThermostatColony x = Colonies.quickBlade(100, 10, 0, 10);
        x.pass(1);
        x.service(0);
        Check.due("17: it closes again", x.pass(1), 1);
        Check.due("17: closings", x.room(0, 7), 2);
        Check.due("17: and is fined", x.room(0, 8), 7);
        Check.due("17: wear", x.room(0, 5), 10);
    }

    private static void promise17Welds() {
        ThermostatColony x = everyFourMinutes();
        x.setNumber(1, 401);
        x.pass(5);
        Check.due("17: wear", x.room(0, 5), 400);
        Check.due("17: below the limit", x.room(0, 4), 0);
        x.setNumber(1, 400);
        x.pass(1);
        Check.due("17: it welds in a closing alone", x.room(0, 4), 0);
        x.undo();
        x.undo();
        x.undo();
        x.setNumber(1, 400);
        x.pass(1);
        Check.due("17: first closing", x.room(0, 4), 0);
        x.pass(4);
        Check.due("17: at the limit", x.room(0, 4), 1);
        Check.due("17: no attempts yet", x.room(0, 6), 0);
    }

    private static void promise17BreaksFree() {
        ThermostatColony x = Colonies.quickBlade(100, 101, 0, 19);
        x.setNumber(1, 101);
        x.setNumber(2, 3);
        x.pass(1);
        Check.due("17: welded", x.room(0, 4), 1);
        x.pass(1);
        Check.due("17: no attempt when it is not hot", x.room(0, 6), 0);
        Check.due("17: two attempts", x.pass(2), 0);
        Check.due("17: attempts", x.room(0, 6), 2);
        Check.due("17: still closed", x.room(0, 3), 1);
        Check.due("17: suspect minutes", x.room(0, 9), 2);
        Check.due("17: the third attempt", x.pass(1), 1);
        Check.due("17: open", x.room(0, 3), 0);
        Check.due("17: not welded", x.room(0, 4), 0);
        Check.due("17: attempts then", x.room(0, 6), 0);
        Check.due("17: half of the wear", x.room(0, 5), 50);
        Check.due("17: suspect minutes then", x.room(0, 9), 0);
        x.warm(0, -1000);
        x.setNumber(1, 152);
        x.pass(1);
        Check.due("17: wear of the next closing", x.room(0, 5), 151);
        Check.due("17: it is below the limit", x.room(0, 4), 0);
    }

    private static void promise17FewerAttempts() {
        ThermostatColony x = Colonies.quickBlade(100, 200, 0, 19);
        x.setNumber(1, 1);
        x.pass(5);
        Check.due("17: attempts", x.room(0, 6), 4);
        x.setNumber(2, 2);
        Check.due("17: more attempts than needed", x.pass(1), 1);
        Check.due("17: wear", x.room(0, 5), 100);
    }

    private static void promise17SuspectMinutes() {
        ThermostatColony x = Colonies.quickBlade(100, 200, 0, 19);
        x.setNumber(1, 1);
        x.setNumber(2, 50);
        x.setNumber(6, 3);
        x.pass(3);
        Check.due("17: suspect minutes", x.room(0, 9), 2);
        Check.due("17: suspect rooms", x.count(10), 0);
        x.pass(1);
        Check.due("17: suspect minutes then", x.room(0, 9), 3);
        Check.due("17: suspect rooms then", x.count(10), 1);
        x.warm(0, -700);
        x.pass(1);
        Check.due("17: welded, but not hot", x.room(0, 9), 0);
        Check.due("17: the attempts stay", x.room(0, 6), 3);
        Check.due("17: closed", x.room(0, 3), 1);
    }

    private static void promise18MinutesToSuspect() {
        ThermostatColony x = Colonies.quickBlade(100, 200, 0, 19);
        x.addRoom(100, 1, 0, 30);
        x.setNumber(1, 1);
        Check.due("18: it breaks free before", x.minutesToSuspect(0), NONE);
        x.setNumber(6, 5);
        Check.due("18: just before", x.minutesToSuspect(0), NONE);
        x.setNumber(6, 4);
        Check.due("18: four hot minutes behind one", x.minutesToSuspect(0), 5);
        x.setNumber(2, 50);
        x.setNumber(6, 15);
        Check.due("18: fifteen hot minutes behind one", x.minutesToSuspect(0), 16);
        Check.due("18: an open contact", x.minutesToSuspect(1), NONE);
        x.pass(15);
        Check.due("18: a minute left", x.minutesToSuspect(0), 1);
        x.pass(1);
        Check.due("18: now", x.minutesToSuspect(0), 0);
        x.service(0);
        Check.due("18: now, till the next minute", x.minutesToSuspect(0), 0);
        x.pass(1);
        Check.due("18: not any more", x.minutesToSuspect(0), NONE);
        for (int wrong : new int[] {-1, 2, 6, Integer.MIN_VALUE, Integer.MAX_VALUE}) {
            Check.due("18: minutesToSuspect(" + wrong + ")", x.minutesToSuspect(wrong), INVALID);
        }
        Check.due("18: without rooms", new ThermostatColony().minutesToSuspect(0), INVALID);
    }

    private static void promise18Limit() {
        ThermostatColony x = Colonies.quickBlade(500, 1, 0, 18);
        x.setNumber(1, 1);
        x.setNumber(6, 1);
        x.setThermostat(0, 20000, 900);
        // It closes in the first minute, and is hot with a heat of 10450.
        x.warm(0, 451);
        Check.due("18: a thousand minutes", x.minutesToSuspect(0), 1000);
        x.warm(0, -1);
        Check.due("18: a thousand and one", x.minutesToSuspect(0), NONE);
        x.pass(1);
        Check.due("18: again a thousand", x.minutesToSuspect(0), 1000);
    }

    private static void promise19HeatIn() {
        ThermostatColony x = new ThermostatColony();
        Check.due("19: without rooms", x.heatIn(1000), 0);
        x.addRoom(100, 50, 10, 18);
        Check.due("19: the contact is open", x.heatIn(1), 0);
        Check.due("19: then closed", x.heatIn(2), 50);
        Check.due("19: it never opens", x.heatIn(1000), 49950);
        x.pass(10);
        Check.due("19: from now on", x.heatIn(3), 150);
        x.addRoom(100, 7, 0, 0);
        Check.due("19: of both rooms", x.heatIn(3), 164);
        for (int wrong : new int[] {0, -1, 1001, Integer.MIN_VALUE, Integer.MAX_VALUE}) {
            Check.due("19: heatIn(" + wrong + ")", x.heatIn(wrong), INVALID);
        }
        Check.due("19: wrong without rooms", new ThermostatColony().heatIn(0), INVALID);
    }

    private static void promise19OnlyWorkingHeaters() {
        ThermostatColony x = Colonies.quickBlade(100, 200, 0, 19);
        x.setNumber(1, 1);
        x.setNumber(2, 50);
        x.setNumber(5, 22000);
        // Closed behind the first minute, above the cutout temperature behind the third one.
        Check.due("19: until the cutout trips", x.heatIn(1000), 400);
        x.pass(3);
        Check.due("19: tripped", x.heatIn(1000), 0);
    }

    private static void promise20FinesWith() {
        ThermostatColony x = everyFourMinutes();
        Check.due("20: one closing", x.finesWith(0, 100, 4), 0);
        Check.due("20: two closings", x.finesWith(0, 100, 5), 7);
        Check.due("20: three closings", x.finesWith(0, 100, 9), 14);
        Check.due("20: band 1900, closings in 1 and 9", x.finesWith(0, 1900, 10), 7);
        Check.due("20: band 2000, closings in 2 and 12", x.finesWith(0, 2000, 13), 0);
        x.setNumber(3, 11);
        Check.due("20: with a longer cycle time", x.finesWith(0, 2000, 13), 7);
        Check.due("20: a minute less", x.finesWith(0, 2000, 12), 0);
        x.setNumber(3, 10);
        x.pass(5);
        Check.due("20: fines till now", x.room(0, 8), 7);
        Check.due("20: the increase alone", x.finesWith(0, 100, 4), 7);
        Check.due("20: none in the next minutes", x.finesWith(0, 100, 3), 0);
        Check.due("20: a minute before the closing", x.finesWith(0, 100, 1), 0);
        x.pass(3);
        Check.due("20: the minute of the closing", x.finesWith(0, 100, 1), 7);
        int[][] wrong = {{1, 100, 1}, {-1, 100, 1}, {0, 99, 1}, {0, 5001, 1}, {0, 100, 0}, {0, 100, 1001}, {0, 100, -1}};
        for (int[] call : wrong) {
            Check.due("20: finesWith(" + call[0] + ", " + call[1] + ", " + call[2] + ")",
                    x.finesWith(call[0], call[1], call[2]), INVALID);
        }
        for (int wild : EXTREMES) {
            Check.due("20: finesWith(" + wild + ", 100, 1)", x.finesWith(wild, 100, 1), INVALID);
            Check.due("20: finesWith(0, " + wild + ", 1)", x.finesWith(0, wild, 1), INVALID);
            Check.due("20: finesWith(0, 100, " + wild + ")", x.finesWith(0, 100, wild), INVALID);
        }
        Check.holds("20: 5000 and 1000 are in range", x.finesWith(0, 5000, 1000) >= 0);
    }

    private static void promise20OneRoom() {
        ThermostatColony x = everyFourMinutes();
        x.addRoom(100, 200, 5, 20);
        x.setThermostat(1, 20000, 100);
        Check.due("20: room 0 with 2000", x.finesWith(0, 2000, 13), 0);
        Check.due("20: room 1 keeps its band", x.finesWith(1, 100, 13), 21);
        Check.due("20: room 1 with 2000", x.finesWith(1, 2000, 13), 0);
    }

    private static void promise21QuietBand() {
        ThermostatColony x = everyFourMinutes();
        Check.due("21: the second closing is too late", x.quietBand(0, 4), 100);
        // The bands up to 1000 close again in minute 4, 1100 to 1900 in minute 9 at the latest.
        Check.due("21: 2000 takes ten minutes", x.quietBand(0, 13), 2000);
        Check.due("21: 300 minutes", x.quietBand(0, 300) >= 2000 ? 1 : 0, 1);
        for (int wrong : new int[] {0, -1, 301, Integer.MIN_VALUE, Integer.MAX_VALUE}) {
            Check.due("21: quietBand(0, " + wrong + ")", x.quietBand(0, wrong), INVALID);
            Check.due("21: quietBand(" + (wrong == 0 ? 1 : wrong) + ", 1)", x.quietBand(wrong == 0 ? 1 : wrong, 1), INVALID);
        }
        x.setNumber(3, 0);
        Check.due("21: no cycle time", x.quietBand(0, 300), 100);
    }

    private static void promise21None() {
        ThermostatColony x = Colonies.quickBlade(100, 10, 0, 10);
        x.pass(1);
        x.service(0);
        // It closes in the next minute with each band: even 15000 would be cold.
        Check.due("21: none", x.quietBand(0, 1), NONE);
        Check.due("21: none in 300 minutes", x.quietBand(0, 300), NONE);
        x.warm(0, 500);
        Check.due("21: at 15000 none", x.quietBand(0, 1), NONE);
        x.warm(0, 1);
        Check.due("21: the last band", x.quietBand(0, 1), 5000);
        x.warm(0, 9);
        Check.due("21: 15100 is cold for 4900", x.quietBand(0, 1), 5000);
        x.warm(0, 1);
        Check.due("21: 15110", x.quietBand(0, 1), 4900);
        x.warm(0, 488);
        Check.due("21: 19990", x.quietBand(0, 1), 100);
        x.warm(0, -89);
        Check.due("21: fines of before do not count", x.quietBand(0, 1), 1000);
    }

    private static void forecastsChangeNothing() {
        ThermostatColony x = everyFourMinutes();
        x.addRoom(100, 100, 3, 7);
        x.setLink(0, 1, 20);
        Colonies.load(x, "3=7;20=-20");
        x.pass(9);
        String before = Colonies.portraitOfState(x);
        int states = x.count(13);
        int quiet = x.quietBand(0, 300);
        int fines = x.finesWith(0, 4000, 1000);
        int heat = x.heatIn(1000);
        int suspect = x.minutesToSuspect(1);
        Check.holds("18 to 21: forecasts change nothing", before.equals(Colonies.portraitOfState(x)));
        Check.due("18 to 21: forecasts save nothing", x.count(13), states);
        Check.due("18: the same again", x.minutesToSuspect(1), suspect);
        Check.due("19: the same again", x.heatIn(1000), heat);
        Check.due("20: the same again", x.finesWith(0, 4000, 1000), fines);
        Check.due("21: the same again", x.quietBand(0, 300), quiet);
        int given = x.book(0, 1) + x.book(1, 1);
        x.pass(500);
        x.pass(500);
        Check.due("19: what was forecast comes", x.book(0, 1) + x.book(1, 1) - given, heat);
    }
}

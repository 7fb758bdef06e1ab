import java.util.function.Supplier;

/**
 * The edges that the document names for promises 18 to 21. A test stands under the document's words
 * for it.
 */
public final class EdgesOfForecasts {
    private static final int INVALID = Colonies.INVALID;
    private static final int NONE = Colonies.NONE;

    private static final int WELD_LIMIT = 1;
    private static final int ATTEMPTS = 2;
    private static final int CYCLE_TIME = 3;
    private static final int FINE = 4;
    private static final int CUTOUT = 5;
    private static final int SUSPECT_TIME = 6;

    public static void main(String[] args) {
        forecastsChangeNothing();
        forecastsGoBeyond20000();
        finesBehind20000();
        forecastsGoBeyondTheWeather();
        suspectOfNoRoom();
        suspectNow();
        suspectInAMinute();
        suspectWithin1000Minutes();
        suspectNever();
        suspectTimeThatIsTooLong();
        heat1To1000Minutes();
        heatWithoutRooms();
        heatFromAllHeaters();
        heatOfTheNextMinutesAlone();
        finesOfNoRoom();
        finesBand100To5000();
        fines1To1000Minutes();
        finesAreTheIncrease();
        finesOfTheLastMinute();
        finesWithTheBandInOneRoom();
        finesWithABandThatIsNoMultipleOf100();
        quietBandOfNoRoom();
        quietBand1To300Minutes();
        quietBandIs100();
        quietBandIs5000();
        quietBandIsNone();
        quietBandIsAMultipleOf100();
        quietBandIsTheSmallest();
        quietBandOfTheLastMinute();
        quietBandLooksAtOneRoom();
        quietBandWithTheFineZero();
        Check.end("EdgesOfForecasts");
    }

    /** A room that does not leak, with a blade that follows at once. */
    private static ThermostatColony room(int capacity, int power, int degrees) {
        return Colonies.quickBlade(capacity, power, 0, degrees);
    }

    /** "(forecasts change nothing ..)" */
    private static void forecastsChangeNothing() {
        for (int which = 0; which < 3; which++) {
            Supplier<ThermostatColony> made = which == 0 ? Colonies::empty : which == 1 ? Colonies::busy : Colonies::full;
            Edges.changesNothing("18: minutesToSuspect(0) in " + which, made, x -> x.minutesToSuspect(0));
            Edges.changesNothing("18: minutesToSuspect(1) in " + which, made, x -> x.minutesToSuspect(1));
            Edges.changesNothing("19: heatIn(1) in " + which, made, x -> x.heatIn(1));
            Edges.changesNothing("19: heatIn(1000) in " + which, made, x -> x.heatIn(1000));
            Edges.changesNothing("20: finesWith(0, 5000, 1) in " + which, made, x -> x.finesWith(0, 5000, 1));
            Edges.changesNothing("20: finesWith(1, 100, 1000) in " + which, made, x -> x.finesWith(1, 100, 1000));
            Edges.changesNothing("21: quietBand(0, 1) in " + which, made, x -> x.quietBand(0, 1));
            Edges.changesNothing("21: quietBand(1, 300) in " + which, made, x -> x.quietBand(1, 300));
        }
    }

    /** Closes in the minutes 0, 4, 8 .., and opens in 2, 6, .. */
    private static ThermostatColony everyFourMinutes() {
        ThermostatColony x = Colonies.quickBlade(100, 200, 5, 20);
        x.setThermostat(0, 20000, 100);
        return x;
    }

    /** "and the time can become greater than 20000 in them" */
    private static void forecastsGoBeyond20000() {
        Check.due("19: heatIn(1) at 20000", Colonies.late().heatIn(1), 50);
        Check.due("19: heatIn(1000) at 20000", Colonies.late().heatIn(1000), 50000);
        Check.due("18: minutesToSuspect(0) at 20000", Colonies.late().minutesToSuspect(0), NONE);
        ThermostatColony x = openAt20000();
        x.setNumber(WELD_LIMIT, 1);
        x.setNumber(SUSPECT_TIME, 1);
        // It closes in the first minute, then the temperature rises by 2 in each.
        x.setThermostat(0, 20999, 999);
        Check.due("18: 1000 minutes behind 20000", x.minutesToSuspect(0), 1000);
        x.setThermostat(0, 21000, 1000);
        Check.due("18: 1001 minutes behind 20000", x.minutesToSuspect(0), NONE);
    }

    /** At the time 20000, with a contact that was never closed. */
    private static ThermostatColony openAt20000() {
        ThermostatColony x = room(500, 1, 20);
        for (int i = 0; i < 40; i++) {
            x.pass(500);
        }
        return x;
    }

    /** "and the time can become greater than 20000 in them": the times of closings too. */
    private static void finesBehind20000() {
        ThermostatColony x = everyFourMinutes();
        Colonies.load(x, "0=20");
        for (int i = 0; i < 40; i++) {
            x.pass(500);
        }
        Check.due("20: no closing till 20000", x.room(0, 7), 0);
        Colonies.load(x, "");
        Check.due("20: one closing", x.finesWith(0, 100, 4), 0);
        Check.due("20: two closings", x.finesWith(0, 100, 5), 7);
        Check.due("20: three closings", x.finesWith(0, 100, 9), 14);
        x.setNumber(CYCLE_TIME, 4);
        Check.due("20: four minutes are enough", x.finesWith(0, 100, 9), 0);
        x.setNumber(CYCLE_TIME, 5);
        Check.due("21: four minutes are not enough", x.quietBand(0, 5), 1100);
    }

    /** "behind the last one that of the last one": also behind 20000. */
    private static void forecastsGoBeyondTheWeather() {
        ThermostatColony x = openAt20000();
        Colonies.load(x, "0=0;9999=20");
        Check.due("19: nothing happens behind 20000", x.heatIn(1000), 0);
        x.addRoom(500, 7, 50, 20);
        x.setThermostat(1, 20500, 100);
        Check.due("19: it closes in the first minute", x.heatIn(1), 0);
        Check.due("19: and has heat in the second one", x.heatIn(2), 7);
    }

    /** "INVALID_ARGUMENT if there is no such room" */
    private static void suspectOfNoRoom() {
        for (int wrong : new int[] {-1, 6, Integer.MIN_VALUE, Integer.MAX_VALUE}) {
            Edges.refused("18: minutesToSuspect(" + wrong + ")", INVALID, Colonies::full, x -> x.minutesToSuspect(wrong));
        }
        Edges.refused("18: minutesToSuspect(2) with two rooms", INVALID, Colonies::busy, x -> x.minutesToSuspect(2));
        Edges.refused("18: minutesToSuspect(0) without rooms", INVALID, Colonies::empty, x -> x.minutesToSuspect(0));
        Check.holds("18: minutesToSuspect(5)", !Edges.isError(Colonies.full().minutesToSuspect(5)));
        Check.holds("18: minutesToSuspect(0)", !Edges.isError(Colonies.full().minutesToSuspect(0)));
    }

    /** Welded, and hot from the next minute on. */
    private static ThermostatColony weldedAndHot() {
        ThermostatColony x = room(500, 1, 18);
        x.setNumber(WELD_LIMIT, 1);
        x.setNumber(ATTEMPTS, 50);
        x.pass(1);
        x.setThermostat(0, 5000, 100);
        return x;
    }

    /** "Returns 0 if it is suspect now" */
    private static void suspectNow() {
        ThermostatColony x = weldedAndHot();
        x.pass(14);
        Check.due("18: a minute left", x.minutesToSuspect(0), 1);
        x.pass(1);
        Check.due("18: now", x.minutesToSuspect(0), 0);
        x.pass(1);
        Check.due("18: still", x.minutesToSuspect(0), 0);
        x.setNumber(SUSPECT_TIME, 17);
        Check.due("18: with a longer time", x.minutesToSuspect(0), 1);
        x.setNumber(SUSPECT_TIME, 16);
        Check.due("18: with a time that has just come", x.minutesToSuspect(0), 0);
        x.service(0);
        Check.due("18: after service(0), till the next minute", x.minutesToSuspect(0), 0);
        x.pass(1);
        Check.due("18: after the next minute", x.minutesToSuspect(0), NONE);
    }

    /** "otherwise the number of minutes, 1 to 1000": the least */
    private static void suspectInAMinute() {
        ThermostatColony x = weldedAndHot();
        x.setNumber(SUSPECT_TIME, 1);
        Check.due("18: 1 minute", x.minutesToSuspect(0), 1);
        x.setNumber(SUSPECT_TIME, 2);
        Check.due("18: 2 minutes", x.minutesToSuspect(0), 2);
        x.pass(1);
        Check.due("18: 1 minute of them is left", x.minutesToSuspect(0), 1);
    }

    /** Closes in the first minute; is hot so many minutes later, and suspect at once. */
    private static ThermostatColony hotAfter(int minutes) {
        ThermostatColony x = room(500, 1, 18);
        x.setNumber(WELD_LIMIT, 1);
        x.setNumber(SUSPECT_TIME, 1);
        // From 18000 it rises by 2 in each minute behind the first one.
        x.setThermostat(0, 18000 + minutes, 100 + (minutes % 2));
        int hot = x.room(0, 12) + x.room(0, 13);
        x.warm(0, (hot - 18000) / 2 - (minutes - 1));
        return x;
    }

    /** "the number of minutes, 1 to 1000 .. NONE if it is not so within 1000 minutes" */
    private static void suspectWithin1000Minutes() {
        Check.due("18: 999 minutes", hotAfter(999).minutesToSuspect(0), 999);
        Check.due("18: 1000 minutes", hotAfter(1000).minutesToSuspect(0), 1000);
        Check.due("18: 1001 minutes", hotAfter(1001).minutesToSuspect(0), NONE);
        ThermostatColony x = hotAfter(1001);
        x.pass(1);
        Check.due("18: 1001 minutes, a minute later", x.minutesToSuspect(0), 1000);
        x.pass(500);
        x.pass(499);
        Check.due("18: the last minute", x.minutesToSuspect(0), 1);
        x.pass(1);
        Check.due("18: then", x.minutesToSuspect(0), 0);
    }

    /** "NONE if it is not so within 1000 minutes" */
    private static void suspectNever() {
        Check.due("18: a new room", room(100, 1, 20).minutesToSuspect(0), NONE);
        ThermostatColony x = room(100, 200, 19);
        x.setNumber(SUSPECT_TIME, 1);
        Check.due("18: what is not welded", x.minutesToSuspect(0), NONE);
    }

    /** "6 suspect time (1 to 120, 15)": with so many attempts it breaks free before. */
    private static void suspectTimeThatIsTooLong() {
        ThermostatColony x = weldedAndHot();
        x.setNumber(SUSPECT_TIME, 49);
        Check.due("18: 49 attempts", x.minutesToSuspect(0), 49);
        x.setNumber(SUSPECT_TIME, 50);
        Check.due("18: it breaks free with the fiftieth", x.minutesToSuspect(0), NONE);
        x.setNumber(SUSPECT_TIME, 120);
        Check.due("18: far too long", x.minutesToSuspect(0), NONE);
    }

    /** "minutes: 1 to 1000" */
    private static void heat1To1000Minutes() {
        Edges.range("19: heatIn", 1, 1000, Colonies::empty, ThermostatColony::heatIn);
        Edges.range("19: heatIn", 1, 1000, Colonies::busy, ThermostatColony::heatIn);
        Edges.range("19: heatIn", 1, 1000, Colonies::full, ThermostatColony::heatIn);
    }

    /** "Tells the heat from all heaters": there are none. */
    private static void heatWithoutRooms() {
        Check.due("19: heatIn(1) without rooms", new ThermostatColony().heatIn(1), 0);
        Check.due("19: heatIn(1000) without rooms", new ThermostatColony().heatIn(1000), 0);
    }

    /** "the heat from all heaters": of six rooms. */
    private static void heatFromAllHeaters() {
        ThermostatColony x = new ThermostatColony();
        for (int room = 0; room < 6; room++) {
            x.addRoom(500, 1 << room, 0, -40);
        }
        Check.due("19: all close in the first minute", x.heatIn(1), 0);
        Check.due("19: all heat in the second one", x.heatIn(2), 63);
        x.pass(2);
        Check.due("19: what they gave till now does not count", x.heatIn(1), 63);
        x.service(3);
        Check.due("19: one is open", x.heatIn(1), 63 - 8);
        ThermostatColony most = new ThermostatColony();
        for (int room = 0; room < 6; room++) {
            most.addRoom(500, 200, 50, -40);
        }
        Colonies.load(most, "0=-40");
        Check.due("19: the most that there can be", most.heatIn(1000), 6 * 999 * 200);
    }

    /** "in the next minutes" */
    private static void heatOfTheNextMinutesAlone() {
        ThermostatColony x = room(100, 200, 19);
        x.setNumber(CUTOUT, 22000);
        x.setThermostat(0, 30000, 100);
        Check.due("19: it closes", x.heatIn(1), 0);
        Check.due("19: 21000", x.heatIn(2), 200);
        Check.due("19: 23000, the cutout trips", x.heatIn(3), 400);
        Check.due("19: nothing more", x.heatIn(1000), 400);
        x.pass(2);
        Check.due("19: what is left of it", x.heatIn(1000), 200);
        x.pass(1);
        Check.due("19: nothing is left", x.heatIn(1000), 0);
    }

    /** "INVALID_ARGUMENT if there is no such room" */
    private static void finesOfNoRoom() {
        Edges.range("20: finesWith's room", 0, 5, Colonies::full, (x, room) -> x.finesWith(room, 100, 1));
        Edges.range("20: finesWith's room", 0, 1, Colonies::busy, (x, room) -> x.finesWith(room, 5000, 1000));
        Edges.refused("20: finesWith(0, 100, 1) without rooms", INVALID, Colonies::empty, x -> x.finesWith(0, 100, 1));
    }

    /** "band: 100 to 5000" */
    private static void finesBand100To5000() {
        Edges.range("20: finesWith's band", 100, 5000, Colonies::full, (x, band) -> x.finesWith(5, band, 1));
        Edges.range("20: finesWith's band", 100, 5000, Colonies::busy, (x, band) -> x.finesWith(0, band, 1000));
    }

    /** "minutes: 1 to 1000" */
    private static void fines1To1000Minutes() {
        Edges.range("20: finesWith's minutes", 1, 1000, Colonies::full, (x, minutes) -> x.finesWith(5, 100, minutes));
        Edges.range("20: finesWith's minutes", 1, 1000, Colonies::busy, (x, minutes) -> x.finesWith(0, 5000, minutes));
        ThermostatColony x = everyFourMinutes();
        x.setNumber(WELD_LIMIT, 9999);
        x.setNumber(FINE, 1);
        // 250 closings, of which the fiftieth welds it.
        ThermostatColony passed = everyFourMinutes();
        passed.setNumber(WELD_LIMIT, 9999);
        passed.setNumber(FINE, 1);
        passed.pass(500);
        passed.pass(500);
        Check.due("20: 1000 minutes", x.finesWith(0, 100, 1000), passed.room(0, 8));
        Check.due("20: 199 minutes", x.finesWith(0, 100, 199), 49);
    }

    /** "Returns the increase of its fines" */
    private static void finesAreTheIncrease() {
        ThermostatColony x = everyFourMinutes();
        Check.due("20: one closing", x.finesWith(0, 100, 4), 0);
        Check.due("20: two closings", x.finesWith(0, 100, 5), 7);
        x.pass(5);
        Check.due("20: fines till now", x.room(0, 8), 7);
        Check.due("20: no more", x.finesWith(0, 100, 3), 0);
        Check.due("20: one more", x.finesWith(0, 100, 4), 7);
        x.setNumber(FINE, 100);
        Check.due("20: one more of 100", x.finesWith(0, 100, 4), 100);
        x.setNumber(FINE, 0);
        Check.due("20: one more of 0", x.finesWith(0, 100, 1000), 0);
    }

    /** "in the next minutes": the first one and the last one count, the one behind it does not. */
    private static void finesOfTheLastMinute() {
        ThermostatColony x = everyFourMinutes();
        x.pass(4);
        Check.due("20: the next minute", x.finesWith(0, 100, 1), 7);
        Check.due("20: four minutes", x.finesWith(0, 100, 4), 7);
        Check.due("20: five minutes", x.finesWith(0, 100, 5), 14);
    }

    /** "the fines of a room .., if it had another band from now on" */
    private static void finesWithTheBandInOneRoom() {
        ThermostatColony x = everyFourMinutes();
        x.addRoom(100, 200, 5, 20);
        x.setThermostat(1, 20000, 100);
        x.setNumber(CYCLE_TIME, 10);
        Check.due("20: room 0 with its own band", x.finesWith(0, 100, 13), 21);
        Check.due("20: room 0 with another band", x.finesWith(0, 2000, 13), 0);
        Check.due("20: room 1 with its own band", x.finesWith(1, 100, 13), 21);
        Check.due("20: room 1 with another band", x.finesWith(1, 2000, 13), 0);
        Check.due("20: the band stays", x.room(1, 13), 100);
        x.setThermostat(1, 20000, 2000);
        Check.due("20: room 1 as if it had 100", x.finesWith(1, 100, 13), 21);
    }

    /** It has closed, and opens and closes again when its blade is at the edges. */
    private static ThermostatColony closedBefore(int heat) {
        ThermostatColony x = room(500, 1, 10);
        x.pass(1);
        x.service(0);
        x.warm(0, heat - 5000);
        return x;
    }

    /** "band: 100 to 5000": each of them, not the multiples of 100 alone. */
    private static void finesWithABandThatIsNoMultipleOf100() {
        // The blade is at 19002 in the next minute: it closes with 998, and not with 999.
        ThermostatColony x = closedBefore(9501);
        Check.due("20: band 998", x.finesWith(0, 998, 1), 7);
        Check.due("20: band 999", x.finesWith(0, 999, 1), 0);
        Check.due("20: band 997", x.finesWith(0, 997, 1), 7);
    }

    /** "INVALID_ARGUMENT if there is no such room" */
    private static void quietBandOfNoRoom() {
        for (int wrong : new int[] {-1, 6, Integer.MIN_VALUE, Integer.MAX_VALUE}) {
            Edges.refused("21: quietBand(" + wrong + ", 1)", INVALID, Colonies::full, x -> x.quietBand(wrong, 1));
        }
        Check.holds("21: quietBand(0, 1)", !Edges.isError(Colonies.full().quietBand(0, 1)));
        Check.holds("21: quietBand(5, 1)", !Edges.isError(Colonies.full().quietBand(5, 1)));
        Edges.refused("21: quietBand(2, 1) with two rooms", INVALID, Colonies::busy, x -> x.quietBand(2, 1));
        Edges.refused("21: quietBand(0, 1) without rooms", INVALID, Colonies::empty, x -> x.quietBand(0, 1));
    }

    /** "minutes: 1 to 300" */
    private static void quietBand1To300Minutes() {
        Edges.range("21: quietBand's minutes", 1, 300, Colonies::full, (x, minutes) -> x.quietBand(5, minutes));
        Edges.range("21: quietBand's minutes", 1, 300, Colonies::busy, (x, minutes) -> x.quietBand(0, minutes));
    }

    /** "the multiples of 100 from 100 to 5000": the first one */
    private static void quietBandIs100() {
        Check.due("21: a room in which nothing happens", room(100, 1, 20).quietBand(0, 300), 100);
        Check.due("21: at 19902", closedBefore(9951).quietBand(0, 1), 100);
        Check.due("21: at 19900", closedBefore(9950).quietBand(0, 1), 200);
    }

    /** "the multiples of 100 from 100 to 5000": the last one */
    private static void quietBandIs5000() {
        Check.due("21: at 15102", closedBefore(7551).quietBand(0, 1), 4900);
        Check.due("21: at 15100", closedBefore(7550).quietBand(0, 1), 5000);
        Check.due("21: at 15002", closedBefore(7501).quietBand(0, 1), 5000);
    }

    /** "NONE if there is none" */
    private static void quietBandIsNone() {
        Check.due("21: at 15000", closedBefore(7500).quietBand(0, 1), NONE);
        Check.due("21: at 15000, 300 minutes", closedBefore(7500).quietBand(0, 300), NONE);
        Check.due("21: far below", closedBefore(-7500).quietBand(0, 1), NONE);
    }

    /** "of the multiples of 100" */
    private static void quietBandIsAMultipleOf100() {
        Check.due("21: at 19450, where 551 is enough", closedBefore(9725).quietBand(0, 1), 600);
        Check.due("21: at 19402, where 599 is enough", closedBefore(9701).quietBand(0, 1), 600);
        Check.due("21: at 19400, where 601 is enough", closedBefore(9700).quietBand(0, 1), 700);
        ThermostatColony x = closedBefore(9725);
        x.setThermostat(0, 20000, 551);
        Check.due("21: its own band is none of them", x.quietBand(0, 1), 600);
    }

    /** "Finds the smallest band" */
    private static void quietBandIsTheSmallest() {
        ThermostatColony x = everyFourMinutes();
        int quiet = x.quietBand(0, 60);
        Check.due("21: no fines with it", x.finesWith(0, quiet, 60), 0);
        for (int band = 100; band < quiet; band += 100) {
            Check.holds("21: fines with " + band, x.finesWith(0, band, 60) > 0);
        }
        Check.holds("21: there is one", quiet > 100 && quiet <= 5000);
    }

    /** "would get no fines in the next minutes": the last one counts, the one behind it does not. */
    private static void quietBandOfTheLastMinute() {
        ThermostatColony x = everyFourMinutes();
        Check.due("21: the second closing is behind it", x.quietBand(0, 4), 100);
        Check.holds("21: the second closing is in it", x.quietBand(0, 5) > 100);
        x.pass(4);
        Check.due("21: 19000 is cold with the band 1000", x.finesWith(0, 1000, 1), 7);
        Check.due("21: and is not with the band 1100", x.finesWith(0, 1100, 1), 0);
        Check.due("21: the next minute", x.quietBand(0, 1), 1100);
    }

    /** "with which a room would get no fines": the fines of other rooms, and those of before, do not count. */
    private static void quietBandLooksAtOneRoom() {
        ThermostatColony x = everyFourMinutes();
        x.addRoom(100, 1, 0, 20);
        x.pass(9);
        Check.due("21: a quiet room beside another one", x.quietBand(1, 300), 100);
        Check.due("21: fines of before", x.room(0, 8), 14);
        Check.due("21: none in the next three minutes", x.quietBand(0, 3), 100);
    }

    /** "4 fine (0 to 100, 7)": with 0 the fines do not increase. */
    private static void quietBandWithTheFineZero() {
        ThermostatColony x = everyFourMinutes();
        x.setNumber(FINE, 0);
        Check.due("21: fine 0", x.quietBand(0, 300), 100);
        x.setNumber(FINE, 1);
        Check.holds("21: fine 1", x.quietBand(0, 300) > 100);
    }
}

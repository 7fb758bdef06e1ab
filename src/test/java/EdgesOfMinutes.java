/**
 * The edges that the document names for promise 17, with "A minute". A test stands under the
 * document's words for it.
 */
public final class EdgesOfMinutes {
    private static final int INVALID = Colonies.INVALID;
    private static final int ILLEGAL = Colonies.ILLEGAL;
    private static final int FULL = Colonies.FULL;
    private static final int NONE = Colonies.NONE;

    private static final int LAG = 0;
    private static final int WELD_LIMIT = 1;
    private static final int ATTEMPTS = 2;
    private static final int CYCLE_TIME = 3;
    private static final int FINE = 4;
    private static final int CUTOUT = 5;
    private static final int SUSPECT_TIME = 6;

    public static void main(String[] args) {
        minutes1To500();
        noRooms();
        timeUpTo20000();
        timeAndMinutesPassTogether();
        theHeaterWorksWhenClosedAndIn();
        theHeaterWorksBehindTheMinuteOfTheClosing();
        theHeaterStopsBehindTheMinuteOfTheCutout();
        theLeakIsRoundedTowardZero();
        theLinkIsRoundedTowardZero();
        noDifferenceNoFlow();
        whatALinkTakesItGives();
        allHeatsChangeAtTheSameTime();
        theLargestLinksAndLeaks();
        theCutoutTripsAboveItsTemperature();
        theLowestAndTheHighestCutout();
        aTrippedCutoutStaysSo();
        theCutoutLooksAtTheRoomNotAtTheBlade();
        theBladeIsRoundedTowardZero();
        theSlowestAndTheQuickestBlade();
        theBladeFollowsTheNewTemperature();
        closesAtSetPointLessBand();
        closesAtTheLowestThreshold();
        opensAtSetPointPlusBand();
        opensAtTheHighestThreshold();
        anOpenContactStaysOpenWhenItIsHot();
        aClosedContactStaysClosedWhenItIsCold();
        weldsAtTheWeldLimit();
        weldsAtTheLeastLimit();
        weldsAtTheMostLimit();
        theWearIsThePowerOfTheRoom();
        noFineForTheFirstClosing();
        finedBeforeTheCycleTimeIsOver();
        noCycleTimeNoFine();
        theLeastAndTheMostFine();
        theLatestClosingCounts();
        breaksFreeAtTheNumberOfAttempts();
        breaksFreeWithMoreAttemptsThanNeeded();
        theWearIsHalvedRoundedDown();
        attemptsAreKeptWhileItIsNotHot();
        suspectMinutesFromSetPointPlusBand();
        suspectMinutesOfAnOpenContact();
        suspectAtTheSuspectTime();
        theTimeIncreasesByOne();
        theOutsideAtTheBeginningOfTheMinute();
        eachSwitchCounts();
        Check.end("EdgesOfMinutes");
    }

    /** A room that does not leak, with a blade that follows at once. */
    private static ThermostatColony room(int capacity, int power, int degrees) {
        return Colonies.quickBlade(capacity, power, 0, degrees);
    }

    /** "minutes: 1 to 500" */
    private static void minutes1To500() {
        Edges.range("17: pass", 1, 500, Colonies::busy, ThermostatColony::pass);
        Edges.range("17: pass", 1, 500, Colonies::full, ThermostatColony::pass);
        ThermostatColony x = room(100, 1, 20);
        x.pass(1);
        Check.due("17: time after pass(1)", x.count(8), 1);
        x.pass(500);
        Check.due("17: time after pass(500)", x.count(8), 501);
    }

    /** "ILLEGAL_STATE if there are no rooms" */
    private static void noRooms() {
        Edges.refused("17: pass(1) without rooms", ILLEGAL, Colonies::empty, x -> x.pass(1));
        Edges.refused("17: pass(500) without rooms", ILLEGAL, Colonies::empty, x -> x.pass(500));
        ThermostatColony x = new ThermostatColony();
        x.addRoom(10, 1, 0, 20);
        Check.due("17: with one room", x.pass(1), 0);
        x.undo();
        x.undo();
        Check.due("17: when undo() has taken the room away", x.pass(1), ILLEGAL);
    }

    private static ThermostatColony at19500() {
        ThermostatColony x = room(100, 1, 20);
        for (int i = 0; i < 39; i++) {
            x.pass(500);
        }
        return x;
    }

    /** "CAPACITY_EXCEEDED if the time would be greater than 20000" */
    private static void timeUpTo20000() {
        ThermostatColony x = at19500();
        Check.due("17: up to 20000", x.pass(500), 0);
        Check.due("17: the time then", x.count(8), 20000);
        Edges.refused("17: a minute behind 20000", FULL, Colonies::late, y -> y.pass(1));
        Edges.refused("17: 500 minutes behind 20000", FULL, Colonies::late, y -> y.pass(500));
        ThermostatColony z = at19500();
        z.pass(499);
        Check.due("17: from 19999 to 20001", z.pass(2), FULL);
        Check.due("17: from 19999 far beyond", z.pass(500), FULL);
        Check.due("17: the time stays", z.count(8), 19999);
        Check.due("17: from 19999 to 20000", z.pass(1), 0);
        Check.due("17: from 20000 to 20001", z.pass(1), FULL);
        z.undo();
        Check.due("17: undo() brings a minute back", z.pass(1), 0);
        ThermostatColony w = at19500();
        w.pass(1);
        Check.due("17: from 19501 to 20001", w.pass(500), FULL);
        Check.due("17: from 19501 to 20000", w.pass(499), 0);
    }

    /** Minutes that pass one by one are the same as those that pass together. */
    private static void timeAndMinutesPassTogether() {
        ThermostatColony together = Colonies.full();
        ThermostatColony oneByOne = Colonies.full();
        int switches = together.pass(100);
        int sum = 0;
        for (int minute = 0; minute < 100; minute++) {
            sum += oneByOne.pass(1);
        }
        Check.due("17: switches one by one", sum, switches);
        Check.holds("17: minutes one by one", Colonies.portraitOfState(together).equals(Colonies.portraitOfState(oneByOne)));
    }

    /** "the power of its heater is added if its contact is closed and its cutout is in" */
    private static void theHeaterWorksWhenClosedAndIn() {
        ThermostatColony closedAndIn = room(500, 7, 18);
        closedAndIn.pass(1);
        closedAndIn.pass(1);
        Check.due("17: closed and in", closedAndIn.book(0, 1), 7);
        ThermostatColony openAndIn = room(500, 7, 20);
        openAndIn.pass(2);
        Check.due("17: open and in", openAndIn.book(0, 1), 0);
        ThermostatColony closedAndTripped = room(500, 7, 30);
        closedAndTripped.setNumber(CUTOUT, 20000);
        closedAndTripped.setThermostat(0, 35000, 100);
        closedAndTripped.pass(2);
        Check.due("17: closed", closedAndTripped.room(0, 3), 1);
        Check.due("17: closed and tripped", closedAndTripped.book(0, 1), 0);
        ThermostatColony openAndTripped = room(500, 7, 30);
        openAndTripped.setNumber(CUTOUT, 20000);
        openAndTripped.pass(2);
        Check.due("17: open", openAndTripped.room(0, 3), 0);
        Check.due("17: open and tripped", openAndTripped.book(0, 1), 0);
    }

    /** "first all heats change .. Then, for each room": a contact that closes heats from the next minute on. */
    private static void theHeaterWorksBehindTheMinuteOfTheClosing() {
        ThermostatColony x = room(100, 50, 18);
        x.pass(1);
        Check.due("17: it has closed", x.room(0, 3), 1);
        Check.due("17: no heat in this minute", x.book(0, 1), 0);
        x.setThermostat(0, 5000, 100);
        x.pass(1);
        Check.due("17: it has opened", x.room(0, 3), 0);
        Check.due("17: heat in this minute", x.book(0, 1), 50);
        x.pass(1);
        Check.due("17: no heat in the next one", x.book(0, 1), 50);
    }

    /** "first all heats change .. Then .. its cutout trips" */
    private static void theHeaterStopsBehindTheMinuteOfTheCutout() {
        ThermostatColony x = room(100, 200, 18);
        x.setNumber(CUTOUT, 20000);
        x.setThermostat(0, 35000, 100);
        x.pass(2);
        Check.due("17: at the cutout temperature", x.room(0, 0), 20000);
        x.pass(1);
        Check.due("17: it has tripped", x.room(0, 10), 1);
        Check.due("17: heat in this minute", x.book(0, 1), 400);
        x.pass(1);
        Check.due("17: no heat in the next one", x.book(0, 1), 400);
    }

    private static int leaked(int capacity, int leak, int heat) {
        ThermostatColony x = new ThermostatColony();
        x.addRoom(capacity, 1, leak, 0);
        x.warm(0, heat);
        x.pass(1);
        Check.due("17: heat of " + heat + " less the leak", x.room(0, 1), heat - x.book(0, 2));
        return x.book(0, 2);
    }

    /** "leak * (temperature - outside) / 1000 is taken away", ""/" is the division of integers rounded toward zero" */
    private static void theLeakIsRoundedTowardZero() {
        Check.due("17: 1 * 998 / 1000", leaked(500, 1, 499), 0);
        Check.due("17: 1 * 1000 / 1000", leaked(500, 1, 500), 1);
        Check.due("17: 1 * 1998 / 1000", leaked(500, 1, 999), 1);
        Check.due("17: 1 * -998 / 1000", leaked(500, 1, -499), 0);
        Check.due("17: 1 * -1000 / 1000", leaked(500, 1, -500), -1);
        Check.due("17: 1 * -1998 / 1000", leaked(500, 1, -999), -1);
        Check.due("17: 1 * -2000 / 1000", leaked(500, 1, -1000), -2);
        Check.due("17: 3 * 333 / 1000", leaked(30, 3, 10), 0);
        Check.due("17: 3 * -334 / 1000", leaked(30, 3, -10), -1);
        Check.due("17: 50 * 18 / 1000", leaked(500, 50, 9), 0);
        Check.due("17: 50 * 20 / 1000", leaked(500, 50, 10), 1);
        Check.due("17: no leak", leaked(500, 0, 50000), 0);
    }

    private static int linked(int capacity, int link, int heat) {
        ThermostatColony x = new ThermostatColony();
        x.addRoom(capacity, 1, 0, 0);
        x.addRoom(capacity, 1, 0, 0);
        x.setLink(0, 1, link);
        x.warm(0, heat);
        x.pass(1);
        Check.due("17: the other room gets just that", x.book(1, 3), -x.book(0, 3));
        Check.due("17: heat of " + heat + " less the link", x.room(0, 1), heat - x.book(0, 3));
        Check.due("17: heat of the other room", x.room(1, 1), x.book(0, 3));
        return x.book(0, 3);
    }

    /** "for each other room, link * (temperature - its temperature) / 1000 is taken away" */
    private static void theLinkIsRoundedTowardZero() {
        Check.due("17: link 1 * 998 / 1000", linked(500, 1, 499), 0);
        Check.due("17: link 1 * 1000 / 1000", linked(500, 1, 500), 1);
        Check.due("17: link 1 * 1998 / 1000", linked(500, 1, 999), 1);
        Check.due("17: link 1 * -998 / 1000", linked(500, 1, -499), 0);
        Check.due("17: link 1 * -1000 / 1000", linked(500, 1, -500), -1);
        Check.due("17: link 1 * -1998 / 1000", linked(500, 1, -999), -1);
        Check.due("17: link 3 * -334 / 1000", linked(30, 3, -10), -1);
        Check.due("17: link 50 * 20 / 1000", linked(500, 50, 10), 1);
        Check.due("17: link 50 * -18 / 1000", linked(500, 50, -9), 0);
        Check.due("17: link 0", linked(500, 0, 50000), 0);
    }

    /** "heat in a minute for each degree of difference": none without a difference. */
    private static void noDifferenceNoFlow() {
        ThermostatColony x = new ThermostatColony();
        x.addRoom(100, 1, 20, 25);
        x.addRoom(500, 1, 50, 25);
        x.setLink(0, 1, 30);
        Colonies.load(x, "0=25");
        x.pass(100);
        Check.due("17: heat of the first room", x.room(0, 1), 2500);
        Check.due("17: heat of the second room", x.room(1, 1), 12500);
        Check.due("17: to the outside", x.book(0, 2), 0);
        Check.due("17: to the other room", x.book(1, 3), 0);
    }

    /** "(So what a link takes from one room it gives to the other one.)" */
    private static void whatALinkTakesItGives() {
        ThermostatColony x = new ThermostatColony();
        for (int room = 0; room < 6; room++) {
            x.addRoom(30 + 17 * room, 1, 0, 37 - 13 * room);
        }
        for (int first = 0; first < 6; first++) {
            for (int second = 0; second < first; second++) {
                x.setLink(first, second, 1 + (first + second) % 3);
            }
        }
        for (int minute = 0; minute < 20; minute++) {
            x.pass(1);
            int sum = 0;
            for (int room = 0; room < 6; room++) {
                sum += x.book(room, 3);
            }
            Check.due("17: sum of all that went to other rooms by " + minute, sum, 0);
        }
    }

    /** "first all heats change at the same time, by the temperatures at its beginning" */
    private static void allHeatsChangeAtTheSameTime() {
        ThermostatColony x = new ThermostatColony();
        x.addRoom(10, 1, 0, 40);
        x.addRoom(30, 1, 5, 0);
        x.addRoom(10, 1, 0, -40);
        x.setLink(0, 1, 5);
        x.setLink(1, 2, 5);
        Colonies.load(x, "0=10");
        x.pass(1);
        Check.due("17: 400 - 5 * 40", x.room(0, 1), 200);
        Check.due("17: 0 + 5 * 10 + 5 * 40 - 5 * 40", x.room(1, 1), 50);
        Check.due("17: -400 + 5 * 40", x.room(2, 1), -200);
        x.pass(1);
        // The temperatures are 20000, 1666 and -20000: 91 and 108 flow, 41 come in. The blade of the first room
        // is still at 35000, so its heater does not work; those of the others do.
        Check.due("17: 200 - 91", x.room(0, 1), 109);
        Check.due("17: 50 + 1 + 41 + 91 - 108", x.room(1, 1), 75);
        Check.due("17: -200 + 1 + 108", x.room(2, 1), -91);
    }

    /** "The leak and all links of a room together are at most half of its capacity.": at the most, far apart. */
    private static void theLargestLinksAndLeaks() {
        ThermostatColony x = new ThermostatColony();
        x.addRoom(500, 200, 50, 0);
        x.addRoom(500, 200, 0, 0);
        x.setLink(0, 1, 50);
        for (int i = 0; i < 2; i++) {
            x.warm(0, 50000);
            x.warm(1, -50000);
        }
        Colonies.load(x, "0=-40");
        x.pass(1);
        Check.due("17: 50 * 240000 / 1000", x.book(0, 2), 12000);
        Check.due("17: 50 * 400000 / 1000", x.book(0, 3), 20000);
        Check.due("17: 100000 - 32000", x.room(0, 1), 68000);
        Check.due("17: -100000 + 20000", x.room(1, 1), -80000);
    }

    /** "(a) if its temperature is above the cutout temperature, its cutout trips" */
    private static void theCutoutTripsAboveItsTemperature() {
        for (int cutout : new int[] {29999, 30000, 30001}) {
            ThermostatColony x = room(500, 1, 30);
            x.setNumber(CUTOUT, cutout);
            x.pass(1);
            Check.due("17: 30000 with the cutout at " + cutout, x.room(0, 10), cutout < 30000 ? 1 : 0);
        }
    }

    private static int trippedAt(int heat, int cutout) {
        ThermostatColony x = room(500, 1, 0);
        x.warm(0, heat);
        x.setNumber(CUTOUT, cutout);
        x.pass(1);
        return x.room(0, 10);
    }

    /** "5 cutout temperature (20000 to 90000, 45000)" */
    private static void theLowestAndTheHighestCutout() {
        Check.due("17: 20000 at the lowest", trippedAt(10000, 20000), 0);
        Check.due("17: 20002 at the lowest", trippedAt(10001, 20000), 1);
        Check.due("17: 90000 at the highest", trippedAt(45000, 90000), 0);
        Check.due("17: 90002 at the highest", trippedAt(45001, 90000), 1);
        Check.due("17: 45000 at the first", trippedAt(22500, 45000), 0);
        Check.due("17: 45002 at the first", trippedAt(22501, 45000), 1);
    }

    /** "a cutout, which is in or out (tripped)": only resetCutout() puts it in again. */
    private static void aTrippedCutoutStaysSo() {
        ThermostatColony x = room(500, 1, 30);
        x.setNumber(CUTOUT, 29999);
        x.pass(1);
        x.warm(0, -10000);
        x.setNumber(CUTOUT, 90000);
        x.pass(10);
        Check.due("17: tripped in the cold", x.room(0, 10), 1);
        x.service(0);
        Check.due("17: tripped after service(0)", x.room(0, 10), 1);
        Check.due("17: no heat", x.book(0, 1), 0);
        x.resetCutout(0);
        x.pass(2);
        Check.due("17: heat then", x.book(0, 1), 1);
    }

    /** "if its temperature is above": the room's, while the blade lags behind. */
    private static void theCutoutLooksAtTheRoomNotAtTheBlade() {
        ThermostatColony x = room(500, 1, 0);
        x.setNumber(LAG, 1);
        x.warm(0, 22501);
        x.pass(1);
        Check.due("17: the blade", x.room(0, 2), 450);
        Check.due("17: tripped", x.room(0, 10), 1);
        x.resetCutout(0);
        x.warm(0, -22501);
        x.setNumber(LAG, 100);
        x.pass(1);
        Check.due("17: the blade of a cold room", x.room(0, 2), 0);
    }

    private static int bladeAfter(int lag, int capacity, int heat) {
        ThermostatColony x = new ThermostatColony();
        x.setNumber(LAG, lag);
        x.addRoom(capacity, 1, 0, 0);
        x.warm(0, heat);
        x.pass(1);
        return x.room(0, 2);
    }

    /** "(b) The blade changes by (temperature - blade) * lag / 100." */
    private static void theBladeIsRoundedTowardZero() {
        Check.due("17: 98 * 1 / 100", bladeAfter(1, 500, 49), 0);
        Check.due("17: 100 * 1 / 100", bladeAfter(1, 500, 50), 1);
        Check.due("17: 198 * 1 / 100", bladeAfter(1, 500, 99), 1);
        Check.due("17: -98 * 1 / 100", bladeAfter(1, 500, -49), 0);
        Check.due("17: -100 * 1 / 100", bladeAfter(1, 500, -50), -1);
        Check.due("17: -198 * 1 / 100", bladeAfter(1, 500, -99), -1);
        Check.due("17: -200 * 1 / 100", bladeAfter(1, 500, -100), -2);
        Check.due("17: 2 * 25 / 100", bladeAfter(25, 500, 1), 0);
        Check.due("17: -2 * 25 / 100", bladeAfter(25, 500, -1), 0);
        Check.due("17: -6 * 25 / 100", bladeAfter(25, 500, -3), -1);
        Check.due("17: 6 * 25 / 100", bladeAfter(25, 500, 3), 1);
    }

    /** "0 lag (1 to 100, 25)" */
    private static void theSlowestAndTheQuickestBlade() {
        Check.due("17: lag 1", bladeAfter(1, 500, 50000), 1000);
        Check.due("17: lag 100", bladeAfter(100, 500, 50000), 100000);
        Check.due("17: lag 99", bladeAfter(99, 500, 50000), 99000);
        Check.due("17: lag 100 below 0", bladeAfter(100, 499, -1), -3);
        Check.due("17: lag 99 below 0", bladeAfter(99, 499, -1), -2);
    }

    /** "Then, for each room": the temperature is the one that the minute has brought. */
    private static void theBladeFollowsTheNewTemperature() {
        ThermostatColony x = new ThermostatColony();
        x.setNumber(LAG, 100);
        x.addRoom(100, 1, 50, 40);
        x.pass(1);
        Check.due("17: the temperature", x.room(0, 0), 20000);
        Check.due("17: the blade", x.room(0, 2), 20000);
    }

    private static int closedWith(int heat, int point, int band) {
        ThermostatColony x = room(500, 1, 0);
        x.warm(0, heat);
        x.setThermostat(0, point, band);
        int switches = x.pass(1);
        Check.due("17: closed if it has switched", x.room(0, 3), switches);
        Check.due("17: closings if it has switched", x.room(0, 7), switches);
        Check.due("17: the latest closing if it has switched", x.room(0, 11), switches == 1 ? 0 : NONE);
        return switches;
    }

    /** "(c) If the contact is open, and the blade is at most the set point less the band, it closes" */
    private static void closesAtSetPointLessBand() {
        Check.due("17: 19000 at 20000 less 1000", closedWith(9500, 20000, 1000), 1);
        Check.due("17: 19000 at 19999 less 1000", closedWith(9500, 19999, 1000), 0);
        Check.due("17: 19000 at 20000 less 1001", closedWith(9500, 20000, 1001), 0);
        Check.due("17: 19002 at 20000 less 1000", closedWith(9501, 20000, 1000), 0);
        Check.due("17: 18998 at 20000 less 1000", closedWith(9499, 20000, 1000), 1);
        Check.due("17: far below", closedWith(-50000, 20000, 1000), 1);
        Check.due("17: far above", closedWith(50000, 20000, 1000), 0);
    }

    /** "a set point, 5000 to 35000, and a band, 100 to 5000": the lowest and the highest at which it closes. */
    private static void closesAtTheLowestThreshold() {
        Check.due("17: 0 at 5000 less 5000", closedWith(0, 5000, 5000), 1);
        Check.due("17: 2 at 5000 less 5000", closedWith(1, 5000, 5000), 0);
        Check.due("17: -2 at 5000 less 5000", closedWith(-1, 5000, 5000), 1);
        Check.due("17: 34900 at 35000 less 100", closedWith(17450, 35000, 100), 1);
        Check.due("17: 34902 at 35000 less 100", closedWith(17451, 35000, 100), 0);
    }

    /** Answers 1 if a closed contact opens in the next minute. */
    private static int opensWith(int heat, int point, int band) {
        ThermostatColony x = room(500, 1, 18);
        x.pass(1);
        Check.due("17: closed", x.room(0, 3), 1);
        // The heater adds its 1.
        x.warm(0, heat - 9000 - 1);
        x.setThermostat(0, point, band);
        int switches = x.pass(1);
        Check.due("17: the heat is as meant", x.room(0, 1), heat);
        Check.due("17: closed if it has not switched", x.room(0, 3), 1 - switches);
        Check.due("17: closings are not more", x.room(0, 7), 1);
        Check.due("17: suspect minutes of what is not welded", x.room(0, 9), 0);
        return switches;
    }

    /** "(d) .. if the contact is closed, and the blade is at least the set point plus the band" */
    private static void opensAtSetPointPlusBand() {
        Check.due("17: 21000 at 20000 plus 1000", opensWith(10500, 20000, 1000), 1);
        Check.due("17: 21000 at 20001 plus 1000", opensWith(10500, 20001, 1000), 0);
        Check.due("17: 21000 at 20000 plus 1001", opensWith(10500, 20000, 1001), 0);
        Check.due("17: 20998 at 20000 plus 1000", opensWith(10499, 20000, 1000), 0);
        Check.due("17: 21002 at 20000 plus 1000", opensWith(10501, 20000, 1000), 1);
        Check.due("17: far above", opensWith(40000, 20000, 1000), 1);
        Check.due("17: far below", opensWith(-30000, 20000, 1000), 0);
    }

    /** "a set point, 5000 to 35000, and a band, 100 to 5000": the highest and the lowest at which it opens. */
    private static void opensAtTheHighestThreshold() {
        Check.due("17: 40000 at 35000 plus 5000", opensWith(20000, 35000, 5000), 1);
        Check.due("17: 39998 at 35000 plus 5000", opensWith(19999, 35000, 5000), 0);
        Check.due("17: 5100 at 5000 plus 100", opensWith(2550, 5000, 100), 1);
        Check.due("17: 5098 at 5000 plus 100", opensWith(2549, 5000, 100), 0);
    }

    /** "Otherwise, if the contact is closed": an open one does nothing when it is hot. */
    private static void anOpenContactStaysOpenWhenItIsHot() {
        ThermostatColony x = room(100, 1, 40);
        Check.due("17: an open contact in the heat", x.pass(100), 0);
        Check.due("17: open", x.room(0, 3), 0);
        Check.due("17: attempts", x.room(0, 6), 0);
        Check.due("17: closings", x.room(0, 7), 0);
    }

    /** "If the contact is open": a closed one does nothing when it is cold. */
    private static void aClosedContactStaysClosedWhenItIsCold() {
        ThermostatColony x = room(500, 1, -40);
        Check.due("17: it closes", x.pass(1), 1);
        Check.due("17: a closed contact in the cold", x.pass(100), 0);
        Check.due("17: closings", x.room(0, 7), 1);
        Check.due("17: wear", x.room(0, 5), 1);
        Check.due("17: the latest closing", x.room(0, 11), 0);
        Check.due("17: fines", x.room(0, 8), 0);
    }

    private static int weldedWith(int power, int limit) {
        ThermostatColony x = room(500, power, 18);
        x.setNumber(WELD_LIMIT, limit);
        x.pass(1);
        Check.due("17: wear with the power " + power, x.room(0, 5), power);
        return x.room(0, 4);
    }

    /** "the wear increases by the power, and if the wear is the weld limit or more then, it is welded" */
    private static void weldsAtTheWeldLimit() {
        Check.due("17: wear 100, limit 100", weldedWith(100, 100), 1);
        Check.due("17: wear 100, limit 101", weldedWith(100, 101), 0);
        Check.due("17: wear 100, limit 99", weldedWith(100, 99), 1);
        Check.due("17: wear 200, limit 1000", weldedWith(200, 1000), 0);
    }

    /** "1 weld limit (1 to 9999, 1000)": the least */
    private static void weldsAtTheLeastLimit() {
        Check.due("17: wear 1, limit 1", weldedWith(1, 1), 1);
        Check.due("17: wear 1, limit 2", weldedWith(1, 2), 0);
        Check.due("17: wear 200, limit 1", weldedWith(200, 1), 1);
    }

    /** Closes in every second minute, and opens in those between, when it is moved to and fro. */
    private static void closeTimes(ThermostatColony x, int times) {
        for (int i = 0; i < times; i++) {
            x.setThermostat(0, 35000, 100);
            x.pass(1);
            x.setThermostat(0, 5000, 100);
            x.pass(1);
        }
    }

    /** "1 weld limit (1 to 9999, 1000)": the most, which 99 closings with the power 101 make. */
    private static void weldsAtTheMostLimit() {
        ThermostatColony x = room(500, 101, 0);
        x.setNumber(WELD_LIMIT, 9999);
        x.setNumber(CUTOUT, 20000);
        x.warm(0, 10001);
        closeTimes(x, 98);
        Check.due("17: wear 9898, limit 9999", x.room(0, 4), 0);
        Check.due("17: wear of 98 closings", x.room(0, 5), 9898);
        x.setThermostat(0, 35000, 100);
        x.pass(1);
        Check.due("17: wear of 99 closings", x.room(0, 5), 9999);
        Check.due("17: wear 9999, limit 9999", x.room(0, 4), 1);
    }

    /** "the wear increases by the power" */
    private static void theWearIsThePowerOfTheRoom() {
        for (int power : new int[] {1, 200}) {
            ThermostatColony x = room(500, power, 10);
            closeTimes(x, 4);
            Check.due("17: wear of four closings with " + power, x.room(0, 5), 4 * power);
            Check.due("17: four closings", x.room(0, 7), 4);
        }
    }

    /** "if there was a closing before": not for the first one, at whatever time it is. */
    private static void noFineForTheFirstClosing() {
        for (int time : new int[] {0, 1, 5, 119}) {
            ThermostatColony x = room(500, 1, 20);
            x.setNumber(CYCLE_TIME, 120);
            for (int minute = 0; minute < time; minute++) {
                x.pass(1);
            }
            x.setThermostat(0, 35000, 100);
            x.pass(1);
            Check.due("17: the first closing", x.room(0, 11), time);
            Check.due("17: its fine", x.room(0, 8), 0);
        }
    }

    /** The fines of a room that closes for the second time that many minutes after the first time. */
    private static int finesAfter(int gap, int cycleTime, int fine) {
        ThermostatColony x = room(500, 1, 10);
        x.setNumber(CYCLE_TIME, cycleTime);
        x.setNumber(FINE, fine);
        x.pass(1);
        if (gap == 1) {
            x.service(0);
        } else {
            x.setThermostat(0, 5000, 100);
            x.pass(gap - 1);
            x.setThermostat(0, 20000, 1000);
        }
        x.pass(1);
        Check.due("17: the second closing", x.room(0, 7), 2);
        Check.due("17: its time", x.room(0, 11), gap);
        Check.due("17: all fines", x.count(11), x.room(0, 8));
        return x.room(0, 8);
    }

    /** "less than the cycle time ago (in minutes, counted from the time of that closing to this one)" */
    private static void finedBeforeTheCycleTimeIsOver() {
        for (int cycleTime : new int[] {2, 3, 10, 119, 120}) {
            String with = " with the cycle time " + cycleTime;
            Check.due("17: a minute too early" + with, finesAfter(cycleTime - 1, cycleTime, 7), 7);
            Check.due("17: just in time" + with, finesAfter(cycleTime, cycleTime, 7), 0);
            Check.due("17: a minute later" + with, finesAfter(cycleTime + 1, cycleTime, 7), 0);
        }
        Check.due("17: far too early", finesAfter(1, 120, 7), 7);
        Check.due("17: far later", finesAfter(400, 120, 7), 0);
    }

    /** "3 cycle time (0 to 120, 10)": no closing is less than a minute behind another one. */
    private static void noCycleTimeNoFine() {
        Check.due("17: cycle time 0, a minute later", finesAfter(1, 0, 7), 0);
        Check.due("17: cycle time 1, a minute later", finesAfter(1, 1, 7), 0);
        Check.due("17: cycle time 2, a minute later", finesAfter(1, 2, 7), 7);
    }

    /** "4 fine (0 to 100, 7)" */
    private static void theLeastAndTheMostFine() {
        Check.due("17: fine 0", finesAfter(2, 10, 0), 0);
        Check.due("17: fine 1", finesAfter(2, 10, 1), 1);
        Check.due("17: fine 100", finesAfter(2, 10, 100), 100);
        ThermostatColony x = room(500, 1, 10);
        x.setNumber(FINE, 100);
        closeTimes(x, 11);
        Check.due("17: ten fines", x.room(0, 8), 1000);
    }

    /** "counted from the time of that closing to this one": of the latest closing, not of the first. */
    private static void theLatestClosingCounts() {
        ThermostatColony x = room(500, 1, 10);
        x.setNumber(CYCLE_TIME, 3);
        for (int i = 0; i < 4; i++) {
            x.pass(1);
            x.service(0);
            Check.due("17: fines of closings each minute", x.room(0, 8), 7 * i);
        }
        x.setThermostat(0, 5000, 100);
        x.pass(2);
        x.setThermostat(0, 20000, 1000);
        x.pass(1);
        Check.due("17: three minutes behind the fourth one", x.room(0, 11), 6);
        Check.due("17: fines then", x.room(0, 8), 21);
    }

    /** Welded and hot from the next minute on. */
    private static ThermostatColony weldedAndHot(int power, int attempts) {
        ThermostatColony x = room(500, power, 18);
        x.setNumber(WELD_LIMIT, 1);
        x.setNumber(ATTEMPTS, attempts);
        x.pass(1);
        x.setThermostat(0, 5000, 100);
        return x;
    }

    /** "if they are as many as the number of attempts to break free then (or more), it breaks free" */
    private static void breaksFreeAtTheNumberOfAttempts() {
        for (int attempts : new int[] {1, 2, 5, 49, 50}) {
            ThermostatColony x = weldedAndHot(10, attempts);
            String with = " with " + attempts + " attempts";
            for (int made = 1; made < attempts; made++) {
                Check.due("17: attempt " + made + with, x.pass(1), 0);
                Check.due("17: attempts" + with, x.room(0, 6), made);
                Check.due("17: closed" + with, x.room(0, 3), 1);
                Check.due("17: welded" + with, x.room(0, 4), 1);
            }
            Check.due("17: wear before" + with, x.room(0, 5), 10);
            Check.due("17: the last attempt" + with, x.pass(1), 1);
            Check.due("17: open" + with, x.room(0, 3), 0);
            Check.due("17: not welded" + with, x.room(0, 4), 0);
            Check.due("17: no attempts" + with, x.room(0, 6), 0);
            Check.due("17: half of the wear" + with, x.room(0, 5), 5);
            Check.due("17: closings stay" + with, x.room(0, 7), 1);
        }
    }

    /** "(or more)" */
    private static void breaksFreeWithMoreAttemptsThanNeeded() {
        for (int lowered : new int[] {1, 2, 3, 4}) {
            ThermostatColony x = weldedAndHot(10, 5);
            x.pass(3);
            x.setNumber(ATTEMPTS, lowered);
            Check.due("17: the fourth attempt of " + lowered, x.pass(1), 1);
            Check.due("17: attempts then", x.room(0, 6), 0);
        }
        ThermostatColony x = weldedAndHot(10, 5);
        x.pass(3);
        x.setNumber(ATTEMPTS, 6);
        Check.due("17: the fourth and fifth attempt of 6", x.pass(2), 0);
        Check.due("17: the sixth one", x.pass(1), 1);
    }

    /** "and the wear is halved (rounded down)" */
    private static void theWearIsHalvedRoundedDown() {
        int[][] halves = {{1, 0}, {2, 1}, {3, 1}, {199, 99}, {200, 100}};
        for (int[] row : halves) {
            ThermostatColony x = weldedAndHot(row[0], 1);
            x.pass(1);
            Check.due("17: half of " + row[0], x.room(0, 5), row[1]);
        }
    }

    /** "it tries to open": only when it is hot; the attempts add up. */
    private static void attemptsAreKeptWhileItIsNotHot() {
        ThermostatColony x = weldedAndHot(10, 3);
        x.pass(2);
        x.setThermostat(0, 20000, 1000);
        x.pass(5);
        Check.due("17: attempts while it is not hot", x.room(0, 6), 2);
        x.setThermostat(0, 5000, 100);
        Check.due("17: the third attempt", x.pass(1), 1);
    }

    /** "(e) If the contact is closed then, and the blade is at least the set point plus the band" */
    private static void suspectMinutesFromSetPointPlusBand() {
        ThermostatColony x = weldedAndHot(1, 50);
        // The heat is 9000, and 1 more in each minute: 18002 in the first one.
        x.setThermostat(0, 17902, 100);
        x.pass(1);
        Check.due("17: at the set point plus the band", x.room(0, 9), 1);
        Check.due("17: an attempt there", x.room(0, 6), 1);
        x.pass(2);
        Check.due("17: above it", x.room(0, 9), 3);
        x.setThermostat(0, 17909, 100);
        x.pass(1);
        Check.due("17: the temperature", x.room(0, 0), 18008);
        Check.due("17: 1 below it", x.room(0, 9), 0);
        Check.due("17: no attempt there", x.room(0, 6), 3);
        x.pass(1);
        Check.due("17: from 0 again", x.room(0, 9), 1);
    }

    /** "otherwise they are 0" */
    private static void suspectMinutesOfAnOpenContact() {
        ThermostatColony x = weldedAndHot(10, 3);
        x.pass(2);
        Check.due("17: closed and hot", x.room(0, 9), 2);
        x.pass(1);
        Check.due("17: in the minute in which it opens", x.room(0, 9), 0);
        x.pass(1);
        Check.due("17: open and hot", x.room(0, 9), 0);
    }

    /** "A room is suspect if its suspect minutes are the suspect time or more." */
    private static void suspectAtTheSuspectTime() {
        for (int time : new int[] {1, 2, 15, 49}) {
            ThermostatColony x = weldedAndHot(1, 50);
            x.setNumber(SUSPECT_TIME, time);
            Check.due("17: suspect at 0 of " + time, x.count(10), 0);
            if (time > 1) {
                x.pass(time - 1);
                Check.due("17: a minute before " + time, x.count(10), 0);
            }
            x.pass(1);
            Check.due("17: suspect minutes at " + time, x.room(0, 9), time);
            Check.due("17: suspect at " + time, x.count(10), 1);
        }
        ThermostatColony x = weldedAndHot(1, 50);
        x.setNumber(SUSPECT_TIME, 120);
        x.pass(20);
        Check.due("17: 20 of 120", x.count(10), 0);
        x.setNumber(SUSPECT_TIME, 21);
        Check.due("17: 20 of 21", x.count(10), 0);
        x.setNumber(SUSPECT_TIME, 20);
        Check.due("17: 20 of 20", x.count(10), 1);
        x.setNumber(SUSPECT_TIME, 1);
        Check.due("17: 20 of 1", x.count(10), 1);
    }

    /** "At the end of the minute, the time, which is 0 at first, increases by 1." */
    private static void theTimeIncreasesByOne() {
        ThermostatColony x = room(500, 1, 10);
        Check.due("17: at first", x.count(8), 0);
        x.pass(1);
        Check.due("17: after a minute", x.count(8), 1);
        Check.due("17: the closing was at the beginning", x.room(0, 11), 0);
    }

    /** "(The outside temperature of a minute .. is the time at its beginning.)" */
    private static void theOutsideAtTheBeginningOfTheMinute() {
        ThermostatColony x = new ThermostatColony();
        x.addRoom(500, 1, 10, 20);
        Colonies.load(x, "0=20;1=0;2=40;3=20");
        x.pass(1);
        Check.due("17: 20000 in the minute 0", x.book(0, 2), 0);
        x.pass(1);
        Check.due("17: 0 in the minute 1", x.book(0, 2), 200);
        x.pass(1);
        // The heat is 9800 and the temperature 19600: 204 come in.
        Check.due("17: 40000 in the minute 2", x.book(0, 2), 200 - 204);
        x.pass(1);
        Check.due("17: 20000 in the minute 3 and 20008 in the room", x.book(0, 2), -4);
    }

    /** "Returns how often contacts closed or opened in them (each time counts)" */
    private static void eachSwitchCounts() {
        ThermostatColony x = new ThermostatColony();
        x.setNumber(LAG, 100);
        for (int room = 0; room < 6; room++) {
            x.addRoom(100, 200, 5, 20);
            x.setThermostat(room, 20000, 100);
        }
        // They close in the minutes 0, 4, 8 .., and open in 2, 6, ..
        Check.due("17: six close", x.pass(1), 6);
        Check.due("17: none", x.pass(1), 0);
        Check.due("17: six open", x.pass(1), 6);
        Check.due("17: six close and open", x.pass(4), 12);
        x.setThermostat(3, 35000, 5000);
        Check.due("17: all but one, and that one closes", x.pass(4), 5 * 2 + 1);
    }
}

/**
 * The edges that the document names for promises 1 to 12, with "Rooms" and "Books". A test stands
 * under the document's words for it.
 */
public final class EdgesOfRooms {
    private static final int INVALID = Colonies.INVALID;
    private static final int ILLEGAL = Colonies.ILLEGAL;
    private static final int FULL = Colonies.FULL;
    private static final int NONE = Colonies.NONE;
    private static final int[] FIRST_NUMBERS = {25, 1000, 5, 10, 7, 45000, 15};
    private static final int[] LEAST_NUMBERS = {1, 1, 1, 0, 0, 20000, 1};
    private static final int[] MOST_NUMBERS = {100, 9999, 50, 120, 100, 90000, 120};

    public static void main(String[] args) {
        aNewObjectIsEmpty();
        theNumbersAtFirst();
        atMostSixRooms();
        numberedInTheOrderOfAdding();
        capacity10To500();
        power1To200();
        leak0To50();
        leakAtMostHalfOfTheCapacity();
        degrees40OnBothSides();
        heatIsCapacityTimesDegrees();
        theBladeHasTheTemperature();
        aNewRoomIsAtItsFirstState();
        temperatureIsRoundedDown();
        linkIsZeroAtFirst();
        link0To50();
        linkOfARoomWithItself();
        linkWithoutSuchARoom();
        linkIsTheSameFromBothSides();
        atMostHalfOfAnEvenCapacity();
        atMostHalfOfAnOddCapacity();
        halfOfEitherRoom();
        allLinksOfARoomCount();
        theLeakCountsWithTheLinks();
        thePreviousLinkDoesNotCount();
        setPoint5000To35000();
        band100To5000();
        oneIfSomethingChanged();
        theContactChangesInMinutesAlone();
        theThermostatOfNoRoom();
        numbers0To6();
        eachNumberInItsRange();
        eachNumberAnswersThePreviousOne();
        heat50000OnBothSides();
        warmUpTo200000();
        warmDownToMinus200000();
        warmAnswersTheTemperatureRoundedDown();
        warmInARoomThatIsTooHotAlready();
        warmInNoRoom();
        serviceOfANewRoom();
        serviceOfAWeldedContact();
        serviceKeepsTheSuspectMinutesTillTheNextMinute();
        serviceOfNoRoom();
        resetOfACutoutThatIsIn();
        resetAtTheCutoutTemperature();
        resetOfNoRoom();
        properties0To13();
        propertiesOfNoRoom();
        theLatestClosing();
        books0To4();
        booksOfNoRoom();
        whatCameBackCountsLess();
        heatIsTheSumOfTheBooks();
        linkOfNoRoom();
        counts0To13();
        countOfAllThatIsEmpty();
        countOfAllThatIsFull();
        Check.end("EdgesOfRooms");
    }

    /** A colony with one room that neither leaks nor, as long as it is open, changes its heat. */
    private static ThermostatColony still(int capacity, int degrees) {
        return Colonies.quickBlade(capacity, 1, 0, degrees);
    }

    private static ThermostatColony roomsOf(int... capacities) {
        ThermostatColony x = new ThermostatColony();
        for (int capacity : capacities) {
            x.addRoom(capacity, 1, 0, 0);
        }
        return x;
    }

    /** "Creates a colony without rooms and weather, at the time 0, with an empty text." */
    private static void aNewObjectIsEmpty() {
        ThermostatColony x = new ThermostatColony();
        for (int what = 7; what <= 13; what++) {
            Check.due("1: count(" + what + ") of a new object", x.count(what), 0);
        }
        Check.due("1: room(0, 0) of a new object", x.room(0, 0), INVALID);
        Check.due("1: outside(0) of a new object", x.outside(0), 0);
        Check.due("1: undo() of a new object", x.undo(), ILLEGAL);
        Check.due("1: clearText() of a new object", x.clearText(), 0);
        Check.due("1: load() of a new object", x.load(), 0);
    }

    /** "The numbers of the colony, with their ranges and what they are at first" */
    private static void theNumbersAtFirst() {
        ThermostatColony x = new ThermostatColony();
        for (int what = 0; what <= 6; what++) {
            Check.due("1: count(" + what + ") at first", x.count(what), FIRST_NUMBERS[what]);
        }
    }

    /** "There are at most 6 rooms"; "CAPACITY_EXCEEDED if there are 6 rooms" */
    private static void atMostSixRooms() {
        Check.due("2: the sixth room", roomsOf(10, 10, 10, 10, 10).addRoom(10, 1, 0, 0), 5);
        Edges.refused("2: a seventh room", FULL, Colonies::full, x -> x.addRoom(10, 1, 0, 0));
        Edges.refused("2: an eighth room", FULL, Colonies::full, x -> x.addRoom(500, 200, 50, 40));
        ThermostatColony x = roomsOf(10, 10, 10, 10, 10, 10);
        x.undo();
        Check.due("2: the sixth room, when undo() has taken one away", x.addRoom(10, 1, 0, 0), 5);
    }

    /** "numbered from 0 in the order in which they were added" */
    private static void numberedInTheOrderOfAdding() {
        ThermostatColony x = new ThermostatColony();
        for (int room = 0; room < 6; room++) {
            Check.due("2: number of room " + room, x.addRoom(10, 1, 0, 30 + room), room);
        }
        for (int room = 0; room < 6; room++) {
            Check.due("2: temperature of room " + room, x.room(room, 0), 30000 + 1000 * room);
        }
    }

    /** "capacity: 10 to 500" */
    private static void capacity10To500() {
        Edges.range("2: addRoom's capacity", 10, 500, Colonies::empty, (x, value) -> x.addRoom(value, 1, 0, 0));
        Edges.range("2: addRoom's capacity", 10, 500, Colonies::busy, (x, value) -> x.addRoom(value, 1, 0, 0));
    }

    /** "power: 1 to 200" */
    private static void power1To200() {
        Edges.range("2: addRoom's power", 1, 200, Colonies::empty, (x, value) -> x.addRoom(100, value, 0, 0));
        Edges.range("2: addRoom's power", 1, 200, Colonies::busy, (x, value) -> x.addRoom(100, value, 0, 0));
        for (int power : new int[] {1, 200}) {
            ThermostatColony x = new ThermostatColony();
            x.addRoom(100, power, 0, 0);
            x.pass(2);
            Check.due("2: heat of a minute with the power " + power, x.room(0, 1), power);
        }
    }

    /** "leak: 0 to 50" */
    private static void leak0To50() {
        Edges.range("2: addRoom's leak", 0, 50, Colonies::empty, (x, value) -> x.addRoom(500, 1, value, 0));
        Edges.range("2: addRoom's leak", 0, 50, Colonies::busy, (x, value) -> x.addRoom(100, 1, value, 0));
        for (int leak : new int[] {0, 50}) {
            ThermostatColony x = new ThermostatColony();
            x.addRoom(100, 1, leak, 40);
            x.pass(1);
            Check.due("2: what leaks of 40 degrees with the leak " + leak, x.book(0, 2), 40 * leak);
        }
    }

    /** "and at most half of the capacity" */
    private static void leakAtMostHalfOfTheCapacity() {
        for (int capacity = 10; capacity <= 99; capacity++) {
            int half = capacity / 2;
            ThermostatColony x = new ThermostatColony();
            Check.due("2: capacity " + capacity + ", leak " + (half + 1), x.addRoom(capacity, 1, half + 1, 0), INVALID);
            Check.due("2: rooms then", x.count(7), 0);
            Check.due("2: capacity " + capacity + ", leak " + half, x.addRoom(capacity, 1, half, 0), 0);
        }
        Edges.refused("2: capacity 10, leak 6", INVALID, Colonies::busy, x -> x.addRoom(10, 1, 6, 0));
        Edges.refused("2: capacity 11, leak 6", INVALID, Colonies::busy, x -> x.addRoom(11, 1, 6, 0));
        Edges.refused("2: capacity 99, leak 50", INVALID, Colonies::busy, x -> x.addRoom(99, 1, 50, 0));
        Check.due("2: capacity 100, leak 50", new ThermostatColony().addRoom(100, 1, 50, 0), 0);
    }

    /** "degrees: -40 to 40" */
    private static void degrees40OnBothSides() {
        Edges.range("2: addRoom's degrees", -40, 40, Colonies::empty, (x, value) -> x.addRoom(10, 1, 0, value));
        Edges.range("2: addRoom's degrees", -40, 40, Colonies::busy, (x, value) -> x.addRoom(500, 1, 0, value));
    }

    /** "Its heat is capacity * degrees" */
    private static void heatIsCapacityTimesDegrees() {
        for (int capacity : new int[] {10, 11, 499, 500}) {
            for (int degrees : new int[] {-40, -1, 0, 1, 40}) {
                ThermostatColony x = new ThermostatColony();
                x.addRoom(capacity, 1, 0, degrees);
                String room = " of " + capacity + " at " + degrees;
                Check.due("2: heat" + room, x.room(0, 1), capacity * degrees);
                Check.due("2: first heat" + room, x.book(0, 0), capacity * degrees);
                Check.due("2: temperature" + room, x.room(0, 0), 1000 * degrees);
            }
        }
    }

    /** "the blade has its temperature, the set point is 20000 and the band 1000" */
    private static void theBladeHasTheTemperature() {
        for (int degrees : new int[] {-40, 0, 40}) {
            ThermostatColony x = new ThermostatColony();
            x.addRoom(10, 1, 0, degrees);
            Check.due("2: blade at " + degrees, x.room(0, 2), 1000 * degrees);
            Check.due("2: set point at " + degrees, x.room(0, 12), 20000);
            Check.due("2: band at " + degrees, x.room(0, 13), 1000);
        }
    }

    /** "At first all of these are 0, nothing is welded, and the cutout is in." */
    private static void aNewRoomIsAtItsFirstState() {
        ThermostatColony x = Colonies.busy();
        x.addRoom(100, 1, 0, 40);
        for (int what = 3; what <= 10; what++) {
            Check.due("2: room(2, " + what + ") at first", x.room(2, what), 0);
        }
        Check.due("2: room(2, 11) at first", x.room(2, 11), NONE);
        for (int what = 1; what <= 4; what++) {
            Check.due("2: book(2, " + what + ") at first", x.book(2, what), 0);
        }
    }

    /** "Its temperature is 1000 * Q / C, rounded down (also below 0)." */
    private static void temperatureIsRoundedDown() {
        int[][] want = {{30, 1, 33}, {30, -1, -34}, {30, 29, 966}, {30, -29, -967}, {30, 30, 1000}, {30, -30, -1000},
                {30, 0, 0}, {499, 1, 2}, {499, -1, -3}, {499, 498, 997}, {499, -498, -998}, {499, -499, -1000},
                {500, -1, -2}, {10, -1, -100}, {11, -1, -91}, {11, 1, 90}};
        for (int[] row : want) {
            ThermostatColony x = roomsOf(row[0]);
            x.warm(0, row[1]);
            Check.due("9: temperature of " + row[1] + " in " + row[0], x.room(0, 0), row[2]);
        }
    }

    /** "at first 0" */
    private static void linkIsZeroAtFirst() {
        ThermostatColony x = roomsOf(100, 100, 100, 100, 100, 100);
        for (int first = 0; first < 6; first++) {
            for (int second = 0; second < 6; second++) {
                Check.due("11: link(" + first + ", " + second + ") at first", x.link(first, second),
                        first == second ? INVALID : 0);
            }
        }
        Check.due("3: the previous link of a first one", x.setLink(4, 5, 1), 0);
    }

    private static ThermostatColony twoLarge() {
        return roomsOf(500, 500);
    }

    /** "link: 0 to 50" */
    private static void link0To50() {
        Edges.range("3: setLink's link", 0, 50, EdgesOfRooms::twoLarge, (x, value) -> x.setLink(0, 1, value));
        Edges.refused("3: setLink(1, 0, -1)", INVALID, Colonies::busy, x -> x.setLink(1, 0, -1));
        Edges.refused("3: setLink(1, 0, 51)", INVALID, Colonies::busy, x -> x.setLink(1, 0, 51));
        ThermostatColony x = twoLarge();
        x.setLink(0, 1, 50);
        Check.due("3: the most", x.link(0, 1), 50);
        Check.due("3: from the most to nothing", x.setLink(1, 0, 0), 50);
        Check.due("3: nothing", x.link(0, 1), 0);
    }

    /** "INVALID_ARGUMENT if there is no such room, both are the same" */
    private static void linkOfARoomWithItself() {
        for (int room : new int[] {0, 1, 5, 6, -1}) {
            Edges.refused("3: setLink(" + room + ", " + room + ", 1)", INVALID, Colonies::full,
                    x -> x.setLink(room, room, 1));
            Edges.refused("3: setLink(" + room + ", " + room + ", 0)", INVALID, Colonies::empty,
                    x -> x.setLink(room, room, 0));
        }
    }

    /** "first: a room"; "second: another room" */
    private static void linkWithoutSuchARoom() {
        Check.due("3: setLink(0, 5, 1)", Colonies.full().setLink(0, 5, 1), 0);
        Check.due("3: setLink(5, 0, 1)", Colonies.full().setLink(5, 0, 1), 0);
        for (int wrong : new int[] {-1, 6, Integer.MIN_VALUE, Integer.MAX_VALUE}) {
            Edges.refused("3: setLink(" + wrong + ", 0, 1)", INVALID, Colonies::full, x -> x.setLink(wrong, 0, 1));
            Edges.refused("3: setLink(0, " + wrong + ", 1)", INVALID, Colonies::full, x -> x.setLink(0, wrong, 1));
        }
        Edges.refused("3: setLink(0, 2, 1) with two rooms", INVALID, Colonies::busy, x -> x.setLink(0, 2, 1));
        Edges.refused("3: setLink(2, 0, 1) with two rooms", INVALID, Colonies::busy, x -> x.setLink(2, 0, 1));
        Edges.refused("3: setLink(0, 1, 1) without rooms", INVALID, Colonies::empty, x -> x.setLink(0, 1, 1));
    }

    /** "Between each two rooms there is a link" */
    private static void linkIsTheSameFromBothSides() {
        ThermostatColony x = roomsOf(500, 500, 500, 500, 500, 500);
        for (int first = 0; first < 6; first++) {
            for (int second = 0; second < first; second++) {
                Check.due("3: setLink(" + first + ", " + second + ", ..)", x.setLink(first, second, 6 * first + second), 0);
            }
        }
        for (int first = 0; first < 6; first++) {
            for (int second = 0; second < first; second++) {
                Check.due("11: link(" + first + ", " + second + ")", x.link(first, second), 6 * first + second);
                Check.due("11: link(" + second + ", " + first + ")", x.link(second, first), 6 * first + second);
            }
        }
    }

    private static ThermostatColony evenAndLarge() {
        return roomsOf(40, 500);
    }

    private static ThermostatColony oddAndLarge() {
        return roomsOf(41, 500);
    }

    /** "The leak and all links of a room together are at most half of its capacity." */
    private static void atMostHalfOfAnEvenCapacity() {
        Check.due("3: half of 40", evenAndLarge().setLink(0, 1, 20), 0);
        Edges.refused("3: more than half of 40", ILLEGAL, EdgesOfRooms::evenAndLarge, x -> x.setLink(0, 1, 21));
        Edges.refused("3: much more than half of 40", ILLEGAL, EdgesOfRooms::evenAndLarge, x -> x.setLink(1, 0, 50));
    }

    /** "ILLEGAL_STATE if the leak and all links of one of both rooms would be more than half of its capacity then" */
    private static void atMostHalfOfAnOddCapacity() {
        Check.due("3: less than half of 41", oddAndLarge().setLink(0, 1, 20), 0);
        Edges.refused("3: more than half of 41", ILLEGAL, EdgesOfRooms::oddAndLarge, x -> x.setLink(0, 1, 21));
    }

    /** "of one of both rooms": the first one, the second one, or both. */
    private static void halfOfEitherRoom() {
        Edges.refused("3: more than half of the second", ILLEGAL, EdgesOfRooms::evenAndLarge, x -> x.setLink(1, 0, 21));
        Check.due("3: half of the second", evenAndLarge().setLink(1, 0, 20), 0);
        Edges.refused("3: more than half of both", ILLEGAL, () -> roomsOf(40, 40), x -> x.setLink(0, 1, 21));
        Check.due("3: half of both", roomsOf(40, 40).setLink(0, 1, 20), 0);
        Check.due("3: a small third room does not count", roomsOf(100, 100, 10).setLink(0, 1, 50), 0);
    }

    /** Half of room 2 is 10; the links with rooms 0, 1, 3 and 5 take 9. */
    private static ThermostatColony nearlyUsedUp() {
        ThermostatColony x = roomsOf(500, 500, 20, 500, 500, 500);
        x.setLink(0, 2, 2);
        x.setLink(2, 1, 3);
        x.setLink(3, 2, 3);
        x.setLink(2, 5, 1);
        return x;
    }

    /** "all links of a room together" */
    private static void allLinksOfARoomCount() {
        Check.due("3: up to half with all links", nearlyUsedUp().setLink(4, 2, 1), 0);
        Edges.refused("3: over half with all links", ILLEGAL, EdgesOfRooms::nearlyUsedUp, x -> x.setLink(4, 2, 2));
        Edges.refused("3: over half from the other side", ILLEGAL, EdgesOfRooms::nearlyUsedUp, x -> x.setLink(2, 4, 2));
        ThermostatColony x = nearlyUsedUp();
        x.setLink(2, 5, 0);
        Check.due("3: a link that is less leaves more", x.setLink(2, 4, 2), 0);
        Check.due("3: none is left", x.setLink(2, 5, 1), ILLEGAL);
        Check.due("3: the links of other rooms do not count", x.setLink(0, 1, 50), 0);
    }

    private static ThermostatColony leaking() {
        ThermostatColony x = new ThermostatColony();
        x.addRoom(100, 1, 49, 0);
        x.addRoom(500, 1, 50, 0);
        x.addRoom(10, 1, 5, 0);
        return x;
    }

    /** "The leak and all links of a room together" */
    private static void theLeakCountsWithTheLinks() {
        Check.due("3: 49 and 1 are half of 100", leaking().setLink(0, 1, 1), 0);
        Edges.refused("3: 49 and 2 are more", ILLEGAL, EdgesOfRooms::leaking, x -> x.setLink(0, 1, 2));
        Check.due("3: a leak that is half leaves 0", leaking().setLink(1, 2, 0), 0);
        Edges.refused("3: a leak that is half leaves no 1", ILLEGAL, EdgesOfRooms::leaking, x -> x.setLink(1, 2, 1));
    }

    /** "would be more than half of its capacity then" */
    private static void thePreviousLinkDoesNotCount() {
        ThermostatColony x = evenAndLarge();
        x.setLink(0, 1, 20);
        Check.due("3: the same link again", x.setLink(0, 1, 20), 20);
        Check.due("3: one less", x.setLink(0, 1, 19), 20);
        Check.due("3: one more", x.setLink(1, 0, 20), 19);
        Check.due("3: and too much", x.setLink(1, 0, 21), ILLEGAL);
        Check.due("3: the link stays", x.link(0, 1), 20);
    }

    /** "point: 5000 to 35000" */
    private static void setPoint5000To35000() {
        Edges.range("4: setThermostat's point", 5000, 35000, Colonies::busy, (x, value) -> x.setThermostat(1, value, 700));
        for (int point : new int[] {5000, 35000}) {
            ThermostatColony x = roomsOf(10);
            Check.due("4: setThermostat(0, " + point + ", 1000)", x.setThermostat(0, point, 1000), 1);
            Check.due("4: the point then", x.room(0, 12), point);
        }
    }

    /** "band: 100 to 5000" */
    private static void band100To5000() {
        Edges.range("4: setThermostat's band", 100, 5000, Colonies::busy, (x, value) -> x.setThermostat(0, 21000, value));
        for (int band : new int[] {100, 5000}) {
            ThermostatColony x = roomsOf(10);
            Check.due("4: setThermostat(0, 20000, " + band + ")", x.setThermostat(0, 20000, band), 1);
            Check.due("4: the band then", x.room(0, 13), band);
        }
    }

    /** "Returns 1 if something changed, otherwise 0" */
    private static void oneIfSomethingChanged() {
        Check.due("4: neither", roomsOf(10).setThermostat(0, 20000, 1000), 0);
        Check.due("4: the point by 1", roomsOf(10).setThermostat(0, 20001, 1000), 1);
        Check.due("4: the point by -1", roomsOf(10).setThermostat(0, 19999, 1000), 1);
        Check.due("4: the band by 1", roomsOf(10).setThermostat(0, 20000, 1001), 1);
        Check.due("4: the band by -1", roomsOf(10).setThermostat(0, 20000, 999), 1);
        Check.due("4: both", roomsOf(10).setThermostat(0, 20001, 999), 1);
        ThermostatColony x = roomsOf(10, 10);
        x.setThermostat(0, 5000, 100);
        Check.due("4: the same in another room", x.setThermostat(1, 5000, 100), 1);
        Check.due("4: neither again", x.setThermostat(0, 5000, 100), 0);
    }

    /** "(The contact changes in minutes alone.)" */
    private static void theContactChangesInMinutesAlone() {
        ThermostatColony x = still(100, 18);
        x.setThermostat(0, 35000, 100);
        Check.due("4: a cold blade, before the minute", x.room(0, 3), 0);
        Check.due("4: closings before the minute", x.room(0, 7), 0);
        x.pass(1);
        Check.due("4: in the minute", x.room(0, 3), 1);
        x.setThermostat(0, 5000, 100);
        Check.due("4: a hot blade, before the minute", x.room(0, 3), 1);
        x.pass(1);
        Check.due("4: in the minute then", x.room(0, 3), 0);
    }

    /** "INVALID_ARGUMENT if there is no such room" */
    private static void theThermostatOfNoRoom() {
        Edges.range("4: setThermostat's room", 0, 5, Colonies::full, (x, room) -> x.setThermostat(room, 19000, 800));
        Edges.range("4: setThermostat's room", 0, 1, Colonies::busy, (x, room) -> x.setThermostat(room, 19000, 800));
        Edges.refused("4: setThermostat(0, ..) without rooms", INVALID, Colonies::empty, x -> x.setThermostat(0, 20000, 1000));
    }

    /** "what: 0 to 6" */
    private static void numbers0To6() {
        Edges.range("5: setNumber's what", 0, 6, Colonies::busy, (x, what) -> x.setNumber(what, 50));
        Edges.refused("5: setNumber(-1, 50)", INVALID, Colonies::empty, x -> x.setNumber(-1, 50));
        Edges.refused("5: setNumber(7, 50)", INVALID, Colonies::empty, x -> x.setNumber(7, 50));
    }

    /** "value: in its range"; "0 lag (1 to 100, 25); 1 weld limit (1 to 9999, 1000)" and so on */
    private static void eachNumberInItsRange() {
        for (int number = 0; number <= 6; number++) {
            int what = number;
            String name = "5: setNumber(" + what + ", ..)";
            Edges.range(name, LEAST_NUMBERS[what], MOST_NUMBERS[what], Colonies::empty, (x, value) -> x.setNumber(what, value));
            Edges.range(name, LEAST_NUMBERS[what], MOST_NUMBERS[what], Colonies::full, (x, value) -> x.setNumber(what, value));
        }
    }

    /** "Returns the previous number" */
    private static void eachNumberAnswersThePreviousOne() {
        for (int what = 0; what <= 6; what++) {
            ThermostatColony x = new ThermostatColony();
            String call = "5: setNumber(" + what + ", ..) ";
            Check.due(call + "from the first", x.setNumber(what, LEAST_NUMBERS[what]), FIRST_NUMBERS[what]);
            Check.due(call + "least", x.count(what), LEAST_NUMBERS[what]);
            Check.due(call + "from the least", x.setNumber(what, MOST_NUMBERS[what]), LEAST_NUMBERS[what]);
            Check.due(call + "most", x.count(what), MOST_NUMBERS[what]);
            Check.due(call + "the same again", x.setNumber(what, MOST_NUMBERS[what]), MOST_NUMBERS[what]);
            for (int other = 0; other <= 6; other++) {
                int want = other == what ? MOST_NUMBERS[what] : FIRST_NUMBERS[other];
                Check.due(call + "leaves count(" + other + ")", x.count(other), want);
            }
        }
    }

    private static ThermostatColony large() {
        return roomsOf(500);
    }

    /** "heat: -50000 to 50000" */
    private static void heat50000OnBothSides() {
        Edges.range("6: warm's heat", -50000, 50000, EdgesOfRooms::large, (x, heat) -> x.warm(0, heat));
        Check.due("6: warm(0, 50000)", large().warm(0, 50000), 100000);
        Check.due("6: warm(0, -50000)", large().warm(0, -50000), -100000);
        Check.due("6: warm(0, 0)", large().warm(0, 0), 0);
        ThermostatColony x = large();
        x.warm(0, 50000);
        x.warm(0, -3);
        Check.due("6: the heat", x.room(0, 1), 49997);
        Check.due("6: the book", x.book(0, 4), 49997);
    }

    private static ThermostatColony hottest() {
        ThermostatColony x = roomsOf(500, 30);
        x.warm(0, 50000);
        x.warm(0, 50000);
        x.warm(1, 6000);
        return x;
    }

    /** "ILLEGAL_STATE if its temperature would be below -200000 or above 200000": above */
    private static void warmUpTo200000() {
        Check.due("6: 200000 in the large room", hottest().room(0, 0), 200000);
        Check.due("6: 200000 in the small room", hottest().room(1, 0), 200000);
        Edges.refused("6: above 200000 in the large room", ILLEGAL, EdgesOfRooms::hottest, x -> x.warm(0, 1));
        Edges.refused("6: above 200000 in the small room", ILLEGAL, EdgesOfRooms::hottest, x -> x.warm(1, 1));
        Edges.refused("6: far above 200000", ILLEGAL, EdgesOfRooms::hottest, x -> x.warm(1, 50000));
        Check.due("6: nothing more at 200000", hottest().warm(0, 0), 200000);
        Check.due("6: less at 200000", hottest().warm(1, -1), 199966);
        Check.due("6: from 0 to 200000", roomsOf(10).warm(0, 2000), 200000);
        Edges.refused("6: from 0 to above it", ILLEGAL, () -> roomsOf(10), x -> x.warm(0, 2001));
    }

    private static ThermostatColony coldest() {
        ThermostatColony x = roomsOf(500, 30);
        x.warm(0, -50000);
        x.warm(0, -50000);
        x.warm(1, -6000);
        return x;
    }

    /** "ILLEGAL_STATE if its temperature would be below -200000 or above 200000": below */
    private static void warmDownToMinus200000() {
        Check.due("6: -200000 in the large room", coldest().room(0, 0), -200000);
        Check.due("6: -200000 in the small room", coldest().room(1, 0), -200000);
        Edges.refused("6: below -200000 in the large room", ILLEGAL, EdgesOfRooms::coldest, x -> x.warm(0, -1));
        Edges.refused("6: below -200000 in the small room", ILLEGAL, EdgesOfRooms::coldest, x -> x.warm(1, -1));
        Edges.refused("6: far below -200000", ILLEGAL, EdgesOfRooms::coldest, x -> x.warm(1, -50000));
        Check.due("6: nothing more at -200000", coldest().warm(0, 0), -200000);
        Check.due("6: more at -200000", coldest().warm(1, 1), -199967);
        Check.due("6: from 0 to -200000", roomsOf(10).warm(0, -2000), -200000);
        Edges.refused("6: from 0 to below it", ILLEGAL, () -> roomsOf(10), x -> x.warm(0, -2001));
    }

    /** "Returns the temperature of the room then" */
    private static void warmAnswersTheTemperatureRoundedDown() {
        ThermostatColony x = roomsOf(30);
        Check.due("6: warm(0, 1)", x.warm(0, 1), 33);
        Check.due("6: warm(0, -2)", x.warm(0, -2), -34);
        Check.due("6: warm(0, 1) again", x.warm(0, 1), 0);
    }

    /** "if its temperature would be .. above 200000": a heater can bring a room there. */
    private static void warmInARoomThatIsTooHotAlready() {
        ThermostatColony x = new ThermostatColony();
        x.addRoom(10, 200, 0, 0);
        x.setNumber(0, 1);
        x.setNumber(5, 90000);
        x.pass(1);
        Check.due("6: closed", x.room(0, 3), 1);
        x.warm(0, 2000);
        x.pass(1);
        Check.due("6: hotter than 200000", x.room(0, 0), 220000);
        Check.due("6: nothing more", x.warm(0, 0), ILLEGAL);
        Check.due("6: too little less", x.warm(0, -199), ILLEGAL);
        Check.due("6: the heat stays", x.room(0, 1), 2200);
        Check.due("6: enough less", x.warm(0, -200), 200000);
    }

    /** "INVALID_ARGUMENT if there is no such room" */
    private static void warmInNoRoom() {
        Edges.range("6: warm's room", 0, 5, Colonies::full, (x, room) -> x.warm(room, 10));
        Edges.range("6: warm's room", 0, 1, Colonies::busy, (x, room) -> x.warm(room, -10));
        Edges.refused("6: warm(0, 0) without rooms", INVALID, Colonies::empty, x -> x.warm(0, 0));
    }

    /** "Returns the wear that it had": none, when nothing has happened. */
    private static void serviceOfANewRoom() {
        ThermostatColony x = roomsOf(10);
        Check.due("7: service(0) of a new room", x.service(0), 0);
        Check.due("7: the contact", x.room(0, 3), 0);
        Check.due("7: the wear", x.room(0, 5), 0);
    }

    /** Welded, with two attempts and two suspect minutes, a closing and a tripped cutout. */
    private static ThermostatColony welded() {
        ThermostatColony x = Colonies.quickBlade(100, 150, 0, 19);
        x.setNumber(1, 150);
        x.setNumber(5, 21000);
        x.setNumber(6, 2);
        x.pass(4);
        return x;
    }

    /** "the wear and the attempts are 0, it is not welded any more, and a closed contact opens" */
    private static void serviceOfAWeldedContact() {
        ThermostatColony x = welded();
        Check.due("7: welded before", x.room(0, 4), 1);
        Check.due("7: attempts before", x.room(0, 6), 2);
        Check.due("7: service(0)", x.service(0), 150);
        int[] want = {22000, 2200, 22000, 0, 0, 0, 0, 1, 0, 2, 1, 0, 20000, 1000};
        for (int what = 0; what < want.length; what++) {
            Check.due("7: room(0, " + what + ") then", x.room(0, what), want[what]);
        }
        Check.due("7: service(0) again", x.service(0), 0);
    }

    /** "(the suspect minutes stay till the next minute)" */
    private static void serviceKeepsTheSuspectMinutesTillTheNextMinute() {
        ThermostatColony x = welded();
        x.service(0);
        Check.due("7: suspect minutes", x.room(0, 9), 2);
        Check.due("7: suspect rooms", x.count(10), 1);
        Check.due("7: minutesToSuspect(0)", x.minutesToSuspect(0), 0);
        x.pass(1);
        Check.due("7: suspect minutes in the next minute", x.room(0, 9), 0);
        Check.due("7: suspect rooms in the next minute", x.count(10), 0);
    }

    /** "INVALID_ARGUMENT if there is no such room" */
    private static void serviceOfNoRoom() {
        Edges.range("7: service's room", 0, 5, Colonies::full, ThermostatColony::service);
        Edges.range("7: service's room", 0, 1, Colonies::busy, ThermostatColony::service);
        Edges.refused("7: service(0) without rooms", INVALID, Colonies::empty, x -> x.service(0));
    }

    /** "ILLEGAL_STATE if its cutout is in" */
    private static void resetOfACutoutThatIsIn() {
        Edges.refused("8: a cutout that is in", ILLEGAL, Colonies::busy, x -> x.resetCutout(0));
        ThermostatColony x = roomsOf(10);
        Check.due("8: a cutout that is in, in a cold room", x.resetCutout(0), ILLEGAL);
        x.warm(0, 900);
        Check.due("8: a cutout that is in, in a hot room", x.resetCutout(0), ILLEGAL);
    }

    /** Tripped at 30000. */
    private static ThermostatColony tripped() {
        ThermostatColony x = still(500, 30);
        x.setNumber(5, 29999);
        x.pass(1);
        return x;
    }

    /** "or its temperature is above the cutout temperature" */
    private static void resetAtTheCutoutTemperature() {
        Edges.refused("8: 1 above the cutout temperature", ILLEGAL, EdgesOfRooms::tripped, x -> x.resetCutout(0));
        ThermostatColony x = tripped();
        x.setNumber(5, 30000);
        Check.due("8: at the cutout temperature", x.resetCutout(0), 30000);
        Check.due("8: it is in", x.room(0, 10), 0);
        Check.due("8: it is in already", x.resetCutout(0), ILLEGAL);
        ThermostatColony y = tripped();
        y.warm(0, -1);
        Check.due("8: below the cutout temperature", y.resetCutout(0), 29998);
    }

    /** "INVALID_ARGUMENT if there is no such room" */
    private static void resetOfNoRoom() {
        for (int wrong : new int[] {-1, 2, 6, Integer.MIN_VALUE, Integer.MAX_VALUE}) {
            Edges.refused("8: resetCutout(" + wrong + ")", INVALID, Colonies::busy, x -> x.resetCutout(wrong));
        }
        Edges.refused("8: resetCutout(6) of six rooms", INVALID, Colonies::full, x -> x.resetCutout(6));
        Edges.refused("8: resetCutout(0) without rooms", INVALID, Colonies::empty, x -> x.resetCutout(0));
        Check.due("8: the last room", Colonies.busy().resetCutout(1) > 0 ? 1 : 0, 1);
    }

    /** "or what is out of range": 0 to 13 */
    private static void properties0To13() {
        Edges.range("9: room's what", 0, 13, Colonies::full, (x, what) -> x.room(5, what));
        Edges.range("9: room's what", 0, 13, Colonies::busy, (x, what) -> x.room(0, what));
    }

    /** "INVALID_ARGUMENT if there is no such room" */
    private static void propertiesOfNoRoom() {
        Edges.range("9: room's room", 0, 5, Colonies::full, (x, room) -> x.room(room, 0));
        Edges.range("9: room's room", 0, 1, Colonies::busy, (x, room) -> x.room(room, 11));
        for (int what = 0; what <= 13; what++) {
            Check.due("9: room(0, " + what + ") without rooms", new ThermostatColony().room(0, what), INVALID);
        }
        Check.due("9: neither room nor property", new ThermostatColony().room(0, 14), INVALID);
    }

    /** "11 the time of the latest closing (NONE if there was none)" */
    private static void theLatestClosing() {
        ThermostatColony x = still(100, 20);
        x.pass(7);
        Check.due("9: none yet", x.room(0, 11), NONE);
        x.setThermostat(0, 21000, 1000);
        x.pass(1);
        Check.due("9: the first closing", x.room(0, 11), 7);
        ThermostatColony y = still(100, 19);
        y.pass(1);
        Check.due("9: a closing at the time 0", y.room(0, 11), 0);
        y.service(0);
        y.pass(1);
        Check.due("9: the latest of two", y.room(0, 11), 1);
    }

    /** "what: 0 its first heat, 1 from the heater, 2 to the outside, 3 to other rooms, 4 by warm()" */
    private static void books0To4() {
        Edges.range("10: book's what", 0, 4, Colonies::full, (x, what) -> x.book(5, what));
        Edges.range("10: book's what", 0, 4, Colonies::busy, (x, what) -> x.book(0, what));
    }

    /** "INVALID_ARGUMENT if there is no such room" */
    private static void booksOfNoRoom() {
        Edges.range("10: book's room", 0, 5, Colonies::full, (x, room) -> x.book(room, 0));
        Edges.range("10: book's room", 0, 1, Colonies::busy, (x, room) -> x.book(room, 4));
        for (int what = 0; what <= 4; what++) {
            Check.due("10: book(0, " + what + ") without rooms", new ThermostatColony().book(0, what), INVALID);
        }
    }

    /** "(both less what came back)" */
    private static void whatCameBackCountsLess() {
        ThermostatColony x = new ThermostatColony();
        x.addRoom(100, 1, 10, 40);
        x.addRoom(100, 1, 0, 0);
        x.setLink(0, 1, 10);
        x.pass(1);
        Check.due("10: to the outside", x.book(0, 2), 400);
        Check.due("10: to the other room", x.book(0, 3), 400);
        Check.due("10: to the first room", x.book(1, 3), -400);
        x.warm(0, -3200 - 4000);
        x.pass(1);
        Check.due("10: less what came from the outside", x.book(0, 2), 400 - 400);
        Check.due("10: less what came from the other room", x.book(0, 3), 400 - 440);
        Check.due("10: and from the first room", x.book(1, 3), -400 + 440);
    }

    /** "Its heat is always its first heat, plus the first sum, less the second and third, plus the fourth." */
    private static void heatIsTheSumOfTheBooks() {
        ThermostatColony x = Colonies.full();
        for (int i = 0; i < 5; i++) {
            for (int room = 0; room < 6; room++) {
                int sum = x.book(room, 0) + x.book(room, 1) - x.book(room, 2) - x.book(room, 3) + x.book(room, 4);
                Check.due("10: heat of room " + room + " at " + x.count(8), x.room(room, 1), sum);
            }
            x.warm(i, 100 - 77 * i);
            x.pass(1 + i * 50);
        }
    }

    /** "INVALID_ARGUMENT if there is no such room, or both are the same" */
    private static void linkOfNoRoom() {
        Check.due("11: link(0, 5)", Colonies.full().link(0, 5), 0);
        Check.due("11: link(5, 4)", Colonies.full().link(5, 4), 15);
        for (int wrong : new int[] {-1, 6, Integer.MIN_VALUE, Integer.MAX_VALUE}) {
            Edges.refused("11: link(" + wrong + ", 1)", INVALID, Colonies::full, x -> x.link(wrong, 1));
            Edges.refused("11: link(1, " + wrong + ")", INVALID, Colonies::full, x -> x.link(1, wrong));
        }
        for (int room = -1; room <= 6; room++) {
            int same = room;
            Edges.refused("11: link(" + room + ", " + room + ")", INVALID, Colonies::full, x -> x.link(same, same));
        }
        Edges.refused("11: link(0, 2) with two rooms", INVALID, Colonies::busy, x -> x.link(0, 2));
        Edges.refused("11: link(2, 0) with two rooms", INVALID, Colonies::busy, x -> x.link(2, 0));
        Edges.refused("11: link(0, 1) without rooms", INVALID, Colonies::empty, x -> x.link(0, 1));
    }

    /** "what: 0 to 6 the numbers of the colony, 7 the rooms, .. 13 the states that are saved for undo()" */
    private static void counts0To13() {
        Edges.range("12: count's what", 0, 13, Colonies::full, ThermostatColony::count);
        Edges.range("12: count's what", 0, 13, Colonies::empty, ThermostatColony::count);
    }

    /** "7 the rooms, 8 the time, 9 the points of the weather, .. 12 the length of the text, 13 the states": none */
    private static void countOfAllThatIsEmpty() {
        ThermostatColony x = new ThermostatColony();
        for (int what = 7; what <= 13; what++) {
            Check.due("12: count(" + what + ") of nothing", x.count(what), 0);
        }
        x.addRoom(10, 1, 0, 0);
        Check.due("12: no room is suspect", x.count(10), 0);
        Check.due("12: no fines", x.count(11), 0);
    }

    /** "7 the rooms, 8 the time, 9 the points of the weather, .. 12 the length of the text, 13 the states": all */
    private static void countOfAllThatIsFull() {
        ThermostatColony x = Colonies.full();
        Check.due("12: six rooms", x.count(7), 6);
        Check.due("12: twelve points", x.count(9), 12);
        Check.due("12: a hundred characters", x.count(12), 100);
        Check.due("12: six states", x.count(13), 6);
        Check.due("12: the last time", Colonies.late().count(8), 20000);
        int fines = 0;
        for (int room = 0; room < 6; room++) {
            fines += x.room(room, 8);
        }
        Check.due("12: the fines of all", x.count(11), fines);
    }
}

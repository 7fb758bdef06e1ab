import java.util.function.Supplier;

/**
 * The edges that the document names for promises 13 to 16, with "Weather" and "Text". A test stands
 * under the document's words for it.
 */
public final class EdgesOfWeather {
    private static final int INVALID = Colonies.INVALID;
    private static final int FULL = Colonies.FULL;
    private static final String TWELVE = Colonies.TWELVE_POINTS;
    private static final int AFTER_TWELVE = TWELVE.length();
    /** The last point can have one behind it. */
    private static final String TWELVE_LOW = "0=0;1=0;2=0;3=0;4=0;5=0;6=0;7=0;8=0;9=0;10=0;11=0";
    private static final int AFTER_LOW = TWELVE_LOW.length();

    public static void main(String[] args) {
        characters0To255();
        atMost100Characters();
        theNewLength();
        clearsWhatIsEmptyOrFull();
        noPointAtAll();
        aTextOf100Characters();
        aPointIsAMinuteASignAndATemperature();
        semicolonBetweenTwoPoints();
        minute0To9999();
        minutesRise();
        temperature40OnBothSides();
        minusZeroIsZero();
        noLeadingZeros();
        numbersAsLongAsPossible();
        numbersOfManyDigits();
        spacesNearlyEverywhere();
        noSpaceWithinANumberOrBehindMinus();
        otherSignsAreNoSpaces();
        noOtherSignIsAllowed();
        theFirstOfTwoErrors();
        atMostTwelvePoints();
        aPointTooMany();
        whatIsNoPointTooMany();
        theTextEndsTooEarly();
        anErrorChangesNothing();
        loadTakesThePlaceOfTheWeather();
        loadEmptiesTheText();
        loadAnswersTheNumberOfPoints();
        minutes0To20000();
        withoutPointsItIsZero();
        beforeTheFirstPoint();
        behindTheLastPoint();
        betweenTwoPoints();
        betweenTwoPointsRoundedTowardZero();
        betweenTheFarthestPoints();
        theMinuteOfAPoint();
        Check.end("EdgesOfWeather");
    }

    private static ThermostatColony withText(String text) {
        ThermostatColony x = new ThermostatColony();
        Colonies.write(x, text);
        return x;
    }

    private static void loads(String text, int points) {
        ThermostatColony x = withText(text);
        Check.due("15: load() of '" + text + "'", x.load(), points);
        Check.due("15: points of '" + text + "'", x.count(9), points);
    }

    private static void failsAt(String text, int position) {
        Check.due("15: load() of '" + text + "'", withText(text).load(), -10 - position);
    }

    /** "character: character code, 0 to 255" */
    private static void characters0To255() {
        Edges.range("13: appendCharacter", 0, 255, Colonies::empty, ThermostatColony::appendCharacter);
        Edges.range("13: appendCharacter", 0, 255, Colonies::busy, ThermostatColony::appendCharacter);
        ThermostatColony x = new ThermostatColony();
        for (int character = 0; character < 100; character++) {
            Check.due("13: appendCharacter(" + character + ")", x.appendCharacter(character), character + 1);
        }
        x.clearText();
        for (int character = 156; character <= 255; character++) {
            Check.due("13: appendCharacter(" + character + ")", x.appendCharacter(character), character - 155);
        }
    }

    /** "a text of at most 100 characters"; "CAPACITY_EXCEEDED if the text has 100 characters" */
    private static void atMost100Characters() {
        ThermostatColony x = withText(" ".repeat(99));
        Check.due("13: the last one", x.appendCharacter(';'), 100);
        Check.due("13: one too many", x.appendCharacter(' '), FULL);
        Check.due("13: another one too many", x.appendCharacter(' '), FULL);
        Check.due("13: the length stays", x.count(12), 100);
        Check.due("13: the last one is in the text", x.load(), -10 - 99);
        Edges.refused("13: a character behind 100", FULL, Colonies::full, y -> y.appendCharacter('1'));
        Edges.refused("13: the character 0 behind 100", FULL, Colonies::full, y -> y.appendCharacter(0));
        Edges.refused("13: the character 255 behind 100", FULL, Colonies::full, y -> y.appendCharacter(255));
    }

    /** "Returns the new length of the text" */
    private static void theNewLength() {
        ThermostatColony x = new ThermostatColony();
        for (int length = 1; length <= 100; length++) {
            Check.due("13: length " + length, x.appendCharacter('0' + length % 10), length);
            Check.due("12: length " + length, x.count(12), length);
        }
    }

    /** "Makes the text empty. Returns the previous length of the text." */
    private static void clearsWhatIsEmptyOrFull() {
        Check.due("14: an empty text", new ThermostatColony().clearText(), 0);
        Check.due("14: one character", withText("x").clearText(), 1);
        ThermostatColony x = Colonies.full();
        Check.due("14: a full text", x.clearText(), 100);
        Check.due("14: then it is empty", x.count(12), 0);
        Check.due("14: and empty again", x.clearText(), 0);
        Check.due("14: there is room again", x.appendCharacter('x'), 1);
        Check.due("14: nothing of it is left", x.load(), -10);
        Check.due("14: nothing is saved", x.count(13), 6);
    }

    /** "a sequence of points, perhaps empty" */
    private static void noPointAtAll() {
        loads("", 0);
        loads(" ", 0);
        loads(" ".repeat(100), 0);
        failsAt(";", 0);
        failsAt(" ;", 1);
        failsAt("=", 0);
        failsAt("-", 0);
    }

    /** "a text of at most 100 characters" */
    private static void aTextOf100Characters() {
        loads("1=2" + " ".repeat(97), 1);
        loads(" ".repeat(97) + "1=2", 1);
        loads("1" + " ".repeat(97) + "=2", 1);
        loads("1=" + " ".repeat(97) + "2", 1);
        failsAt("1=" + " ".repeat(98), 100);
        failsAt("1=2" + " ".repeat(96) + ";", 100);
        failsAt("1=2" + " ".repeat(96) + "3", 99);
    }

    /** "A point is a minute, "=" and a temperature; a temperature can have a "-" ahead of it" */
    private static void aPointIsAMinuteASignAndATemperature() {
        loads("5=6", 1);
        loads("5=-6", 1);
        failsAt("=6", 0);
        failsAt("-5=6", 0);
        failsAt("+5=6", 0);
        failsAt("5;", 1);
        failsAt("5-6", 1);
        failsAt("5==6", 2);
        failsAt("5=;", 2);
        failsAt("5=+6", 2);
        failsAt("5=--6", 3);
        failsAt("5=-;", 3);
        failsAt("5=-=", 3);
        failsAt("5=6-", 3);
        failsAt("5=6=", 3);
    }

    /** "with ";" between two points" */
    private static void semicolonBetweenTwoPoints() {
        loads("5=6;7=8", 2);
        failsAt("5=6;;7=8", 4);
        failsAt(";5=6", 0);
        failsAt("5=6;", 4);
        failsAt("5=6 7=8", 4);
        failsAt("5=6,7=8", 3);
        failsAt("5=6:7=8", 3);
        failsAt("5=6;=8", 4);
        failsAt("5=6;-7=8", 4);
    }

    /** "each with a minute (0 to 9999, rising)" */
    private static void minute0To9999() {
        loads("0=1", 1);
        loads("9999=1", 1);
        loads("0=1;9999=1", 2);
        failsAt("10000=1", 0);
        failsAt(" 10000=1", 1);
        failsAt("0=1;10000=1", 4);
        failsAt("0=1; 10000=1", 5);
    }

    /** "or is a minute that is not greater than the one before" */
    private static void minutesRise() {
        loads("5=1;6=1", 2);
        failsAt("5=1;5=1", 4);
        failsAt("5=1;4=1", 4);
        failsAt("5=1;  5=1", 6);
        failsAt("0=1;0=1", 4);
        loads("9998=1;9999=1", 2);
        failsAt("9999=1;9999=1", 7);
        failsAt("9999=1;0=1", 7);
        failsAt("1=1;3=1;2=1", 8);
        loads("1=1;3=1;4=1", 3);
    }

    /** "a temperature (-40 to 40 degrees, whole ones)" */
    private static void temperature40OnBothSides() {
        loads("5=40", 1);
        loads("5=-40", 1);
        failsAt("5=41", 2);
        failsAt("5=-41", 2);
        failsAt("5= 41", 3);
        failsAt("5= -41", 3);
        failsAt("5=1;6=  -41", 8);
        failsAt("5=400", 2);
        failsAt("5=39.5", 4);
        ThermostatColony x = new ThermostatColony();
        Colonies.load(x, "5=40;6=-40");
        Check.due("16: the warmest", x.outside(5), 40000);
        Check.due("16: the coldest", x.outside(6), -40000);
    }

    /** "(-0 is 0)" */
    private static void minusZeroIsZero() {
        ThermostatColony x = new ThermostatColony();
        Check.due("15: -0", Colonies.load(x, "5=-0"), 1);
        Check.due("16: -0", x.outside(5), 0);
        failsAt("5=-00", 2);
        failsAt("5= -00", 3);
    }

    /** "Numbers are sequences of digits without leading zeros (a 0 alone is allowed)" */
    private static void noLeadingZeros() {
        loads("0=0", 1);
        failsAt("00=0", 0);
        failsAt("05=0", 0);
        failsAt(" 05=0", 1);
        failsAt("5=00", 2);
        failsAt("5=05", 2);
        failsAt("5=-05", 2);
        failsAt("5=  -05", 4);
        failsAt("0=0;01=0", 4);
        loads("10=10", 1);
        loads("100=20", 1);
        failsAt("000000000000=1", 0);
    }

    /** "as long as possible": what follows a number is not looked at before the number itself. */
    private static void numbersAsLongAsPossible() {
        failsAt("99999", 0);
        failsAt("99999x", 0);
        failsAt("05x", 0);
        failsAt("5=41x", 2);
        failsAt("5=041", 2);
        failsAt("5=1;4", 4);
        failsAt("5=1;5;", 4);
        loads("5=1;50=1", 2);
        failsAt("50=1;5x", 5);
        failsAt("5x=1", 1);
    }

    /** "for a number that is out of its range .. it is its first character": also far out of it. */
    private static void numbersOfManyDigits() {
        failsAt("4294967296=1", 0);
        failsAt("4294967301=1", 0);
        failsAt("18446744073709551621=1", 0);
        failsAt("9".repeat(100), 0);
        failsAt("1" + "0".repeat(99), 0);
        failsAt("5=4294967296", 2);
        failsAt("5=4294967301", 2);
        failsAt("5=-4294967301", 2);
        failsAt("5=-" + "9".repeat(97), 2);
        failsAt("5=" + "1".repeat(98), 2);
    }

    /** "Spaces (code 32) may stand everywhere except within a number and behind "-"." */
    private static void spacesNearlyEverywhere() {
        loads(" 5=6", 1);
        loads("5 =6", 1);
        loads("5= 6", 1);
        loads("5=6 ", 1);
        loads("5= -6", 1);
        loads("5=6 ;7=8", 2);
        loads("5=6; 7=8", 2);
        loads("   5   =   -6   ;   7   =   8   ", 2);
    }

    /** "except within a number and behind "-"" */
    private static void noSpaceWithinANumberOrBehindMinus() {
        failsAt("1 5=6", 2);
        failsAt("1  5=6", 3);
        failsAt("5=1 6", 4);
        failsAt("5=-1 6", 5);
        failsAt("5=- 6", 3);
        failsAt("5=-  6", 3);
    }

    /** "Spaces (code 32)" */
    private static void otherSignsAreNoSpaces() {
        for (char sign : new char[] {0, 9, 10, 11, 12, 13, 31, 33, 127, 133, 160, 255}) {
            failsAt(sign + "5=6", 0);
            failsAt("5" + sign + "=6", 1);
            failsAt("5=" + sign + "6", 2);
            failsAt("5=6" + sign, 3);
            failsAt("5=6;" + sign + "7=8", 4);
        }
    }

    /** "the error position is the offset (from 0) of the first character that is not allowed where it stands" */
    private static void noOtherSignIsAllowed() {
        for (char sign = 0; sign <= 255; sign++) {
            boolean digit = sign >= '0' && sign <= '9';
            String name = "15: the sign " + (int) sign;
            if (!digit && sign != ' ') {
                Check.due(name + " at the start", withText(sign + "5=6").load(), -10);
                Check.due(name + " behind ;", withText("5=6;" + sign + "7=8").load(), -14);
                Check.due(name + " behind -", withText("5=-" + sign + "6").load(), -13);
            }
            if (!digit && sign != ' ' && sign != '=') {
                Check.due(name + " behind a minute", withText("5" + sign + "=6").load(), -11);
            }
            if (!digit && sign != ' ' && sign != '-') {
                Check.due(name + " behind =", withText("5=" + sign + "6").load(), -12);
            }
            if (!digit && sign != ' ' && sign != ';') {
                Check.due(name + " behind a temperature", withText("5=6" + sign).load(), -13);
                Check.due(name + " behind a temperature and a space", withText("5=6 " + sign).load(), -14);
            }
        }
    }

    /** "The text is read from left to right" */
    private static void theFirstOfTwoErrors() {
        failsAt("5=41;4=1", 2);
        failsAt("10000=41", 0);
        failsAt("5x=41", 1);
        failsAt("5=1x;05=1", 3);
        failsAt("5=1;5=41", 4);
        failsAt("5=-x;7", 3);
    }

    /** "a sequence of at most 12 points" */
    private static void atMostTwelvePoints() {
        loads(TWELVE, 12);
        loads(TWELVE_LOW, 12);
        loads(TWELVE_LOW + " ", 12);
        ThermostatColony x = Colonies.full();
        Check.due("16: the last of twelve points", x.outside(9999), -40000);
        Check.due("16: the last but one", x.outside(60), 16000);
        Check.due("16: the first", x.outside(0), 1000);
    }

    /** "for a point too many, it is the first digit of its minute" */
    private static void aPointTooMany() {
        failsAt(TWELVE_LOW + ";12=0", AFTER_LOW + 1);
        failsAt(TWELVE_LOW + "; 12=0", AFTER_LOW + 2);
        failsAt(TWELVE_LOW + " ;  12=0", AFTER_LOW + 4);
        failsAt(TWELVE_LOW + ";12", AFTER_LOW + 1);
        failsAt(TWELVE_LOW + ";12x", AFTER_LOW + 1);
        failsAt(TWELVE_LOW + ";12=41", AFTER_LOW + 1);
        failsAt(TWELVE_LOW + ";12=0;13=0", AFTER_LOW + 1);
        failsAt(TWELVE_LOW + ";11=0", AFTER_LOW + 1);
        failsAt(TWELVE_LOW + ";012=0", AFTER_LOW + 1);
        failsAt(TWELVE_LOW + ";10000=0", AFTER_LOW + 1);
        failsAt(TWELVE + ";9999=0", AFTER_TWELVE + 1);
    }

    /** Behind twelve points another sign, or nothing, is an error where it stands. */
    private static void whatIsNoPointTooMany() {
        failsAt(TWELVE_LOW + "x", AFTER_LOW);
        failsAt(TWELVE_LOW + " 12=0", AFTER_LOW + 1);
        failsAt(TWELVE_LOW + ";", AFTER_LOW + 1);
        failsAt(TWELVE_LOW + ";  ", AFTER_LOW + 3);
        failsAt(TWELVE_LOW + ";;", AFTER_LOW + 1);
        failsAt(TWELVE_LOW + "; -12=0", AFTER_LOW + 2);
        failsAt(TWELVE_LOW + "; x", AFTER_LOW + 2);
    }

    /** "If the text ends where something is missing, it is the length of the text." */
    private static void theTextEndsTooEarly() {
        failsAt("5", 1);
        failsAt("5 ", 2);
        failsAt(" 5", 2);
        failsAt("5=", 2);
        failsAt("5= ", 3);
        failsAt("5=-", 3);
        failsAt("5= -", 4);
        failsAt("5=6;", 4);
        failsAt("5=6; ", 5);
        failsAt("5=6;7", 5);
        failsAt("5=6;7=", 6);
        failsAt(" ".repeat(99) + "5", 100);
    }

    private static Supplier<ThermostatColony> busyWith(String text) {
        return () -> {
            ThermostatColony x = Colonies.busy();
            x.clearText();
            Colonies.write(x, text);
            return x;
        };
    }

    /** "-10 minus the error position if the text has an error (then nothing changes, and the text is kept)" */
    private static void anErrorChangesNothing() {
        Edges.refused("15: an error at 0", -10, busyWith("x"), ThermostatColony::load);
        Edges.refused("15: an error at the end", -14, busyWith("5=6;"), ThermostatColony::load);
        Edges.refused("15: an error in the third point", -18, busyWith("1=1;2=2;2=3"), ThermostatColony::load);
        Edges.refused("15: a point too many", -10 - AFTER_LOW - 1, busyWith(TWELVE_LOW + ";12=0"), ThermostatColony::load);
        Edges.refused("15: an error at 100", -110, busyWith("5=" + " ".repeat(98)), ThermostatColony::load);
        ThermostatColony x = busyWith("5=6;").get();
        x.load();
        Check.due("15: the text is kept", x.count(12), 4);
        Colonies.write(x, "7=8");
        Check.due("15: and can be mended", x.load(), 2);
    }

    /** "Reads the text as the weather, in place of the present one." */
    private static void loadTakesThePlaceOfTheWeather() {
        ThermostatColony x = Colonies.full();
        Check.due("15: one point in place of twelve", Colonies.load(x, "5000=7"), 1);
        for (int minute : new int[] {0, 60, 4999, 5000, 5001, 9999, 20000}) {
            Check.due("15: outside(" + minute + ") then", x.outside(minute), 7000);
        }
        Check.due("15: twelve in place of one", Colonies.load(x, TWELVE), 12);
        Check.due("15: outside(0)", x.outside(0), 1000);
        Check.due("15: none in place of twelve", Colonies.load(x, " "), 0);
        Check.due("15: outside(5) without points", x.outside(5), 0);
        Check.due("15: points then", x.count(9), 0);
    }

    /** "The text becomes empty." */
    private static void loadEmptiesTheText() {
        for (String text : new String[] {"", " ", "5=6", TWELVE, "1=2" + " ".repeat(97)}) {
            ThermostatColony x = withText(text);
            x.load();
            Check.due("15: the text after '" + text + "'", x.count(12), 0);
            Check.due("15: load() again", x.load(), 0);
        }
    }

    /** "Returns the number of points" */
    private static void loadAnswersTheNumberOfPoints() {
        StringBuilder text = new StringBuilder("0=0");
        for (int points = 1; points <= 12; points++) {
            loads(text.toString(), points);
            text.append(';').append(points).append("=0");
        }
    }

    /** "minute: 0 to 20000" */
    private static void minutes0To20000() {
        Edges.range("16: outside", 0, 20000, Colonies::empty, ThermostatColony::outside);
        Edges.range("16: outside", 0, 20000, Colonies::full, ThermostatColony::outside);
    }

    /** "Without points it is 0." */
    private static void withoutPointsItIsZero() {
        for (int minute : new int[] {0, 1, 9999, 10000, 20000}) {
            Check.due("16: outside(" + minute + ") without points", new ThermostatColony().outside(minute), 0);
        }
    }

    private static ThermostatColony withWeather(String text) {
        ThermostatColony x = new ThermostatColony();
        Colonies.load(x, text);
        return x;
    }

    /** "Before the first point, the outside has the temperature of the first point" */
    private static void beforeTheFirstPoint() {
        ThermostatColony x = withWeather("10=-5;20=15");
        int[][] want = {{0, -5000}, {9, -5000}, {10, -5000}, {11, -3000}};
        for (int[] row : want) {
            Check.due("16: outside(" + row[0] + ")", x.outside(row[0]), row[1]);
        }
        Check.due("16: before the only point", withWeather("9999=-40").outside(0), -40000);
    }

    /** "behind the last one that of the last one" */
    private static void behindTheLastPoint() {
        ThermostatColony x = withWeather("10=-5;20=15");
        int[][] want = {{19, 13000}, {20, 15000}, {21, 15000}, {9999, 15000}, {20000, 15000}};
        for (int[] row : want) {
            Check.due("16: outside(" + row[0] + ")", x.outside(row[0]), row[1]);
        }
        ThermostatColony y = withWeather("9998=0;9999=40");
        Check.due("16: outside(9998)", y.outside(9998), 0);
        Check.due("16: outside(9999)", y.outside(9999), 40000);
        Check.due("16: outside(10000)", y.outside(10000), 40000);
        Check.due("16: behind the only point", withWeather("0=40").outside(20000), 40000);
    }

    /** "it is 1000 * t1 + (1000 * (t2 - t1) * (m - m1)) / (m2 - m1) in the minute m" */
    private static void betweenTwoPoints() {
        ThermostatColony x = withWeather("0=0;2=3;4=-3;7=7");
        int[] want = {0, 1500, 3000, 0, -3000, 333, 3666, 7000, 7000};
        for (int minute = 0; minute < want.length; minute++) {
            Check.due("16: outside(" + minute + ")", x.outside(minute), want[minute]);
        }
    }

    /** ""/" is the division of integers rounded toward zero": the part, and not the sum, is rounded. */
    private static void betweenTwoPointsRoundedTowardZero() {
        ThermostatColony x = withWeather("0=5;3=4;6=5;9=-5;12=-4;15=-5");
        int[] want = {5000, 4667, 4334, 4000, 4333, 4666, 5000, 1667, -1666, -5000, -4667, -4334, -4000, -4333, -4666, -5000};
        for (int minute = 0; minute < want.length; minute++) {
            Check.due("16: outside(" + minute + ")", x.outside(minute), want[minute]);
        }
    }

    /** "0 to 9999"; "-40 to 40": the largest numbers there are. */
    private static void betweenTheFarthestPoints() {
        ThermostatColony up = withWeather("0=-40;9999=40");
        ThermostatColony down = withWeather("0=40;9999=-40");
        int[][] want = {{0, -40000}, {1, -39992}, {5000, 4}, {4999, -5}, {9998, 39991}, {9999, 40000}};
        for (int[] row : want) {
            Check.due("16: rising, outside(" + row[0] + ")", up.outside(row[0]), row[1]);
            Check.due("16: falling, outside(" + row[0] + ")", down.outside(row[0]), -row[1]);
        }
    }

    /** "between two points (m1, t1) and (m2, t2)": in the minute of a point it has the point's temperature. */
    private static void theMinuteOfAPoint() {
        ThermostatColony x = withWeather(TWELVE);
        int[][] want = {{0, 1}, {2, -3}, {4, 5}, {6, 7}, {8, 9}, {10, 11}, {20, 12}, {30, 13}, {40, 14}, {50, 15}, {60, 16},
                {9999, -40}};
        for (int[] row : want) {
            Check.due("16: outside(" + row[0] + ")", x.outside(row[0]), 1000 * row[1]);
        }
    }
}

/** Promises 13 to 16: the text and the weather. */
public final class WeatherPromises {
    private static final int INVALID = Colonies.INVALID;
    private static final int FULL = Colonies.FULL;
    private static final String TWELVE = "0=0;1=0;2=0;3=0;4=0;5=0;6=0;7=0;8=0;9=0;10=0;11=0";

    public static void main(String[] args) {
        promise13AppendCharacter();
        promise14ClearText();
        promise15LoadsPoints();
        promise15NamesErrors();
        promise15KeepsAllOnError();
        promise15TakesThePlaceOfTheWeather();
        promise16Outside();
        promise16OutsideRoundsTowardZero();
        Check.end("WeatherPromises");
    }

    private static void promise13AppendCharacter() {
        ThermostatColony x = new ThermostatColony();
        Check.due("13: appendCharacter(0)", x.appendCharacter(0), 1);
        Check.due("13: appendCharacter(255)", x.appendCharacter(255), 2);
        for (int wrong : new int[] {-1, 256, Integer.MIN_VALUE, Integer.MAX_VALUE}) {
            Check.due("13: appendCharacter(" + wrong + ")", x.appendCharacter(wrong), INVALID);
        }
        Check.due("13: length after errors", x.count(12), 2);
        for (int length = 3; length <= 100; length++) {
            Check.due("13: append to " + length, x.appendCharacter(32), length);
        }
        Check.due("13: one too many", x.appendCharacter(32), FULL);
        Check.due("13: out of range is named first", x.appendCharacter(256), INVALID);
        Check.due("13: length", x.count(12), 100);
        Check.due("13: nothing is saved", x.count(13), 0);
    }

    private static void promise14ClearText() {
        ThermostatColony x = new ThermostatColony();
        Check.due("14: clearText() of an empty text", x.clearText(), 0);
        Colonies.write(x, "5=x");
        Check.due("14: clearText()", x.clearText(), 3);
        Check.due("14: length", x.count(12), 0);
        Check.due("14: clearText() again", x.clearText(), 0);
        Check.due("14: nothing is saved", x.count(13), 0);
        Colonies.write(x, "5=6");
        Check.due("14: nothing of the old text is read", x.load(), 1);
        for (int i = 0; i < 100; i++) {
            x.appendCharacter('7');
        }
        Check.due("14: clearText() of a full text", x.clearText(), 100);
        Check.due("14: there is room again", x.appendCharacter('7'), 1);
    }

    private static void loads(String text, int want) {
        ThermostatColony x = new ThermostatColony();
        Check.due("15: load() of '" + text + "'", Colonies.load(x, text), want);
        boolean good = want >= 0;
        Check.due("15: text after '" + text + "'", x.count(12), good ? 0 : text.length());
        Check.due("15: points of '" + text + "'", x.count(9), good ? want : 0);
        Check.due("15: saved by '" + text + "'", x.count(13), good ? 1 : 0);
    }

    private static void promise15LoadsPoints() {
        loads("", 0);
        loads(" ", 0);
        loads("    ", 0);
        loads("0=0", 1);
        loads("9999=40", 1);
        loads("0=-40", 1);
        loads("5=-0", 1);
        loads("0=1;9999=2", 2);
        loads("  5  =  -7  ;  6  =  8  ", 2);
        loads("1=1;2=2;3=3", 3);
        loads(TWELVE, 12);
        loads(" ".repeat(94) + "10=-10", 1);
        loads("5=6" + " ".repeat(97), 1);
    }

    private static void failsAt(String text, int position) {
        loads(text, -10 - position);
    }

    private static void promise15NamesErrors() {
        // Characters that are not allowed where they stand.
        failsAt(";", 0);
        failsAt(" ;", 1);
        failsAt("=", 0);
        failsAt("-5=3", 0);
        failsAt("+5=3", 0);
        failsAt("x", 0);
        failsAt("5;", 1);
        failsAt("5 5=1", 2);
        failsAt("5x=1", 1);
        failsAt("5==1", 2);
        failsAt("5=;", 2);
        failsAt("5=+1", 2);
        failsAt("5=--1", 3);
        failsAt("5=- 1", 3);
        failsAt("5=-;", 3);
        failsAt("5=1 2", 4);
        failsAt("5=1-", 3);
        failsAt("5=1=", 3);
        failsAt("5=1;;", 4);
        failsAt("5=1; =", 5);
        failsAt("5=1;-6=1", 4);
        failsAt("5\t=1", 1);
        failsAt("5=1\0", 3);
        failsAt("5=1:", 3);
        failsAt("5=1/", 3);
        failsAt("5=\u00b2", 2);
        failsAt("\0", 0);
        failsAt("\u00ff", 0);
        failsAt("5=1;\0", 4);
        // Texts that end where something is missing.
        failsAt("5", 1);
        failsAt("5 ", 2);
        failsAt("5=", 2);
        failsAt("5= ", 3);
        failsAt("5=-", 3);
        failsAt("5=1;", 4);
        failsAt("5=1;  ", 6);
        failsAt("5=1; 6 =", 8);
        // Numbers out of their range, with a leading zero, or a minute that does not rise.
        failsAt("10000=1", 0);
        failsAt(" 99999x", 1);
        failsAt("4294967297=1", 0);
        failsAt("18446744073709551617=1", 0);
        failsAt("9".repeat(100), 0);
        failsAt("5=41", 2);
        failsAt("5=-41", 2);
        failsAt("5=  -41", 4);
        failsAt("5=4294967297", 2);
        failsAt("5=-" + "1".repeat(90), 2);
        failsAt("00=1", 0);
        failsAt("05=1", 0);
        failsAt("5=00", 2);
        failsAt("5=01", 2);
        failsAt("5=-01", 2);
        failsAt("5=-00", 2);
        failsAt("5=-00x", 2);
        failsAt("5=1;5=1", 4);
        failsAt("5=1; 4=1", 5);
        failsAt("0=1;0=1", 4);
        failsAt("5=1;06=1", 4);
        failsAt("5=1;5x", 4);
        // A point too many.
        failsAt(TWELVE + ";12=0", TWELVE.length() + 1);
        failsAt(TWELVE + ";  12", TWELVE.length() + 3);
        failsAt(TWELVE + ";  x", TWELVE.length() + 3);
        failsAt(TWELVE + ";", TWELVE.length() + 1);
        failsAt(TWELVE + "; ", TWELVE.length() + 2);
        failsAt(TWELVE + "x", TWELVE.length());
    }

    private static void promise15KeepsAllOnError() {
        ThermostatColony x = new ThermostatColony();
        Colonies.load(x, "10=-5;20=15");
        x.addRoom(100, 1, 1, 0);
        String before = Colonies.portraitOfState(x);
        Colonies.write(x, "1=1;2=2;3=3;4=x");
        Check.due("15: load() with an error", x.load(), -24);
        Check.due("15: load() with the same error", x.load(), -24);
        Check.holds("15: nothing changes on an error", before.equals(Colonies.portraitOfState(x)));
        Check.due("15: the text is kept", x.count(12), 15);
        Check.due("15: nothing is saved on an error", x.count(13), 2);
    }

    private static void promise15TakesThePlaceOfTheWeather() {
        ThermostatColony x = new ThermostatColony();
        Colonies.load(x, "10=-5;20=15;30=5");
        Check.due("15: a shorter weather", Colonies.load(x, "15=7"), 1);
        Check.due("15: outside(0)", x.outside(0), 7000);
        Check.due("15: outside(20000)", x.outside(20000), 7000);
        Check.due("15: no weather", Colonies.load(x, ""), 0);
        Check.due("15: outside(15)", x.outside(15), 0);
        Check.due("15: -0", Colonies.load(x, "15=-0"), 1);
        Check.due("15: outside(15) at -0", x.outside(15), 0);
    }

    private static void promise16Outside() {
        ThermostatColony x = new ThermostatColony();
        Colonies.load(x, "10=-5;20=15;30=-40;9999=40");
        int[][] want = {{0, -5000}, {9, -5000}, {10, -5000}, {11, -3000}, {19, 13000}, {20, 15000}, {21, 9500},
                {29, -34500}, {30, -40000}, {31, -39992}, {9998, 39991}, {9999, 40000}, {10000, 40000}, {20000, 40000}};
        for (int[] pair : want) {
            Check.due("16: outside(" + pair[0] + ")", x.outside(pair[0]), pair[1]);
        }
        for (int wrong : new int[] {-1, 20001, Integer.MIN_VALUE, Integer.MAX_VALUE}) {
            Check.due("16: outside(" + wrong + ")", x.outside(wrong), INVALID);
        }
        Colonies.load(x, "0=-40;9999=40");
        Check.due("16: 80000 * 9998 / 9999", x.outside(9998), 39991);
    }

    private static void promise16OutsideRoundsTowardZero() {
        ThermostatColony x = new ThermostatColony();
        Colonies.load(x, "0=5;3=4;6=5");
        // 5000 - 333 (333.3), 5000 - 666, and back: 4000 + 333, 4000 + 666.
        int[] want = {5000, 4667, 4334, 4000, 4333, 4666, 5000};
        for (int minute = 0; minute < want.length; minute++) {
            Check.due("16: outside(" + minute + ")", x.outside(minute), want[minute]);
        }
    }
}

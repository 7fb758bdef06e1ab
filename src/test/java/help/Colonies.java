/** What several tests do with a colony. */
final class Colonies {
    static final int INVALID = -1000001;
    static final int ILLEGAL = -1000002;
    static final int FULL = -1000003;
    static final int NONE = -1000009;

    static final String TWELVE_POINTS = "0=1;2=-3;4=5;6=7;8=9;10=11;20=12;30=13;40=14;50=15;60=16;9999=-40";
    /** Few, since an object is used for at most 512 calls. */
    private static final int[] MINUTES = {0, 1, 3, 4, 5, 7, 9, 15, 26, 49, 51, 300, 5000, 9998, 20000};

    private Colonies() {
    }

    static void write(ThermostatColony colony, String text) {
        for (int i = 0; i < text.length(); i++) {
            colony.appendCharacter(text.charAt(i));
        }
    }

    /** Puts the text in place of the present one, and reads it. */
    static int load(ThermostatColony colony, String text) {
        colony.clearText();
        write(colony, text);
        return colony.load();
    }

    /** A colony with one room whose blade follows its temperature at once. */
    static ThermostatColony quickBlade(int capacity, int power, int leak, int degrees) {
        ThermostatColony colony = new ThermostatColony();
        colony.setNumber(0, 100);
        colony.addRoom(capacity, power, leak, degrees);
        return colony;
    }

    /** A colony with no room, no weather, no text and no saved state. */
    static ThermostatColony empty() {
        return new ThermostatColony();
    }

    /** Two rooms, one of them welded and one cut out, a weather, a text, and three saved states. */
    static ThermostatColony busy() {
        ThermostatColony x = quickBlade(100, 200, 3, 15);
        x.addRoom(200, 50, 5, 35);
        x.setLink(0, 1, 9);
        load(x, "0=9;50=-3");
        x.setNumber(1, 200);
        x.setNumber(5, 24000);
        x.pass(4);
        x.warm(1, -4000);
        for (int i = 0; i < 3; i++) {
            x.setNumber(2, 5);
        }
        for (int i = 0; i < 3; i++) {
            x.undo();
        }
        write(x, "7=8; 9=-10");
        return x;
    }

    /** Six rooms, one of them with fines and one welded, twelve points, 100 characters, and six saved states. */
    static ThermostatColony full() {
        ThermostatColony x = new ThermostatColony();
        for (int room = 0; room < 6; room++) {
            x.addRoom(100 + 20 * room, 20 + 30 * room, 5 + room, 14 + room);
        }
        for (int room = 1; room < 6; room++) {
            x.setLink(room - 1, room, 3 * room);
        }
        load(x, TWELVE_POINTS);
        x.setNumber(0, 80);
        x.setNumber(1, 300);
        x.setNumber(3, 120);
        x.setNumber(5, 23000);
        x.setThermostat(3, 21000, 300);
        x.pass(60);
        x.warm(2, 500);
        write(x, "1=2;3=-4;5=6" + " ".repeat(84) + ";7=8");
        return x;
    }

    /** A colony at the time 20000, in which no minute can pass any more. */
    static ThermostatColony late() {
        ThermostatColony x = new ThermostatColony();
        x.addRoom(100, 50, 10, 18);
        for (int i = 0; i < 40; i++) {
            x.pass(500);
        }
        return x;
    }

    /** All that a colony tells without a change and without a forecast. */
    static String portrait(ThermostatColony colony) {
        StringBuilder all = new StringBuilder();
        for (int what = 0; what <= 13; what++) {
            all.append("count ").append(what).append(' ').append(colony.count(what)).append('\n');
        }
        all.append(portraitOfState(colony));
        return all.toString();
    }

    /** All that belongs to a state: everything but the text and the saved states. */
    static String portraitOfState(ThermostatColony colony) {
        StringBuilder all = new StringBuilder();
        for (int what = 0; what <= 11; what++) {
            all.append("count ").append(what).append(' ').append(colony.count(what)).append('\n');
        }
        int rooms = colony.count(7);
        for (int room = 0; room < rooms; room++) {
            for (int what = 0; what <= 13; what++) {
                all.append("room ").append(room).append(' ').append(what).append(' ')
                        .append(colony.room(room, what)).append('\n');
            }
            for (int what = 0; what <= 4; what++) {
                all.append("book ").append(room).append(' ').append(what).append(' ')
                        .append(colony.book(room, what)).append('\n');
            }
            for (int other = 0; other < room; other++) {
                all.append("link ").append(room).append(' ').append(other).append(' ')
                        .append(colony.link(room, other)).append('\n');
            }
        }
        for (int minute : MINUTES) {
            all.append("outside ").append(minute).append(' ').append(colony.outside(minute)).append('\n');
        }
        return all.toString();
    }
}

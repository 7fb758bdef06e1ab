/** What several tests do with a colony. */
final class Colonies {
    static final int INVALID = -1000001;
    static final int ILLEGAL = -1000002;
    static final int FULL = -1000003;
    static final int NONE = -1000009;

    private Colonies() {
    }

    static void write(ThermostatColony colony, String text) {
        for (int i = 0; i < text.length(); i++) {
            colony.appendCharacter(text.charAt(i));
        }
    }

    /** Puts the text in place of the present one, and reads it. */
    static int load(ThermostatColony colony, String text) {
        colony.clearText();
        write(colony, text);
        return colony.load();
    }

    /** A colony with one room whose blade follows its temperature at once. */
    static ThermostatColony quickBlade(int capacity, int power, int leak, int degrees) {
        ThermostatColony colony = new ThermostatColony();
        colony.setNumber(0, 100);
        colony.addRoom(capacity, power, leak, degrees);
        return colony;
    }

    /** All that a colony tells without a change, but for the text and the saved states. */
    static String portrait(ThermostatColony colony) {
        StringBuilder all = new StringBuilder();
        for (int what = 0; what <= 11; what++) {
            all.append("count ").append(what).append(' ').append(colony.count(what)).append('\n');
        }
        for (int room = 0; room < colony.count(7); room++) {
            for (int what = 0; what <= 13; what++) {
                all.append("room ").append(room).append(' ').append(what).append(' ')
                        .append(colony.room(room, what)).append('\n');
            }
            for (int what = 0; what <= 4; what++) {
                all.append("book ").append(room).append(' ').append(what).append(' ')
                        .append(colony.book(room, what)).append('\n');
            }
            for (int other = 0; other < colony.count(7); other++) {
                all.append("link ").append(room).append(' ').append(other).append(' ')
                        .append(colony.link(room, other)).append('\n');
            }
        }
        for (int minute = 0; minute <= 20000; minute += minute < 100 ? 1 : 97) {
            all.append("outside ").append(minute).append(' ').append(colony.outside(minute)).append('\n');
        }
        return all.toString();
    }
}

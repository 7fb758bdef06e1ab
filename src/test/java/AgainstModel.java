import java.util.Random;

/**
 * Promises 1 to 22: runs of up to 512 calls, always the same ones, on a colony and on the model
 * side by side. A run that differs is told with its number and ends there.
 */
public final class AgainstModel {
    private static final int RUNS = 400;
    private static final int CALLS = 512;
    /** A text that is written takes no more calls than that. */
    private static final int MOST_TO_WRITE = 200;
    private static final int[] WILD = {Integer.MIN_VALUE, -1, 0, 1, 6, 7, 13, 14, 51, 100, 101, 501, 1001, 5001,
            20001, 50001, Integer.MAX_VALUE};

    private final Random dice;
    private final ThermostatColony colony = new ThermostatColony();
    private final Model model = new Model();
    /** What this run does more than others. */
    private final int mood;
    private String call;
    private long got;
    private long want;

    private AgainstModel(int run) {
        dice = new Random(7919L * run + 11);
        mood = run % 6;
    }

    public static void main(String[] args) {
        for (int run = 0; run < RUNS && Check.wrong() < 5; run++) {
            new AgainstModel(run).go(run);
        }
        Check.end("AgainstModel");
    }

    private void go(int run) {
        int calls = 0;
        for (int start = 0; start < (mood == 5 ? 0 : 2 + mood); start++) {
            addRoom();
            calls++;
            told(run, calls);
        }
        while (calls < CALLS && got == want) {
            int kind = dice.nextInt(100);
            if (kind < 10 && calls + MOST_TO_WRITE < CALLS) {
                calls += write(run, calls);
            } else if (kind < 70) {
                act(kind);
            } else {
                ask(kind);
            }
            calls++;
            told(run, calls);
        }
    }

    private void told(int run, int calls) {
        Check.due("run " + run + ", call " + calls + ": " + call, got, want);
    }

    private void answers(String made, long first, long second) {
        call = made;
        got = first;
        want = second;
    }

    /** Mostly a value in the range, at times one at its edge, seldom a wrong one. */
    private int value(int least, int most) {
        int kind = dice.nextInt(40);
        if (kind == 0) {
            return WILD[dice.nextInt(WILD.length)];
        }
        if (kind == 1) {
            return dice.nextBoolean() ? least - 1 : most + 1;
        }
        if (kind < 5) {
            return dice.nextBoolean() ? least : most;
        }
        return least + dice.nextInt(most - least + 1);
    }

    private int anyRoom() {
        int rooms = model.count(7);
        return dice.nextInt(30) == 0 || rooms == 0 ? value(-1, 6) : dice.nextInt(rooms);
    }

    private void addRoom() {
        int capacity = dice.nextBoolean() ? value(10, 60) : value(10, 500);
        int power = value(1, 200);
        int leak = value(0, Math.max(1, Math.min(50, Math.max(0, capacity) / 4)));
        int degrees = dice.nextBoolean() ? value(10, 25) : value(-40, 40);
        answers("addRoom(" + capacity + ", " + power + ", " + leak + ", " + degrees + ")",
                colony.addRoom(capacity, power, leak, degrees), model.addRoom(capacity, power, leak, degrees));
    }

    private void setNumber() {
        int[][] ranges = {{1, 100}, {1, 9999}, {1, 50}, {0, 120}, {0, 100}, {20000, 90000}, {1, 120}};
        int[][] lively = {{60, 100}, {1, 400}, {1, 6}, {5, 60}, {1, 100}, {20000, 26000}, {1, 6}};
        int what = value(0, 6);
        int[] range = what < 0 || what > 6 ? ranges[0] : mood % 2 == 0 ? lively[what] : ranges[what];
        int value = value(range[0], range[1]);
        answers("setNumber(" + what + ", " + value + ")", colony.setNumber(what, value), model.setNumber(what, value));
    }

    private void setLink() {
        int first = anyRoom();
        int second = anyRoom();
        int link = dice.nextInt(3) == 0 ? value(0, 50) : value(0, 8);
        answers("setLink(" + first + ", " + second + ", " + link + ")",
                colony.setLink(first, second, link), model.setLink(first, second, link));
    }

    private void warm() {
        int room = anyRoom();
        int capacity = 100;
        int heat;
        int kind = dice.nextInt(4);
        if (kind == 0) {
            heat = value(-50000, 50000);
        } else if (kind == 1 && model.room(room, 1) != Colonies.INVALID) {
            // Near the limits of warm(): from the temperature and the heat the capacity is known.
            int temperature = model.room(room, 0);
            capacity = temperature == 0 ? 100 : (int) (1000L * model.room(room, 1) / temperature);
            int limit = (dice.nextBoolean() ? 200 : -200) * capacity;
            heat = limit - model.room(room, 1) + dice.nextInt(7) - 3;
        } else {
            heat = value(-800, 800);
        }
        answers("warm(" + room + ", " + heat + ")", colony.warm(room, heat), model.warm(room, heat));
    }

    private void setThermostat() {
        int room = anyRoom();
        int point = dice.nextBoolean() ? value(5000, 35000) : value(15000, 22000);
        int band = dice.nextBoolean() ? value(100, 5000) : value(100, 900);
        if (dice.nextInt(8) == 0 && model.room(room, 0) != Colonies.INVALID) {
            point = model.room(room, 12);
            band = model.room(room, 13);
        }
        answers("setThermostat(" + room + ", " + point + ", " + band + ")",
                colony.setThermostat(room, point, band), model.setThermostat(room, point, band));
    }

    private void act(int kind) {
        if (kind < 14) {
            addRoom();
        } else if (kind < 21) {
            setLink();
        } else if (kind < 27) {
            setThermostat();
        } else if (kind < 33) {
            setNumber();
        } else if (kind < 41) {
            warm();
        } else if (kind < 44) {
            int room = anyRoom();
            answers("service(" + room + ")", colony.service(room), model.service(room));
        } else if (kind < 48) {
            int room = anyRoom();
            answers("resetCutout(" + room + ")", colony.resetCutout(room), model.resetCutout(room));
        } else if (kind < 65) {
            int minutes = mood == 1 ? value(400, 500) : dice.nextInt(4) == 0 ? value(1, 500) : value(1, 12);
            answers("pass(" + minutes + ")", colony.pass(minutes), model.pass(minutes));
        } else {
            answers("undo()", colony.undo(), model.undo());
        }
    }

    private void ask(int kind) {
        if (kind < 84) {
            int room = anyRoom();
            int what = value(0, 13);
            answers("room(" + room + ", " + what + ")", colony.room(room, what), model.room(room, what));
        } else if (kind < 88) {
            int room = anyRoom();
            int what = value(0, 4);
            answers("book(" + room + ", " + what + ")", colony.book(room, what), model.book(room, what));
        } else if (kind < 90) {
            int first = anyRoom();
            int second = anyRoom();
            answers("link(" + first + ", " + second + ")", colony.link(first, second), model.link(first, second));
        } else if (kind < 93) {
            int what = value(0, 13);
            answers("count(" + what + ")", colony.count(what), model.count(what));
        } else if (kind < 95) {
            int minute = dice.nextBoolean() ? value(0, 20000) : value(0, 60);
            answers("outside(" + minute + ")", colony.outside(minute), model.outside(minute));
        } else {
            forecast(kind);
        }
    }

    private void forecast(int kind) {
        int room = anyRoom();
        if (kind == 95) {
            answers("minutesToSuspect(" + room + ")", colony.minutesToSuspect(room), model.minutesToSuspect(room));
        } else if (kind == 96) {
            int minutes = value(1, 1000);
            answers("heatIn(" + minutes + ")", colony.heatIn(minutes), model.heatIn(minutes));
        } else if (kind < 99) {
            int band = value(100, 5000);
            int minutes = value(1, 1000);
            answers("finesWith(" + room + ", " + band + ", " + minutes + ")",
                    colony.finesWith(room, band, minutes), model.finesWith(room, band, minutes));
        } else {
            int minutes = dice.nextInt(4) == 0 ? value(1, 300) : value(1, 30);
            answers("quietBand(" + room + ", " + minutes + ")",
                    colony.quietBand(room, minutes), model.quietBand(room, minutes));
        }
    }

    /** Writes a text, mostly a good one, and reads it; answers how many calls that took before load(). */
    private int write(int run, int before) {
        StringBuilder text = new StringBuilder();
        int points = dice.nextInt(8) == 0 ? 13 : dice.nextInt(6);
        int minute = dice.nextInt(4);
        for (int i = 0; i < points; i++) {
            text.append(i == 0 ? "" : ";").append(space()).append(minute).append(space()).append('=').append(space())
                    .append(dice.nextInt(points == 13 ? 10 : 82) - (points == 13 ? 0 : 41)).append(space());
            minute += dice.nextInt(20) == 0 ? 0 : 1 + dice.nextInt(dice.nextInt(5) == 0 ? 3000 : 20);
        }
        String signs = "0123456789=;- x";
        while (text.length() > 0 && dice.nextInt(3) == 0) {
            int place = dice.nextInt(text.length());
            char sign = signs.charAt(dice.nextInt(signs.length()));
            if (dice.nextBoolean()) {
                text.insert(place, sign);
            } else if (dice.nextBoolean()) {
                text.setCharAt(place, sign);
            } else {
                text.deleteCharAt(place);
            }
        }
        answers("clearText()", colony.clearText(), model.clearText());
        int calls = 1;
        told(run, before + calls);
        for (int i = 0; i < text.length(); i++) {
            int character = dice.nextInt(400) == 0 ? value(0, 255) : text.charAt(i);
            answers("appendCharacter(" + character + ")",
                    colony.appendCharacter(character), model.appendCharacter(character));
            calls++;
            told(run, before + calls);
        }
        answers("load()", colony.load(), model.load());
        return calls;
    }

    private String space() {
        return dice.nextInt(9) == 0 ? " " : "";
    }
}

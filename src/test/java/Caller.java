/** A new house, called by name; never more often than the document promises answers. */
final class Caller {
    static final int MOST_CALLS = 512;

    private final StrawHouse house = new StrawHouse();
    private int calls;

    double call(String name, int... values) {
        calls++;
        if (calls > MOST_CALLS) {
            throw new IllegalStateException("this test calls one house more than " + MOST_CALLS + " times");
        }
        switch (values.length) {
            case 0: return without(name);
            case 1: return withOne(name, values[0]);
            case 2: return withTwo(name, values[0], values[1]);
            default: return withFour(name, values);
        }
    }

    void typeAnew(String text) {
        call("clearText");
        for (char character : text.toCharArray()) {
            call("type", character);
        }
    }

    private double without(String name) {
        switch (name) {
            case "vote": return house.vote();
            case "clearText": return house.clearText();
            case "perform": return house.perform();
            case "undo": return house.undo();
            case "keep": return house.keep();
            case "restore": return house.restore();
            case "swings": return house.swings();
            case "withoutCrows": return house.withoutCrows();
            default: throw new IllegalArgumentException("no method " + name);
        }
    }

    private double withOne(String name, int value) {
        switch (name) {
            case "scare": return house.scare(value);
            case "pass": return house.pass(value);
            case "type": return house.type((char) value);
            case "stopped": return house.stopped(value);
            case "straw": return house.straw(value);
            case "reason": return house.reason(value);
            case "decision": return house.decision(value);
            case "turnsIn": return house.turnsIn(value);
            case "count": return house.count(value);
            default: throw new IllegalArgumentException("no method " + name);
        }
    }

    private double withTwo(String name, int first, int second) {
        switch (name) {
            case "carry": return house.carry(first, second);
            case "face": return house.face(first, second);
            case "crow": return house.crow(first, second);
            case "fill": return house.fill(first, second);
            case "seats": return house.seats(first, second);
            case "wind": return house.wind(first, second);
            case "set": return house.set(first, second);
            case "scarecrow": return house.scarecrow(first, second);
            case "weight": return house.weight(first, second);
            case "field": return house.field(first, second);
            case "ifTicks": return house.ifTicks(first, second);
            default: throw new IllegalArgumentException("no method " + name);
        }
    }

    private double withFour(String name, int[] values) {
        if (!name.equals("setUp") || values.length != 4) {
            throw new IllegalArgumentException("no method " + name);
        }
        return house.setUp(values[0], values[1], values[2], values[3]);
    }
}

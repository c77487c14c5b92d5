/** All that a house tells of itself, in one text, so that two moments can be compared. */
final class Told {
    private Told() {
    }

    static String of(StrawHouse house) {
        StringBuilder all = new StringBuilder();
        for (int what = 0; what <= 15; what++) {
            all.append(what == 0 ? "counts " : " ").append(house.count(what));
        }
        for (int s = 0; s < 12; s++) {
            addScarecrow(all, house, s);
        }
        for (int f = 0; f < 6; f++) {
            addField(all, house, f);
        }
        all.append("\nhouse ").append(house.decision(0)).append(' ').append(house.decision(1));
        all.append(' ').append(house.swings()).append(' ').append(house.withoutCrows());
        all.append(" stop ").append(house.stopped(0)).append(' ').append(house.stopped(1));
        return all.append('\n').toString();
    }

    private static void addScarecrow(StringBuilder all, StrawHouse house, int s) {
        all.append("\nscarecrow ").append(s);
        for (int what = 0; what <= 10; what++) {
            all.append(' ').append(house.scarecrow(s, what));
        }
        all.append(' ').append(house.straw(s)).append(' ').append(house.turnsIn(s));
    }

    private static void addField(StringBuilder all, StrawHouse house, int f) {
        all.append("\nfield ").append(f);
        for (int what = 0; what <= 3; what++) {
            all.append(' ').append(house.field(f, what));
        }
        all.append(' ').append(house.reason(f));
        for (int way = 0; way < 4; way++) {
            all.append(' ').append(house.weight(f, way));
        }
    }
}

/** Lands that several tests begin with. */
final class Lands {
    private Lands() {
    }

    static MapCarrier withPlaces(int count) {
        MapCarrier x = new MapCarrier();
        for (int i = 0; i < count; i++) {
            x.addPlace();
        }
        return x;
    }

    /** From 0 a dead end to 1 over 2 miles, and a way over 2 to 3 of 3 and 4 miles. */
    static MapCarrier fork() {
        MapCarrier x = withPlaces(4);
        x.addRoad(0, 1, 2);
        x.addRoad(0, 2, 3);
        x.addRoad(2, 3, 4);
        return x;
    }

    /** From 0 to 1, from there to 2 by two roads, and to 3 by the last exit. */
    static MapCarrier loop() {
        MapCarrier x = withPlaces(4);
        x.addRoad(0, 1, 1);
        x.addRoad(1, 2, 2);
        x.addRoad(2, 1, 3);
        x.addRoad(1, 3, 4);
        return x;
    }

    /** Goes an errand till it is over; returns how many steps it had. */
    static int goTo(MapCarrier x, int goal) {
        x.beginErrand(goal);
        return x.goal() == -1 ? 0 : x.goOn(100);
    }
}

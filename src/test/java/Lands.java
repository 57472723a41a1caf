/** Lands that several tests begin with. */
final class Lands {
    private Lands() {
    }

    static MapCarrier withPlaces(int count) {
        MapCarrier x = new MapCarrier();
        for (int i = 0; i < count; i++) {
            x.addPlace();
        }
        return x;
    }

    /** From 0 a dead end to 1 over 2 miles, and a way over 2 to 3 of 3 and 4 miles. */
    static MapCarrier fork() {
        MapCarrier x = withPlaces(4);
        x.addRoad(0, 1, 2);
        x.addRoad(0, 2, 3);
        x.addRoad(2, 3, 4);
        return x;
    }

    /** From 0 to 1, from there to 2 by two roads, and to 3 by the last exit. */
    static MapCarrier loop() {
        MapCarrier x = withPlaces(4);
        x.addRoad(0, 1, 1);
        x.addRoad(1, 2, 2);
        x.addRoad(2, 1, 3);
        x.addRoad(1, 3, 4);
        return x;
    }

    /** Ten places in a row that closes to a ring, each joined to the next one by two roads, of 1 to 9 miles. */
    static MapCarrier full() {
        MapCarrier x = withPlaces(10);
        for (int place = 0; place < 10; place++) {
            x.addRoad(place, (place + 1) % 10, 1 + place % 9);
            x.addRoad(place, (place + 1) % 10, 9 - place % 9);
        }
        return x;
    }

    /** Places in a row, each joined to the next one by a road of so many miles. */
    static MapCarrier row(int places, int miles) {
        MapCarrier x = withPlaces(places);
        for (int place = 0; place + 1 < places; place++) {
            x.addRoad(place, place + 1, miles);
        }
        return x;
    }

    /** Of six places, where 0 has its four exits, to 1 to 4 over 1 to 4 miles, and 5 has none. */
    static MapCarrier star() {
        MapCarrier x = withPlaces(6);
        for (int place = 1; place <= 4; place++) {
            x.addRoad(0, place, place);
        }
        return x;
    }

    /** The longest errand's land: 0 to 8 in a ring with two roads of 9 miles between neighbours, and 9 apart. */
    static MapCarrier longest() {
        MapCarrier x = withPlaces(10);
        for (int place = 0; place < 9; place++) {
            x.addRoad(place, (place + 1) % 9, 9);
            x.addRoad(place, (place + 1) % 9, 9);
        }
        return x;
    }

    /** Goes an errand till it is over; returns how many steps it had. */
    static int goTo(MapCarrier x, int goal) {
        x.beginErrand(goal);
        return x.goal() == -1 ? 0 : x.goOn(100);
    }

    /** Three places in a row, where each exit to 2 is remembered for 2, and to 0 for 0, with this strength. */
    static MapCarrier remembering(int strength) {
        MapCarrier x = row(3, 1);
        for (int i = 0; i < 3; i++) {
            goTo(x, 2);
            goTo(x, 0);
        }
        if (strength < 9) {
            x.sleep(9 - strength);
        }
        return x;
    }
}

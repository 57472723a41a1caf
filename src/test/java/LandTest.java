/** Promises 1 to 5 and 11 to 17: the land, and what there is of it. */
public final class LandTest {
    private static final Check CHECK = new Check();

    private LandTest() {
    }

    public static void main(String[] args) {
        newObject();
        addPlace();
        addRoad();
        addRoadWrongly();
        turnRoad();
        turnShepherd();
        whatThereIs();
        distance();
        CHECK.close();
    }

    private static void newObject() {
        MapCarrier x = new MapCarrier();
        CHECK.same("1: places", x.places(), 0);
        CHECK.same("1: whereIs", x.whereIs(), -1);
        CHECK.same("1: coins", x.coins(), 0);
        CHECK.same("1: goal", x.goal(), -1);
        CHECK.same("1: wayLength", x.wayLength(), 0);
        CHECK.same("1: milesWalked", x.milesWalked(), 0);
        CHECK.same("1: milesDoubled", x.milesDoubled(), 0);
        CHECK.same("1: errandsDone", x.errandsDone(), 0);
        CHECK.same("1: errandsInVain", x.errandsInVain(), 0);
        CHECK.same("1: asked", x.asked(), 0);
        CHECK.sameDouble("1: meanMiles", x.meanMiles(), 0.0);
    }

    private static void addPlace() {
        MapCarrier x = new MapCarrier();
        for (int i = 0; i < 10; i++) {
            CHECK.same("2: addPlace", x.addPlace(), i);
            CHECK.same("11: places", x.places(), i + 1);
            CHECK.same("18: whereIs", x.whereIs(), 0);
            CHECK.same("12: exitsOf a new place", x.exitsOf(i), 0);
            CHECK.same("16: hasShepherd at a new place", x.hasShepherd(i), false);
        }
        CHECK.refuses("2: an eleventh place", x, IllegalStateException.class, () -> x.addPlace());
    }

    private static void addRoad() {
        MapCarrier x = Lands.withPlaces(10);
        CHECK.same("3: the first exit", x.addRoad(9, 0, 1), 0);
        CHECK.same("3: the exit at the first place", x.addRoad(0, 9, 9), 1);
        CHECK.same("3: one of the second place has more", x.addRoad(5, 0, 4), 0);
        CHECK.same("3: a fourth exit", x.addRoad(0, 4, 5), 3);
        CHECK.same("12: exitsOf 0", x.exitsOf(0), 4);
        CHECK.same("12: exitsOf 9", x.exitsOf(9), 2);
        CHECK.same("12: exitsOf 5", x.exitsOf(5), 1);
        CHECK.same("12: exitsOf 1", x.exitsOf(1), 0);
        int[] ends = {9, 9, 5, 4};
        int[] miles = {1, 9, 4, 5};
        for (int exit = 0; exit < 4; exit++) {
            CHECK.same("13: leadsTo 0", x.leadsTo(0, exit), ends[exit]);
            CHECK.same("14: milesOf 0", x.milesOf(0, exit), miles[exit]);
            CHECK.same("15: isOpen 0", x.isOpen(0, exit), true);
        }
        CHECK.same("13: leadsTo from 9", x.leadsTo(9, 1), 0);
        CHECK.same("14: milesOf 9", x.milesOf(9, 1), 9);
        CHECK.same("13: leadsTo from 4", x.leadsTo(4, 0), 0);
        CHECK.refuses("3: a fifth exit of the first", x, IllegalStateException.class, () -> x.addRoad(0, 1, 1));
        CHECK.refuses("3: a fifth exit of the second", x, IllegalStateException.class, () -> x.addRoad(1, 0, 1));
        CHECK.same("3: other places have room", x.addRoad(9, 4, 2), 2);
    }

    private static void addRoadWrongly() {
        MapCarrier x = Lands.withPlaces(2);
        int[][] noPlace = {{-1, 0}, {2, 0}, {0, -1}, {0, 2}, {2, 2}, {Integer.MIN_VALUE, 1}, {1, Integer.MAX_VALUE}};
        for (int[] pair : noPlace) {
            CHECK.refuses("3: no such place, miles wrong as well", x, IndexOutOfBoundsException.class,
                () -> x.addRoad(pair[0], pair[1], 0));
        }
        int[] wrongMiles = {0, 10, -1, Integer.MIN_VALUE, Integer.MAX_VALUE};
        for (int miles : wrongMiles) {
            CHECK.refuses("3: miles", x, IllegalArgumentException.class, () -> x.addRoad(0, 1, miles));
        }
        CHECK.refuses("3: to itself", x, IllegalArgumentException.class, () -> x.addRoad(1, 1, 5));
        for (int i = 0; i < 4; i++) {
            x.addRoad(0, 1, 5);
        }
        CHECK.refuses("3: full, and no such place", x, IndexOutOfBoundsException.class, () -> x.addRoad(0, 2, 5));
        CHECK.refuses("3: full, and to itself", x, IllegalArgumentException.class, () -> x.addRoad(0, 0, 5));
        CHECK.refuses("3: full, and miles", x, IllegalArgumentException.class, () -> x.addRoad(0, 1, 10));
        CHECK.refuses("3: full", x, IllegalStateException.class, () -> x.addRoad(0, 1, 5));
    }

    private static void turnRoad() {
        MapCarrier x = Lands.withPlaces(3);
        x.addRoad(0, 1, 3);
        x.addRoad(2, 1, 3);
        CHECK.same("4: it is closed", x.turnRoad(1, 1), false);
        CHECK.same("15: closed here", x.isOpen(1, 1), false);
        CHECK.same("15: closed at the other end", x.isOpen(2, 0), false);
        CHECK.same("15: another road is open", x.isOpen(1, 0), true);
        CHECK.same("4: it is opened from the other end", x.turnRoad(2, 0), true);
        CHECK.same("15: open again", x.isOpen(1, 1), true);
        refuseWrongExits("4: turnRoad", x, (place, exit) -> x.turnRoad(place, exit));
    }

    private static void turnShepherd() {
        MapCarrier x = Lands.withPlaces(10);
        CHECK.same("5: one comes", x.turnShepherd(9), true);
        CHECK.same("16: hasShepherd", x.hasShepherd(9), true);
        CHECK.same("16: nowhere else", x.hasShepherd(8), false);
        CHECK.same("5: and goes", x.turnShepherd(9), false);
        CHECK.same("16: gone", x.hasShepherd(9), false);
        CHECK.refuses("5: no such place", x, IndexOutOfBoundsException.class, () -> x.turnShepherd(10));
        CHECK.refuses("5: no such place", x, IndexOutOfBoundsException.class, () -> x.turnShepherd(-1));
    }

    private static void whatThereIs() {
        MapCarrier x = Lands.withPlaces(3);
        x.addRoad(0, 1, 3);
        x.addRoad(1, 2, 7);
        refuseWrongExits("13: leadsTo", x, (place, exit) -> x.leadsTo(place, exit));
        refuseWrongExits("14: milesOf", x, (place, exit) -> x.milesOf(place, exit));
        refuseWrongExits("15: isOpen", x, (place, exit) -> x.isOpen(place, exit));
        refuseWrongExits("22: isTried", x, (place, exit) -> x.isTried(place, exit));
        int[] wrong = {-1, 3, 10, Integer.MIN_VALUE, Integer.MAX_VALUE};
        for (int place : wrong) {
            CHECK.refuses("12: exitsOf", x, IndexOutOfBoundsException.class, () -> x.exitsOf(place));
            CHECK.refuses("16: hasShepherd", x, IndexOutOfBoundsException.class, () -> x.hasShepherd(place));
            CHECK.refuses("17: distance from", x, IndexOutOfBoundsException.class, () -> x.distance(place, 0));
            CHECK.refuses("17: distance to", x, IndexOutOfBoundsException.class, () -> x.distance(0, place));
            CHECK.refuses("17: distance of the same", x, IndexOutOfBoundsException.class,
                () -> x.distance(place, place));
        }
    }

    private static void distance() {
        MapCarrier x = Lands.withPlaces(5);
        x.addRoad(0, 1, 9);
        x.addRoad(0, 2, 2);
        x.addRoad(2, 3, 3);
        x.addRoad(3, 1, 1);
        x.addRoad(0, 1, 7);
        CHECK.same("17: the shortest way has more roads", x.distance(0, 1), 6);
        CHECK.same("17: and back", x.distance(1, 0), 6);
        CHECK.same("17: the same place", x.distance(3, 3), 0);
        CHECK.same("17: none", x.distance(0, 4), -1);
        CHECK.same("17: none back", x.distance(4, 0), -1);
        CHECK.same("17: the same place without roads", x.distance(4, 4), 0);
        x.turnRoad(3, 0);
        CHECK.same("17: the shorter one of two roads", x.distance(0, 1), 7);
        x.turnRoad(0, 2);
        CHECK.same("17: the longer one", x.distance(0, 1), 9);
        x.turnRoad(0, 0);
        CHECK.same("17: all are closed", x.distance(0, 1), -1);
        CHECK.same("17: beyond the closed one", x.distance(1, 3), 1);
        farthest();
    }

    private static void farthest() {
        MapCarrier x = Lands.withPlaces(10);
        for (int place = 9; place > 0; place--) {
            x.addRoad(place, place - 1, 9);
        }
        CHECK.same("17: nine roads", x.distance(0, 9), 81);
        CHECK.same("17: nine roads back", x.distance(9, 0), 81);
    }

    private interface ExitCall {
        Object of(int place, int exit);
    }

    /** Of three places, where the one in the middle has two exits and the others have one. */
    private static void refuseWrongExits(String what, MapCarrier x, ExitCall call) {
        int[][] wrong = {{-1, 0}, {3, 0}, {0, -1}, {0, 1}, {1, 2}, {1, 4}, {2, 1}, {2, -1},
            {Integer.MIN_VALUE, 0}, {Integer.MAX_VALUE, 0}, {1, Integer.MIN_VALUE}, {1, Integer.MAX_VALUE}};
        for (int[] pair : wrong) {
            CHECK.refuses(what + "(" + pair[0] + ", " + pair[1] + ")", x, IndexOutOfBoundsException.class,
                () -> call.of(pair[0], pair[1]));
        }
    }
}

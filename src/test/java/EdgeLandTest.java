/** The land's boundary cases: promises 1 to 5 and 11 to 17, and "Land." of the terms; each sentence has its method. */
public final class EdgeLandTest {
    private static final Check CHECK = new Check();

    private interface PlaceCall {
        Object of(int place);
    }

    private interface PairCall {
        Object of(int a, int b);
    }

    private EdgeLandTest() {
    }

    public static void main(String[] args) {
        aLandWithoutPlaces();
        placesFromNoneToTen();
        noEleventhPlace();
        aPlaceWithoutExits();
        milesFromOneToNine();
        milesBeyond();
        anotherPlace();
        exitsFromNoneToFour();
        noFifthExitAtTheFirst();
        noFifthExitAtTheSecond();
        noFifthExitAtBoth();
        allTwentyRoads();
        exitNumbersOfBothEnds();
        severalRoadsBetweenTwoPlaces();
        noSuchPlaceForARoad();
        firstNamedOfARoad();
        openAndClosed();
        theFirstAndTheLastShepherd();
        noSuchPlace();
        noSuchExit();
        noSuchPairOfPlaces();
        distanceToTheSamePlace();
        noWay();
        nearestAndFarthest();
        oneMileLess();
        CHECK.close();
    }

    /** "Creates a land without places." */
    private static void aLandWithoutPlaces() {
        MapCarrier x = new MapCarrier();
        CHECK.same("1, 11: places", x.places(), 0);
        CHECK.same("1, 18: whereIs", x.whereIs(), -1);
        CHECK.same("1, 19: coins", x.coins(), 0);
        CHECK.same("1, 20: goal", x.goal(), -1);
        CHECK.same("1, 21: wayLength", x.wayLength(), 0);
        CHECK.same("1, 26: milesWalked", x.milesWalked(), 0);
        CHECK.same("1, 27: milesDoubled", x.milesDoubled(), 0);
        CHECK.same("1, 28: errandsDone", x.errandsDone(), 0);
        CHECK.same("1, 29: errandsInVain", x.errandsInVain(), 0);
        CHECK.same("1, 30: asked", x.asked(), 0);
        CHECK.sameDouble("1, 33: meanMiles", x.meanMiles(), 0.0);
        CHECK.same("1, 34: digest", x.digest(), 1535162927736499151L);
        refusePlaces("a land without places", x, new int[] {0, 1, -1, 9, 10, Integer.MIN_VALUE, Integer.MAX_VALUE});
        refuseExits("a land without places", x, new int[][] {{0, 0}, {0, -1}, {-1, 0}, {-1, 4}, {9, 3}});
        refusePairs("a land without places", x, 0, 0);
        CHECK.refuses("3: no places", x, IndexOutOfBoundsException.class, () -> x.addRoad(0, 1, 1));
        CHECK.refuses("3: no places, to itself", x, IndexOutOfBoundsException.class, () -> x.addRoad(0, 0, 0));
    }

    /** "It has at most 10 places, numbered from 0." "Returns the number of a new place." */
    private static void placesFromNoneToTen() {
        MapCarrier x = new MapCarrier();
        for (int i = 0; i < 10; i++) {
            CHECK.same("2: the number", x.addPlace(), i);
            CHECK.same("11: how many", x.places(), i + 1);
            CHECK.same("12: the newest is there", x.exitsOf(i), 0);
            CHECK.same("18: at the first one", x.whereIs(), 0);
            int next = i + 1;
            CHECK.refuses("12: the next is not", x, IndexOutOfBoundsException.class, () -> x.exitsOf(next));
        }
    }

    /** "Throws IllegalStateException if there are 10" */
    private static void noEleventhPlace() {
        MapCarrier x = Lands.withPlaces(9);
        CHECK.same("2: the tenth", x.addPlace(), 9);
        CHECK.refuses("2: an eleventh", x, IllegalStateException.class, () -> x.addPlace());
        CHECK.refuses("2: and once more", x, IllegalStateException.class, () -> x.addPlace());
        CHECK.same("11: still ten", x.places(), 10);
        CHECK.refuses("12: no place 10", x, IndexOutOfBoundsException.class, () -> x.exitsOf(10));
        MapCarrier y = Lands.withPlaces(9);
        y.addRoad(0, 8, 1);
        y.beginErrand(8);
        CHECK.same("2: the tenth during an errand", y.addPlace(), 9);
        CHECK.refuses("2: an eleventh during an errand", y, IllegalStateException.class, () -> y.addPlace());
        CHECK.same("20: the errand goes on", y.goal(), 8);
    }

    /** "At a place there is a shepherd, or none (at first)." And no exit, before a road is made. */
    private static void aPlaceWithoutExits() {
        MapCarrier x = Lands.withPlaces(10);
        for (int place = 0; place < 10; place++) {
            CHECK.same("12: none", x.exitsOf(place), 0);
            CHECK.same("16: none", x.hasShepherd(place), false);
            refuseExits("no exits", x, new int[][] {{place, 0}, {place, 1}, {place, 3}, {place, 4}, {place, -1}});
        }
    }

    /** "Over 1 to 9 miles", which "miles is not 1 to 9" lets pass. */
    private static void milesFromOneToNine() {
        MapCarrier x = Lands.withPlaces(10);
        for (int miles = 1; miles <= 9; miles++) {
            CHECK.same("3: taken", x.addRoad(miles - 1, miles, miles), miles == 1 ? 0 : 1);
            CHECK.same("14: here", x.milesOf(miles - 1, miles == 1 ? 0 : 1), miles);
            CHECK.same("14: at the other end", x.milesOf(miles, 0), miles);
            CHECK.same("17: so far", x.distance(miles - 1, miles), miles);
        }
    }

    /** "Throws IllegalArgumentException if ... miles is not 1 to 9" */
    private static void milesBeyond() {
        MapCarrier x = Lands.withPlaces(2);
        for (int miles : Beyond.range(1, 9)) {
            CHECK.refuses("3: miles " + miles, x, IllegalArgumentException.class, () -> x.addRoad(0, 1, miles));
        }
        CHECK.same("12: no exit was made", x.exitsOf(0), 0);
        CHECK.same("12: nor at the other place", x.exitsOf(1), 0);
        CHECK.same("3: the first exit is the first still", x.addRoad(0, 1, 1), 0);
    }

    /** "Throws IllegalArgumentException if both are the same" */
    private static void anotherPlace() {
        MapCarrier x = Lands.withPlaces(10);
        for (int place = 0; place < 10; place++) {
            int same = place;
            CHECK.refuses("3: to itself", x, IllegalArgumentException.class, () -> x.addRoad(same, same, 1));
            CHECK.refuses("3: to itself", x, IllegalArgumentException.class, () -> x.addRoad(same, same, 9));
        }
    }

    /** "A place has at most 4 exits, numbered from 0 in the order in which their roads were made." */
    private static void exitsFromNoneToFour() {
        MapCarrier x = Lands.withPlaces(10);
        for (int exit = 0; exit < 4; exit++) {
            CHECK.same("3: the number at the first place", x.addRoad(9, exit, exit + 1), exit);
            CHECK.same("12: so many", x.exitsOf(9), exit + 1);
            CHECK.same("12: one at the other place", x.exitsOf(exit), 1);
            CHECK.same("13: there", x.leadsTo(9, exit), exit);
            CHECK.same("13: and back", x.leadsTo(exit, 0), 9);
            int next = exit + 1;
            CHECK.refuses("13: the next", x, IndexOutOfBoundsException.class, () -> x.leadsTo(9, next));
        }
    }

    /** "Throws IllegalStateException if one of them has 4 exits": the first one. */
    private static void noFifthExitAtTheFirst() {
        MapCarrier x = Lands.star();
        CHECK.refuses("3: 0 is full", x, IllegalStateException.class, () -> x.addRoad(0, 5, 1));
        CHECK.refuses("3: 0 is full", x, IllegalStateException.class, () -> x.addRoad(0, 1, 9));
        CHECK.same("12: none at the other place", x.exitsOf(5), 0);
        CHECK.same("3: and its first one is the first still", x.addRoad(5, 1, 1), 0);
    }

    /** "Throws IllegalStateException if one of them has 4 exits": the second one. */
    private static void noFifthExitAtTheSecond() {
        MapCarrier x = Lands.star();
        CHECK.refuses("3: 0 is full", x, IllegalStateException.class, () -> x.addRoad(5, 0, 1));
        CHECK.refuses("3: 0 is full", x, IllegalStateException.class, () -> x.addRoad(1, 0, 9));
        CHECK.same("12: none at the first place", x.exitsOf(5), 0);
        CHECK.same("3: and its first one is the first still", x.addRoad(5, 1, 1), 0);
    }

    /** "Throws IllegalStateException if one of them has 4 exits": both, and one exit less at each of them. */
    private static void noFifthExitAtBoth() {
        MapCarrier x = Lands.withPlaces(3);
        for (int exit = 0; exit < 3; exit++) {
            x.addRoad(0, 1, 1);
        }
        CHECK.same("3: the fourth of both", x.addRoad(1, 0, 9), 3);
        CHECK.refuses("3: both are full", x, IllegalStateException.class, () -> x.addRoad(0, 1, 1));
        CHECK.refuses("3: both are full", x, IllegalStateException.class, () -> x.addRoad(1, 0, 1));
        x.turnRoad(0, 0);
        CHECK.refuses("3: a closed road is an exit still", x, IllegalStateException.class, () -> x.addRoad(0, 2, 1));
    }

    /** 10 places with 4 exits each: nothing more has room. */
    private static void allTwentyRoads() {
        MapCarrier x = Lands.full();
        for (int a = 0; a < 10; a++) {
            CHECK.same("12: four", x.exitsOf(a), 4);
            CHECK.same("13: on", x.leadsTo(a, a == 0 ? 0 : 2), (a + 1) % 10);
            for (int b = 0; b < 10; b++) {
                int first = a;
                int second = b;
                if (a != b) {
                    CHECK.refuses("3: full", x, IllegalStateException.class, () -> x.addRoad(first, second, 5));
                }
            }
        }
        CHECK.refuses("2: full", x, IllegalStateException.class, () -> x.addPlace());
    }

    /** "Returns the number of its exit at the first place", whatever it is at the second one. */
    private static void exitNumbersOfBothEnds() {
        MapCarrier x = Lands.withPlaces(6);
        for (int place = 1; place < 4; place++) {
            x.addRoad(0, place, place);
        }
        CHECK.same("3: the smallest, at a place that has 3", x.addRoad(5, 0, 7), 0);
        CHECK.same("13: the largest leads back", x.leadsTo(0, 3), 5);
        CHECK.same("14: over its miles", x.milesOf(0, 3), 7);
        MapCarrier y = Lands.withPlaces(6);
        for (int place = 1; place < 4; place++) {
            y.addRoad(0, place, place);
        }
        CHECK.same("3: the largest, to a place that has none", y.addRoad(0, 5, 7), 3);
        CHECK.same("13: the smallest leads back", y.leadsTo(5, 0), 0);
    }

    /** "There can be several roads between two places." */
    private static void severalRoadsBetweenTwoPlaces() {
        MapCarrier x = Lands.withPlaces(2);
        for (int exit = 0; exit < 4; exit++) {
            CHECK.same("3: one more", x.addRoad(exit % 2, 1 - exit % 2, 9 - exit), exit);
        }
        CHECK.same("17: the shortest", x.distance(0, 1), 6);
        CHECK.same("4: it alone is closed", x.turnRoad(1, 3), false);
        for (int exit = 0; exit < 4; exit++) {
            CHECK.same("13: all lead there", x.leadsTo(0, exit), 1);
            CHECK.same("14: over their miles", x.milesOf(1, exit), 9 - exit);
            CHECK.same("15: the others are open", x.isOpen(0, exit), exit != 3);
        }
        CHECK.same("17: the next one", x.distance(0, 1), 7);
    }

    /** "Throws IndexOutOfBoundsException if there is no such place": the first, the second, or both. */
    private static void noSuchPlaceForARoad() {
        MapCarrier x = Lands.withPlaces(3);
        for (int place : Beyond.places(x)) {
            CHECK.refuses("3: first " + place, x, IndexOutOfBoundsException.class, () -> x.addRoad(place, 0, 1));
            CHECK.refuses("3: second " + place, x, IndexOutOfBoundsException.class, () -> x.addRoad(0, place, 1));
            CHECK.refuses("3: both " + place, x, IndexOutOfBoundsException.class, () -> x.addRoad(place, -1, 1));
        }
        CHECK.same("3: the last place is one", x.addRoad(2, 0, 1), 0);
        CHECK.same("3: at both ends", x.addRoad(0, 2, 1), 1);
    }

    /** "If several exceptions apply, the one that is named first is thrown": the three of addRoad. */
    private static void firstNamedOfARoad() {
        MapCarrier x = Lands.star();
        int end = x.places();
        CHECK.refuses("3: no place, and miles", x, IndexOutOfBoundsException.class, () -> x.addRoad(end, 5, 0));
        CHECK.refuses("3: no place, and miles", x, IndexOutOfBoundsException.class, () -> x.addRoad(5, -1, 10));
        CHECK.refuses("3: no place, and the same", x, IndexOutOfBoundsException.class, () -> x.addRoad(end, end, 1));
        CHECK.refuses("3: no place, and the same", x, IndexOutOfBoundsException.class, () -> x.addRoad(-1, -1, 1));
        CHECK.refuses("3: no place, and full", x, IndexOutOfBoundsException.class, () -> x.addRoad(0, end, 1));
        CHECK.refuses("3: no place, and full", x, IndexOutOfBoundsException.class, () -> x.addRoad(-1, 0, 1));
        CHECK.refuses("3: no place, miles, full", x, IndexOutOfBoundsException.class, () -> x.addRoad(0, end, 0));
        CHECK.refuses("3: the same, and full", x, IllegalArgumentException.class, () -> x.addRoad(0, 0, 1));
        CHECK.refuses("3: the same, miles, full", x, IllegalArgumentException.class, () -> x.addRoad(0, 0, 0));
        CHECK.refuses("3: miles, and full at the first", x, IllegalArgumentException.class, () -> x.addRoad(0, 5, 0));
        CHECK.refuses("3: miles, and full at the second", x, IllegalArgumentException.class,
            () -> x.addRoad(5, 0, 10));
        CHECK.refuses("3: full alone", x, IllegalStateException.class, () -> x.addRoad(5, 0, 9));
    }

    /** "It is open (at first), or closed." "Returns whether it is open then." */
    private static void openAndClosed() {
        MapCarrier x = Lands.full();
        for (int place = 0; place < 10; place++) {
            for (int exit = 0; exit < 4; exit++) {
                CHECK.same("15: open at first", x.isOpen(place, exit), true);
            }
        }
        int[][] edges = {{0, 0}, {0, 3}, {9, 0}, {9, 3}};
        for (int[] edge : edges) {
            CHECK.same("4: closed", x.turnRoad(edge[0], edge[1]), false);
            CHECK.same("15: closed here", x.isOpen(edge[0], edge[1]), false);
            CHECK.same("15: two ends and no more", closedEnds(x), 2);
            CHECK.same("4: open", x.turnRoad(edge[0], edge[1]), true);
            CHECK.same("15: none is closed", closedEnds(x), 0);
        }
        CHECK.same("13: the other end of 0's first", x.leadsTo(0, 0), 1);
        CHECK.same("4: closed", x.turnRoad(0, 0), false);
        CHECK.same("15: closed at the other end", x.isOpen(1, 0), false);
        CHECK.same("4: and opened from there", x.turnRoad(1, 0), true);
        CHECK.same("15: open at both", x.isOpen(0, 0), true);
    }

    /** "Brings a shepherd to a place, or takes the one who is there away." "Returns whether there is one then." */
    private static void theFirstAndTheLastShepherd() {
        MapCarrier x = Lands.withPlaces(10);
        int[] edges = {0, 9};
        for (int edge : edges) {
            CHECK.same("5: there is one", x.turnShepherd(edge), true);
            for (int place = 0; place < 10; place++) {
                CHECK.same("16: there alone", x.hasShepherd(place), place == edge);
            }
            CHECK.same("5: there is none", x.turnShepherd(edge), false);
            CHECK.same("16: nor anywhere", x.hasShepherd(edge), false);
        }
        for (int place = 0; place < 10; place++) {
            CHECK.same("5: one everywhere", x.turnShepherd(place), true);
        }
    }

    /** "Throws IndexOutOfBoundsException if there is no such place", of the methods that take one place. */
    private static void noSuchPlace() {
        for (int count = 1; count <= 10; count++) {
            MapCarrier x = Lands.withPlaces(count);
            refusePlaces(count + " places", x, Beyond.places(x));
            CHECK.same("12: the last is one", x.exitsOf(count - 1), 0);
            CHECK.same("16: the last is one", x.hasShepherd(count - 1), false);
            CHECK.same("5: the last is one", x.turnShepherd(count - 1), true);
        }
    }

    /** "Throws IndexOutOfBoundsException if there is no such place or exit" */
    private static void noSuchExit() {
        MapCarrier x = Lands.star();
        for (int place = 0; place < x.places(); place++) {
            for (int exit : Beyond.exits(x, place)) {
                refuseExits("no such exit", x, new int[][] {{place, exit}});
            }
        }
        for (int place : Beyond.places(x)) {
            refuseExits("no such place", x, new int[][] {{place, 0}, {place, 3}, {place, -1}});
        }
        // Where exits are counted through, place by place, these would be exits of another place.
        refuseExits("another's exit", x, new int[][] {{-1, 4}, {-1, 5}, {1, -4}, {1, -1}, {0, 4}, {2, -5}});
        refuseExits("another's exit", x, new int[][] {{1 << 30, 0}, {1 << 30, 1}, {-(1 << 30), 0}});
        MapCarrier y = Lands.full();
        refuseExits("all full", y, new int[][] {{9, 4}, {0, 4}, {10, 0}, {-1, 4}, {9, -1}, {10, -1}, {0, -1}});
    }

    /** "Throws IndexOutOfBoundsException if there is no such place", of the methods that take two. */
    private static void noSuchPairOfPlaces() {
        MapCarrier x = Lands.full();
        Lands.goTo(x, 9);
        for (int place : Beyond.places(x)) {
            refusePairs("first", x, place, 0);
            refusePairs("second", x, 0, place);
            refusePairs("both", x, place, place);
        }
        // Where pairs are counted through, these would be other pairs.
        refusePairs("counted through", x, -1, 10);
        refusePairs("counted through", x, 1, -10);
        refusePairs("counted through", x, 1, -1);
        refusePairs("counted through", x, 0, 10);
    }

    /** "0 if they are the same" */
    private static void distanceToTheSamePlace() {
        MapCarrier x = Lands.full();
        for (int place = 0; place < 10; place++) {
            CHECK.same("17: the same", x.distance(place, place), 0);
            for (int exit = 0; exit < 4; exit++) {
                if (x.isOpen(place, exit)) {
                    x.turnRoad(place, exit);
                }
            }
            CHECK.same("17: the same, behind snow", x.distance(place, place), 0);
        }
        CHECK.same("17: the same, without roads", Lands.withPlaces(1).distance(0, 0), 0);
    }

    /** "-1 if there is none" */
    private static void noWay() {
        MapCarrier alone = Lands.withPlaces(10);
        CHECK.same("17: no roads", alone.distance(0, 9), -1);
        CHECK.same("17: no roads, back", alone.distance(9, 0), -1);
        MapCarrier x = Lands.row(10, 9);
        for (int place = 0; place < 9; place++) {
            int exit = place == 0 ? 0 : 1;
            CHECK.same("17: a way", x.distance(0, 9), 81);
            x.turnRoad(place, exit);
            CHECK.same("17: one road of nine is closed", x.distance(0, 9), -1);
            CHECK.same("17: and back", x.distance(9, 0), -1);
            CHECK.same("17: as far as it goes", x.distance(0, place), 9 * place);
            CHECK.same("17: and from behind it", x.distance(place + 1, 9), 9 * (8 - place));
            x.turnRoad(place, exit);
        }
    }

    /** The smallest distance but 0, and the largest that there is. */
    private static void nearestAndFarthest() {
        MapCarrier x = Lands.row(10, 9);
        CHECK.same("17: nine times nine", x.distance(0, 9), 81);
        CHECK.same("17: and back", x.distance(9, 0), 81);
        x.addRoad(9, 0, 1);
        CHECK.same("17: one mile", x.distance(0, 9), 1);
        CHECK.same("17: one mile back", x.distance(9, 0), 1);
        CHECK.same("17: the farthest by both ways", x.distance(4, 9), 37);
        CHECK.same("17: around", x.distance(0, 8), 10);
    }

    /** "The miles of the shortest way": by many roads, if this is one mile less than by one. */
    private static void oneMileLess() {
        MapCarrier x = Lands.row(9, 1);
        x.addRoad(0, 8, 9);
        CHECK.same("17: eight roads of one mile", x.distance(0, 8), 8);
        x.turnRoad(4, 1);
        CHECK.same("17: one road of nine miles", x.distance(0, 8), 9);
        x.addRoad(8, 0, 8);
        CHECK.same("17: the other road", x.distance(8, 0), 8);
        x.turnRoad(4, 1);
        CHECK.same("17: as many by both", x.distance(0, 8), 8);
    }

    private static int closedEnds(MapCarrier x) {
        int closed = 0;
        for (int place = 0; place < x.places(); place++) {
            for (int exit = 0; exit < x.exitsOf(place); exit++) {
                closed += x.isOpen(place, exit) ? 0 : 1;
            }
        }
        return closed;
    }

    private static void refusePlaces(String what, MapCarrier x, int[] places) {
        PlaceCall[] calls = {p -> x.turnShepherd(p), p -> x.exitsOf(p), p -> x.hasShepherd(p)};
        String[] names = {"5: turnShepherd", "12: exitsOf", "16: hasShepherd"};
        for (int i = 0; i < calls.length; i++) {
            PlaceCall call = calls[i];
            for (int place : places) {
                CHECK.refuses(names[i] + "(" + place + "), " + what, x, IndexOutOfBoundsException.class,
                    () -> call.of(place));
            }
        }
    }

    private static void refuseExits(String what, MapCarrier x, int[][] pairs) {
        PairCall[] calls = {(p, e) -> x.turnRoad(p, e), (p, e) -> x.leadsTo(p, e), (p, e) -> x.milesOf(p, e),
            (p, e) -> x.isOpen(p, e), (p, e) -> x.isTried(p, e)};
        String[] names = {"4: turnRoad", "13: leadsTo", "14: milesOf", "15: isOpen", "22: isTried"};
        for (int i = 0; i < calls.length; i++) {
            PairCall call = calls[i];
            for (int[] pair : pairs) {
                CHECK.refuses(names[i] + "(" + pair[0] + ", " + pair[1] + "), " + what, x,
                    IndexOutOfBoundsException.class, () -> call.of(pair[0], pair[1]));
            }
        }
    }

    private static void refusePairs(String what, MapCarrier x, int a, int b) {
        PairCall[] calls = {(p, q) -> x.distance(p, q), (p, q) -> x.remembered(p, q), (p, q) -> x.strength(p, q)};
        String[] names = {"17: distance", "23: remembered", "24: strength"};
        for (int i = 0; i < calls.length; i++) {
            PairCall call = calls[i];
            CHECK.refuses(names[i] + "(" + a + ", " + b + "), " + what, x, IndexOutOfBoundsException.class,
                () -> call.of(a, b));
        }
    }
}

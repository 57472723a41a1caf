/** The memory's boundary cases: promises 10 and 23 to 25, and "Memory." and "Night." of the terms. */
public final class EdgeMemoryTest {
    private static final Check CHECK = new Check();

    private EdgeMemoryTest() {
    }

    public static void main(String[] args) {
        nothingAtFirst();
        everyGoalAndPlace();
        firstExitAndLast();
        threeMoreAtMostNine();
        threeInThePlaceOfAnother();
        theLastOfTwoExits();
        whatLeavesNothing();
        noSuchGoalOrPlace();
        nightsAndStrengths();
        someAreForgotten();
        nightsWithNothing();
        nightsBeyond();
        nightsOnAnErrand();
        aClosedOneIsNotTaken();
        anotherGoalsIsNotTaken();
        knowsTheGoalItself();
        knowsNothing();
        knowsByOneExitAndByNine();
        knowsNoClosedWay();
        knowsNoWayWithAGap();
        knowsNoWayInARing();
        knowsOfNoSuchPlace();
        CHECK.close();
    }

    /** "One exit is remembered, or none (none, at first)": "-1 for none", "0 if none is". */
    private static void nothingAtFirst() {
        MapCarrier[] all = {Lands.withPlaces(1), Lands.withPlaces(10), Lands.full()};
        for (MapCarrier x : all) {
            for (int goal = 0; goal < x.places(); goal++) {
                for (int place = 0; place < x.places(); place++) {
                    holds("at first", x, goal, place, -1, 0);
                }
            }
        }
    }

    /** "For each goal and each place": from the first ones to the last ones, and for no other. */
    private static void everyGoalAndPlace() {
        MapCarrier x = Lands.row(10, 1);
        Lands.goTo(x, 9);
        for (int goal = 0; goal < 10; goal++) {
            for (int place = 0; place < 10; place++) {
                boolean due = goal == 9 && place < 9;
                holds("for 9", x, goal, place, !due ? -1 : place == 0 ? 0 : 1, due ? 3 : 0);
            }
        }
        x.sleep(9);
        Lands.goTo(x, 0);
        for (int goal = 0; goal < 10; goal++) {
            for (int place = 0; place < 10; place++) {
                boolean due = goal == 0 && place > 0;
                holds("for 0", x, goal, place, due ? 0 : -1, due ? 3 : 0);
            }
        }
    }

    /** The smallest exit's number and the largest one. */
    private static void firstExitAndLast() {
        MapCarrier x = Lands.star();
        Lands.goTo(x, 1);
        holds("the first", x, 1, 0, 0, 3);
        Lands.goTo(x, 0);
        Lands.goTo(x, 4);
        holds("the last", x, 4, 0, 3, 3);
        holds("none where it was doubled", x, 4, 1, -1, 0);
        holds("none at the goal", x, 4, 4, -1, 0);
    }

    /** "Its strength is 3 more, at most 9", from each strength; from none it is 3. */
    private static void threeMoreAtMostNine() {
        for (int strength = 0; strength <= 9; strength++) {
            MapCarrier x = Lands.remembering(strength);
            holds("before", x, 2, 0, strength == 0 ? -1 : 0, strength);
            CHECK.same("8: there", Lands.goTo(x, 2), 2);
            holds("3 more, from " + strength, x, 2, 0, 0, Math.min(9, strength + 3));
            holds("3 more, from " + strength, x, 2, 1, 1, Math.min(9, strength + 3));
            holds("as before", x, 0, 2, strength == 0 ? -1 : 0, strength);
        }
    }

    /** "Otherwise the strength is 3, in the place of another one", whatever the other one's strength was. */
    private static void threeInThePlaceOfAnother() {
        for (int strength = 1; strength <= 9; strength++) {
            MapCarrier x = Lands.remembering(strength);
            x.addRoad(0, 2, 9);
            x.turnRoad(0, 0);
            CHECK.same("8: there", Lands.goTo(x, 2), 1);
            holds("another, of " + strength, x, 2, 0, 1, 3);
            holds("not on this way, of " + strength, x, 2, 1, 1, strength);
        }
    }

    /** "For each exit of the way, from the first one on": of two exits of one place, the later one stays. */
    private static void theLastOfTwoExits() {
        MapCarrier x = Lands.loop();
        CHECK.same("8: 1 is passed twice", Lands.goTo(x, 3), 4);
        holds("the later one", x, 3, 1, 3, 3);
        holds("the loop's", x, 3, 2, 1, 3);
        holds("the first one", x, 3, 0, 0, 3);
    }

    /** An empty way, one that was given up, and one in vain: nothing is remembered of them, nor made stronger. */
    private static void whatLeavesNothing() {
        MapCarrier x = Lands.remembering(4);
        x.beginErrand(0);
        x.beginErrand(2);
        x.goOn(1);
        x.giveUp();
        x.addPlace();
        Lands.goTo(x, 3);
        holds("as before", x, 2, 0, 0, 4);
        holds("as before", x, 2, 1, 1, 4);
        for (int place = 0; place < 4; place++) {
            holds("nothing for a goal in vain", x, 3, place, -1, 0);
        }
        for (int goal = 0; goal < 4; goal++) {
            holds("nothing at the goal itself", x, goal, goal, -1, 0);
        }
    }

    /** "Throws IndexOutOfBoundsException if there is no such place": the goal, the place, or both. */
    private static void noSuchGoalOrPlace() {
        MapCarrier x = Lands.remembering(9);
        for (int place : Beyond.places(x)) {
            refuses("goal " + place, x, place, 0);
            refuses("place " + place, x, 2, place);
            refuses("both " + place, x, place, place);
        }
        MapCarrier empty = new MapCarrier();
        refuses("no places", empty, 0, 0);
    }

    private static void refuses(String what, MapCarrier x, int goal, int place) {
        CHECK.refuses("23: " + what, x, IndexOutOfBoundsException.class, () -> x.remembered(goal, place));
        CHECK.refuses("24: " + what, x, IndexOutOfBoundsException.class, () -> x.strength(goal, place));
    }

    /** "Each strength is 1 less; what would be 0 is forgotten", of 1 to 9 nights and each strength. */
    private static void nightsAndStrengths() {
        for (int strength = 1; strength <= 9; strength++) {
            for (int nights = 1; nights <= 9; nights++) {
                MapCarrier x = Lands.remembering(strength);
                boolean gone = nights >= strength;
                String what = nights + " nights of " + strength;
                CHECK.same("10: " + what, x.sleep(nights), gone ? 4 : 0);
                holds(what, x, 2, 0, gone ? -1 : 0, gone ? 0 : strength - nights);
                holds(what, x, 2, 1, gone ? -1 : 1, gone ? 0 : strength - nights);
                holds(what, x, 0, 2, gone ? -1 : 0, gone ? 0 : strength - nights);
                CHECK.same("10: forgotten once, " + what, x.sleep(9), gone ? 0 : 4);
            }
        }
    }

    /** "Returns how many exits are forgotten by them": by these nights, and no other ones. */
    private static void someAreForgotten() {
        MapCarrier x = Lands.row(4, 1);
        Lands.goTo(x, 3);
        x.sleep(1);
        Lands.goTo(x, 0);
        x.sleep(1);
        Lands.goTo(x, 2);
        CHECK.same("10: the three for 3, of strength 1", x.sleep(1), 3);
        CHECK.same("10: the three for 0, of strength 1", x.sleep(1), 3);
        CHECK.same("10: the two for 2, of strength 1", x.sleep(1), 2);
        CHECK.same("10: none is left", x.sleep(9), 0);
        Lands.goTo(x, 0);
        holds("anew", x, 0, 2, 0, 3);
    }

    /** Nothing remembered, and no places even. */
    private static void nightsWithNothing() {
        MapCarrier empty = new MapCarrier();
        for (int nights = 1; nights <= 9; nights++) {
            CHECK.same("10: no places", empty.sleep(nights), 0);
        }
        CHECK.same("34: nothing has changed", empty.digest(), new MapCarrier().digest());
        MapCarrier x = Lands.full();
        CHECK.same("10: nothing is remembered", x.sleep(1), 0);
        CHECK.same("10: nothing is remembered", x.sleep(9), 0);
        CHECK.same("34: nothing has changed", x.digest(), Lands.full().digest());
        Lands.goTo(x, 1);
        x.sleep(9);
        holds("never below 0", x, 1, 0, -1, 0);
        x.sleep(9);
        holds("never below 0", x, 1, 0, -1, 0);
    }

    /** "Throws IllegalArgumentException if nights is not 1 to 9" */
    private static void nightsBeyond() {
        MapCarrier[] all = {new MapCarrier(), Lands.full(), Lands.remembering(9), Lands.remembering(1)};
        for (MapCarrier x : all) {
            for (int nights : Beyond.range(1, 9)) {
                CHECK.refuses("10: nights " + nights, x, IllegalArgumentException.class, () -> x.sleep(nights));
            }
        }
    }

    /** A night may be in the midst of an errand, and takes away what it would have gone by. */
    private static void nightsOnAnErrand() {
        MapCarrier x = Lands.row(3, 1);
        x.addPlace();
        x.addRoad(1, 3, 1);
        Lands.goTo(x, 3);
        Lands.goTo(x, 0);
        holds("by the exit behind the dead end", x, 3, 1, 2, 3);
        x.beginErrand(3);
        x.goOn(1);
        CHECK.same("10: two nights", x.sleep(2), 0);
        CHECK.same("10: one more", x.sleep(1), 4);
        CHECK.same("20: the errand goes on", x.goal(), 3);
        CHECK.same("21: and its way", x.wayLength(), 1);
        CHECK.same("8: into the dead end again", x.goOn(100), 3);
        holds("anew", x, 3, 0, 0, 3);
    }

    /** "If an exit is remembered there for this goal, its road is open, and it has not been tried, it is taken." */
    private static void aClosedOneIsNotTaken() {
        for (int closed = 0; closed < 2; closed++) {
            MapCarrier x = Lands.fork();
            x.addRoad(0, 3, 9);
            Lands.goTo(x, 3);
            Lands.goTo(x, 0);
            x.beginErrand(3);
            if (closed == 1) {
                x.turnRoad(2, 0);
            }
            x.goOn(1);
            CHECK.same("18: by it, or by the smallest", x.whereIs(), closed == 1 ? 1 : 2);
            holds("as before", x, 3, 0, 1, 3);
        }
        MapCarrier y = Lands.fork();
        Lands.goTo(y, 3);
        Lands.goTo(y, 0);
        y.beginErrand(3);
        y.goOn(1);
        y.turnRoad(2, 1);
        y.goOn(1);
        CHECK.same("18: back where it is remembered", y.whereIs(), 0);
        y.goOn(1);
        CHECK.same("18: it has been tried", y.whereIs(), 1);
        holds("remembered all the same", y, 3, 0, 1, 3);
    }

    /** "If an exit is remembered there for this goal": not the one that is remembered there for another goal. */
    private static void anotherGoalsIsNotTaken() {
        for (int known = 1; known <= 3; known++) {
            MapCarrier x = Lands.star();
            Lands.goTo(x, known + 1);
            Lands.goTo(x, 0);
            holds("for another goal", x, known + 1, 0, known, 3);
            x.turnShepherd(0);
            x.pay(1);
            x.beginErrand(5);
            CHECK.same("8: a step", x.goOn(1), 1);
            CHECK.same("18: by the smallest number", x.whereIs(), 1);
            CHECK.same("30: as nothing was remembered, the shepherd was asked", x.asked(), 1);
            holds("nothing for this goal", x, 5, 0, -1, 0);
        }
    }

    /** "True at the goal itself", with nothing remembered. */
    private static void knowsTheGoalItself() {
        CHECK.same("25: alone", Lands.withPlaces(1).knowsWay(0), true);
        MapCarrier x = Lands.row(10, 1);
        CHECK.same("25: at the first place", x.knowsWay(0), true);
        Lands.goTo(x, 9);
        x.sleep(9);
        CHECK.same("25: at the last place", x.knowsWay(9), true);
        CHECK.same("25: not at the first one now", x.knowsWay(0), false);
        x.turnRoad(9, 0);
        CHECK.same("25: behind snow", x.knowsWay(9), true);
    }

    /** Nothing remembered, or forgotten. */
    private static void knowsNothing() {
        MapCarrier x = Lands.row(2, 1);
        CHECK.same("25: one open road is not enough", x.knowsWay(1), false);
        Lands.goTo(x, 1);
        Lands.goTo(x, 0);
        CHECK.same("25: remembered", x.knowsWay(1), true);
        x.sleep(2);
        CHECK.same("25: weakly", x.knowsWay(1), true);
        x.sleep(1);
        CHECK.same("25: forgotten", x.knowsWay(1), false);
    }

    /** "Remembered exits ... lead from where the carrier is to it, within 10 of them": from one to the most, nine. */
    private static void knowsByOneExitAndByNine() {
        for (int places = 2; places <= 10; places++) {
            MapCarrier x = Lands.row(places, 1);
            int last = places - 1;
            Lands.goTo(x, last);
            CHECK.same("25: not back", x.knowsWay(0), false);
            Lands.goTo(x, 0);
            CHECK.same("25: by " + last, x.knowsWay(last), true);
            x.beginErrand(last);
            for (int place = 0; place < last; place++) {
                CHECK.same("25: on an errand, from " + place, x.knowsWay(last), true);
                CHECK.same("25: and back", x.knowsWay(0), true);
                CHECK.same("25: where it is", x.knowsWay(place), true);
                CHECK.same("25: one place on, for which none is remembered", x.knowsWay(place + 1),
                    place + 1 == last);
                x.goOn(1);
            }
        }
    }

    /** "Of open roads alone": the first one, the last one, and each between. */
    private static void knowsNoClosedWay() {
        MapCarrier x = Lands.row(10, 1);
        Lands.goTo(x, 9);
        Lands.goTo(x, 0);
        for (int place = 0; place < 9; place++) {
            int exit = place == 0 ? 0 : 1;
            x.turnRoad(place, exit);
            CHECK.same("25: closed", x.knowsWay(9), false);
            CHECK.same("8: it is remembered all the same", x.remembered(9, place), exit);
            x.turnRoad(place, exit);
            CHECK.same("25: open", x.knowsWay(9), true);
        }
    }

    /** None is remembered where the carrier is, or farther on. */
    private static void knowsNoWayWithAGap() {
        MapCarrier x = Lands.row(10, 1);
        Lands.goTo(x, 1);
        Lands.goTo(x, 9);
        Lands.goTo(x, 0);
        CHECK.same("25: none here", x.knowsWay(9), false);
        x.beginErrand(9);
        x.goOn(1);
        CHECK.same("25: but one place on", x.knowsWay(9), true);
        MapCarrier y = Lands.row(10, 1);
        y.turnShepherd(0);
        y.pay(1);
        y.beginErrand(9);
        y.goOn(1);
        y.giveUp();
        CHECK.same("25: none here", y.knowsWay(9), false);
        Lands.goTo(y, 0);
        holds("one here", y, 9, 0, 0, 3);
        CHECK.same("25: but none one place on", y.knowsWay(9), false);
    }

    /** Remembered exits that lead round: the goal is on none of them. */
    private static void knowsNoWayInARing() {
        MapCarrier x = Lands.row(3, 1);
        x.addRoad(2, 0, 1);
        x.addPlace();
        x.addRoad(2, 3, 1);
        x.pay(3);
        for (int place = 0; place < 3; place++) {
            x.turnShepherd(place);
        }
        x.turnRoad(0, 1);
        leave(x, 3, 1);
        holds("from 0 to 1", x, 3, 0, 0, 3);
        leave(x, 3, 1);
        holds("from 1 to 2", x, 3, 1, 1, 3);
        x.addRoad(0, 3, 1);
        x.turnRoad(2, 2);
        x.turnRoad(0, 1);
        leave(x, 3, 1);
        holds("from 2 to 0", x, 3, 2, 1, 3);
        CHECK.same("18: at 0 again", x.whereIs(), 0);
        CHECK.same("25: round and round", x.knowsWay(3), false);
        CHECK.same("17: there is a way", x.distance(0, 3), 1);
    }

    /** Begins an errand, makes some steps of it, and gives it up. */
    private static void leave(MapCarrier x, int goal, int steps) {
        x.beginErrand(goal);
        x.goOn(steps);
        x.giveUp();
    }

    /** "Throws IndexOutOfBoundsException if there is no such place" */
    private static void knowsOfNoSuchPlace() {
        MapCarrier empty = new MapCarrier();
        CHECK.refuses("25: no places", empty, IndexOutOfBoundsException.class, () -> empty.knowsWay(0));
        CHECK.refuses("25: nowhere", empty, IndexOutOfBoundsException.class, () -> empty.knowsWay(-1));
        MapCarrier[] all = {Lands.withPlaces(1), Lands.remembering(9), Lands.full()};
        for (MapCarrier x : all) {
            for (int goal : Beyond.places(x)) {
                CHECK.refuses("25: " + goal, x, IndexOutOfBoundsException.class, () -> x.knowsWay(goal));
            }
        }
    }

    private static void holds(String what, MapCarrier x, int goal, int place, int exit, int strength) {
        CHECK.same("23: remembered, " + what, x.remembered(goal, place), exit);
        CHECK.same("24: strength, " + what, x.strength(goal, place), strength);
    }
}

/** An errand's boundary cases: promises 7 to 9, 18, 20 to 22 and 26 to 29; each sentence has its method. */
public final class EdgeErrandTest {
    private static final Check CHECK = new Check();

    private EdgeErrandTest() {
    }

    public static void main(String[] args) {
        nowhereWithoutPlaces();
        noErrandAtFirst();
        doneAtOnce();
        noWayAtTheBeginning();
        nearestAndFarthestGoal();
        noSuchGoal();
        oneErrandAtATime();
        stepsBeyond();
        noErrandToGoOnWith();
        oneStepAndAHundred();
        stepsTillItIsOver();
        inVainWithoutAStep();
        inVainBehindTheLastStep();
        theLongestErrand();
        giveUpAnEmptyWay();
        giveUpTheLongestWay();
        nothingToGiveUp();
        beginsWithNothingTried();
        theSmallestNumberFirst();
        theSmallestNumberThatIsOpen();
        doublesBackOverAClosedRoad();
        doublesBackStepByStep();
        bothEndsAreTried();
        noneIsTriedWithoutAnErrand();
        noWayLengthWithoutAnErrand();
        theGoalIsNotLeft();
        milesAtThe512thCall();
        errandsAtThe512thCall();
        CHECK.close();
    }

    /** "The place where the carrier is; -1 without places"; "the first one that is made, at first". */
    private static void nowhereWithoutPlaces() {
        MapCarrier x = new MapCarrier();
        CHECK.same("18: nowhere", x.whereIs(), -1);
        x.pay(1);
        x.sleep(1);
        CHECK.same("18: nowhere still", x.whereIs(), -1);
        for (int i = 0; i < 10; i++) {
            x.addPlace();
            CHECK.same("18: at the first one", x.whereIs(), 0);
        }
        MapCarrier y = Lands.row(10, 1);
        Lands.goTo(y, 9);
        CHECK.same("18: at the last one", y.whereIs(), 9);
    }

    /** "Is on an errand to a goal, or not (not, at first)." */
    private static void noErrandAtFirst() {
        MapCarrier[] all = {new MapCarrier(), Lands.withPlaces(1), Lands.full()};
        for (MapCarrier x : all) {
            CHECK.same("20: no goal", x.goal(), -1);
            CHECK.same("21: no way", x.wayLength(), 0);
            CHECK.refuses("8: none", x, IllegalStateException.class, () -> x.goOn(1));
            CHECK.refuses("9: none", x, IllegalStateException.class, () -> x.giveUp());
            counts("none", x, 0, 0, 0, 0);
        }
    }

    /** "One to the place where the carrier is is done at once, without a step." */
    private static void doneAtOnce() {
        MapCarrier x = Lands.withPlaces(1);
        x.turnShepherd(0);
        x.pay(1);
        CHECK.same("7: no miles", x.beginErrand(0), 0);
        CHECK.same("20: it is over", x.goal(), -1);
        counts("done at once", x, 0, 0, 1, 0);
        CHECK.same("19: the coin is not paid", x.coins(), 1);
        CHECK.same("30: nobody was asked", x.asked(), 0);
        CHECK.same("23: nothing is remembered", x.remembered(0, 0), -1);
        CHECK.same("21: no way", x.wayLength(), 0);
        CHECK.refuses("8: over", x, IllegalStateException.class, () -> x.goOn(1));
        CHECK.refuses("9: over", x, IllegalStateException.class, () -> x.giveUp());
        CHECK.same("7: and once more", x.beginErrand(0), 0);
        counts("done at once twice", x, 0, 0, 2, 0);
        MapCarrier y = Lands.full();
        Lands.goTo(y, 9);
        int walked = y.milesWalked();
        long strength = y.strength(9, 0);
        CHECK.same("7: at the last place", y.beginErrand(9), 0);
        counts("done at once at the last place", y, walked, 0, 2, 0);
        CHECK.same("24: no stronger", y.strength(9, 0), strength);
        MapCarrier z = Lands.row(2, 1);
        z.turnRoad(0, 0);
        CHECK.same("7: behind snow", z.beginErrand(0), 0);
        counts("done at once behind snow", z, 0, 0, 1, 0);
    }

    /** "How many miles the shortest way to it by open roads has; -1 if there is none." */
    private static void noWayAtTheBeginning() {
        MapCarrier x = Lands.withPlaces(10);
        CHECK.same("7: no roads", x.beginErrand(9), -1);
        CHECK.same("20: it goes on all the same", x.goal(), 9);
        counts("begun", x, 0, 0, 0, 0);
        MapCarrier y = Lands.row(10, 1);
        y.turnRoad(9, 0);
        CHECK.same("7: the last road is closed", y.beginErrand(9), -1);
        CHECK.same("20: it goes on all the same", y.goal(), 9);
        y.turnRoad(9, 0);
        CHECK.same("8: and gets there when it is opened", y.goOn(100), 9);
        counts("there", y, 9, 0, 1, 0);
    }

    /** The fewest miles and the most; the smallest goal and the largest. */
    private static void nearestAndFarthestGoal() {
        MapCarrier x = Lands.row(10, 9);
        CHECK.same("7: 81 miles", x.beginErrand(9), 81);
        CHECK.same("20: the largest goal", x.goal(), 9);
        CHECK.same("8: nine steps", x.goOn(9), 9);
        CHECK.same("7: 81 miles back", x.beginErrand(0), 81);
        CHECK.same("20: the smallest goal is none of -1", x.goal(), 0);
        CHECK.same("8: nine steps back", x.goOn(9), 9);
        counts("there and back", x, 162, 0, 2, 0);
        x.addRoad(0, 9, 1);
        CHECK.same("7: one mile", x.beginErrand(9), 1);
        MapCarrier y = Lands.row(2, 9);
        y.addRoad(0, 1, 1);
        CHECK.same("7: the shorter road", y.beginErrand(1), 1);
        CHECK.same("8: a step", y.goOn(1), 1);
        counts("but the first exit is taken", y, 9, 0, 1, 0);
    }

    /** "Throws IndexOutOfBoundsException if there is no such place", ahead of "if an errand goes on". */
    private static void noSuchGoal() {
        MapCarrier empty = new MapCarrier();
        for (int goal : Beyond.range(0, 0)) {
            CHECK.refuses("7: no places", empty, IndexOutOfBoundsException.class, () -> empty.beginErrand(goal));
        }
        CHECK.refuses("7: no places", empty, IndexOutOfBoundsException.class, () -> empty.beginErrand(0));
        for (int count = 1; count <= 10; count++) {
            MapCarrier x = Lands.row(count, 1);
            refuseGoals("no such place", x);
            x.beginErrand(count - 1);
            refuseGoals("no such place, and an errand that may go on", x);
        }
    }

    private static void refuseGoals(String what, MapCarrier x) {
        for (int goal : Beyond.places(x)) {
            CHECK.refuses("7: " + goal + ", " + what, x, IndexOutOfBoundsException.class, () -> x.beginErrand(goal));
        }
    }

    /** "Throws IllegalStateException if an errand goes on" */
    private static void oneErrandAtATime() {
        MapCarrier x = Lands.full();
        x.beginErrand(5);
        for (int steps = 0; steps < 3; steps++) {
            for (int goal = 0; goal < 10; goal++) {
                int another = goal;
                CHECK.refuses("7: one goes on", x, IllegalStateException.class, () -> x.beginErrand(another));
            }
            CHECK.same("8: and goes on", x.goOn(1), 1);
        }
        x.giveUp();
        CHECK.same("7: none goes on", x.beginErrand(x.whereIs()), 0);
    }

    /** "Throws IllegalArgumentException if steps is not 1 to 100", ahead of "if no errand goes on". */
    private static void stepsBeyond() {
        MapCarrier x = Lands.row(3, 1);
        for (int steps : Beyond.range(1, 100)) {
            CHECK.refuses("8: " + steps + ", no errand", x, IllegalArgumentException.class, () -> x.goOn(steps));
        }
        x.beginErrand(2);
        for (int steps : Beyond.range(1, 100)) {
            CHECK.refuses("8: " + steps, x, IllegalArgumentException.class, () -> x.goOn(steps));
        }
        MapCarrier empty = new MapCarrier();
        CHECK.refuses("8: no places", empty, IllegalArgumentException.class, () -> empty.goOn(0));
        CHECK.refuses("8: no places", empty, IllegalArgumentException.class, () -> empty.goOn(101));
    }

    /** "Throws IllegalStateException if no errand goes on": not yet, and no more. */
    private static void noErrandToGoOnWith() {
        MapCarrier x = Lands.row(3, 1);
        refuseToGoOn("none has begun", x);
        Lands.goTo(x, 2);
        refuseToGoOn("it is done", x);
        x.beginErrand(2);
        refuseToGoOn("it was done at once", x);
        x.addPlace();
        Lands.goTo(x, 3);
        refuseToGoOn("it was in vain", x);
        x.beginErrand(0);
        x.giveUp();
        refuseToGoOn("it was given up", x);
        refuseToGoOn("no places", new MapCarrier());
    }

    private static void refuseToGoOn(String what, MapCarrier x) {
        int[] taken = {1, 2, 99, 100};
        for (int steps : taken) {
            CHECK.refuses("8: " + what, x, IllegalStateException.class, () -> x.goOn(steps));
        }
    }

    /** The fewest steps that may be asked for, and the most. */
    private static void oneStepAndAHundred() {
        MapCarrier x = Lands.row(10, 1);
        x.beginErrand(9);
        CHECK.same("8: one", x.goOn(1), 1);
        CHECK.same("18: one place on", x.whereIs(), 1);
        CHECK.same("8: a hundred at the most", x.goOn(100), 8);
        CHECK.same("18: at the goal", x.whereIs(), 9);
    }

    /** "Goes on with the errand, till it is over, or so many steps are made": one fewer, just so many, one more. */
    private static void stepsTillItIsOver() {
        for (int most = 1; most <= 6; most++) {
            MapCarrier x = Lands.row(5, 2);
            x.beginErrand(4);
            int due = Math.min(most, 4);
            CHECK.same("8: of " + most, x.goOn(most), due);
            CHECK.same("18: so far", x.whereIs(), due);
            CHECK.same("20: over with the last step", x.goal(), most < 4 ? 4 : -1);
            CHECK.same("21: the way", x.wayLength(), most < 4 ? most : 0);
            counts("after " + most, x, 2 * due, 0, most < 4 ? 0 : 1, 0);
        }
    }

    /** "If the way is empty, the errand is over, in vain, and no step is made." */
    private static void inVainWithoutAStep() {
        int[] mosts = {1, 2, 100};
        for (int most : mosts) {
            MapCarrier x = Lands.withPlaces(2);
            x.beginErrand(1);
            CHECK.same("8: no exits", x.goOn(most), 0);
            CHECK.same("20: over", x.goal(), -1);
            CHECK.same("18: where it was", x.whereIs(), 0);
            counts("no exits", x, 0, 0, 0, 1);
            MapCarrier y = Lands.row(2, 5);
            y.turnRoad(0, 0);
            y.beginErrand(1);
            CHECK.same("8: no open exits", y.goOn(most), 0);
            CHECK.same("22: the closed one was not tried", y.isTried(0, 0), false);
            CHECK.same("23: nothing is remembered", y.remembered(1, 0), -1);
            counts("no open exits", y, 0, 0, 0, 1);
        }
    }

    /** The steps are made, and the errand is over only with the one that can't be. */
    private static void inVainBehindTheLastStep() {
        for (int most = 1; most <= 6; most++) {
            MapCarrier x = Lands.row(3, 3);
            x.addPlace();
            x.beginErrand(3);
            int due = Math.min(most, 4);
            CHECK.same("8: of " + most, x.goOn(most), due);
            CHECK.same("20: not over yet", x.goal(), most <= 4 ? 3 : -1);
            CHECK.same("29: in vain", x.errandsInVain(), most <= 4 ? 0 : 1);
            if (most == 4) {
                CHECK.same("21: the way is empty", x.wayLength(), 0);
                CHECK.same("8: none is left", x.goOn(1), 0);
                CHECK.same("20: over", x.goal(), -1);
                counts("there and back", x, 12, 6, 0, 1);
            }
        }
    }

    /** Nine places with four exits each, and a goal that none of them leads to: every road there and back. */
    private static void theLongestErrand() {
        MapCarrier x = Lands.longest();
        CHECK.same("7: no way", x.beginErrand(9), -1);
        for (int step = 1; step <= 18; step++) {
            CHECK.same("8: on", x.goOn(1), 1);
            CHECK.same("21: one more", x.wayLength(), step);
        }
        for (int step = 1; step <= 18; step++) {
            CHECK.same("8: back", x.goOn(1), 1);
            CHECK.same("21: one less", x.wayLength(), 18 - step);
            CHECK.same("27: doubled", x.milesDoubled(), 9 * step);
        }
        CHECK.same("20: not over yet", x.goal(), 9);
        CHECK.same("8: none is left", x.goOn(100), 0);
        counts("every road twice", x, 324, 162, 0, 1);
        x.beginErrand(9);
        CHECK.same("8: at one go", x.goOn(100), 36);
        counts("and once more", x, 648, 324, 0, 2);
        CHECK.same("20: over", x.goal(), -1);
    }

    /** "Returns how many exits the way had": none. */
    private static void giveUpAnEmptyWay() {
        MapCarrier x = Lands.row(3, 4);
        x.beginErrand(2);
        CHECK.same("9: just begun", x.giveUp(), 0);
        counts("just begun", x, 0, 0, 0, 0);
        CHECK.same("18: where it was", x.whereIs(), 0);
        x.addPlace();
        x.beginErrand(3);
        x.goOn(4);
        CHECK.same("9: all doubled back", x.giveUp(), 0);
        counts("all doubled back", x, 16, 8, 0, 0);
        x.beginErrand(3);
        x.goOn(1);
        CHECK.same("9: one", x.giveUp(), 1);
        counts("neither done nor in vain", x, 20, 8, 0, 0);
        CHECK.same("18: it stays there", x.whereIs(), 1);
        CHECK.same("20: no goal", x.goal(), -1);
        CHECK.same("23: nothing is remembered", x.remembered(3, 0), -1);
    }

    /** "Returns how many exits the way had": the most. */
    private static void giveUpTheLongestWay() {
        MapCarrier x = Lands.longest();
        x.beginErrand(9);
        x.goOn(18);
        CHECK.same("9: eighteen", x.giveUp(), 18);
        counts("given up", x, 162, 0, 0, 0);
        CHECK.same("21: no way", x.wayLength(), 0);
        x.beginErrand(9);
        x.goOn(19);
        CHECK.same("9: one off the way", x.giveUp(), 17);
    }

    /** "Throws IllegalStateException if no errand goes on" */
    private static void nothingToGiveUp() {
        MapCarrier x = Lands.row(3, 1);
        CHECK.refuses("9: none has begun", x, IllegalStateException.class, () -> x.giveUp());
        Lands.goTo(x, 2);
        CHECK.refuses("9: it is done", x, IllegalStateException.class, () -> x.giveUp());
        x.beginErrand(2);
        CHECK.refuses("9: it was done at once", x, IllegalStateException.class, () -> x.giveUp());
        x.addPlace();
        Lands.goTo(x, 3);
        CHECK.refuses("9: it was in vain", x, IllegalStateException.class, () -> x.giveUp());
        x.beginErrand(0);
        CHECK.same("9: it goes on", x.giveUp(), 0);
        CHECK.refuses("9: it was given up", x, IllegalStateException.class, () -> x.giveUp());
        MapCarrier empty = new MapCarrier();
        CHECK.refuses("9: no places", empty, IllegalStateException.class, () -> empty.giveUp());
    }

    /** "Exits have been tried by it or not (none, as it begins)"; "the way ..., empty at first". */
    private static void beginsWithNothingTried() {
        MapCarrier x = Lands.longest();
        x.beginErrand(9);
        x.goOn(18);
        CHECK.same("22: all are", triedEnds(x), 36);
        x.giveUp();
        x.beginErrand(9);
        CHECK.same("22: none is, after a giving up", triedEnds(x), 0);
        CHECK.same("21: an empty way", x.wayLength(), 0);
        CHECK.same("8: all can be taken again", x.goOn(100), 36);
        x.beginErrand(9);
        CHECK.same("22: none is, after one in vain", triedEnds(x), 0);
        CHECK.same("8: all can be taken again", x.goOn(100), 36);
        Lands.goTo(x, 1);
        x.beginErrand(9);
        CHECK.same("22: none is, after one done", triedEnds(x), 0);
    }

    /** "The exit with the smallest number that is open and has not been tried is taken", up to the last one. */
    private static void theSmallestNumberFirst() {
        MapCarrier x = Lands.star();
        x.beginErrand(5);
        for (int exit = 0; exit < 4; exit++) {
            CHECK.same("8: out", x.goOn(1), 1);
            CHECK.same("18: by the smallest that is left", x.whereIs(), exit + 1);
            CHECK.same("22: it is tried", x.isTried(0, exit), true);
            CHECK.same("22: no more than these", triedEnds(x), 2 * (exit + 1));
            CHECK.same("8: and back", x.goOn(1), 1);
            CHECK.same("22: it stays tried", x.isTried(0, exit), true);
        }
        CHECK.same("8: none is left", x.goOn(1), 0);
    }

    /** The same sentence where exits are closed, or opened when others have been tried. */
    private static void theSmallestNumberThatIsOpen() {
        MapCarrier x = Lands.star();
        x.turnRoad(0, 0);
        x.turnRoad(0, 1);
        x.turnRoad(0, 2);
        x.beginErrand(5);
        x.goOn(1);
        CHECK.same("18: the last one alone is open", x.whereIs(), 4);
        x.goOn(1);
        x.turnRoad(0, 2);
        x.turnRoad(0, 0);
        x.goOn(1);
        CHECK.same("18: the first one is open again", x.whereIs(), 1);
        x.goOn(2);
        CHECK.same("18: and the third", x.whereIs(), 3);
        x.goOn(1);
        x.turnRoad(0, 3);
        x.turnRoad(0, 3);
        CHECK.same("8: closed and opened, it has been tried all the same", x.goOn(1), 0);
        CHECK.same("29: in vain", x.errandsInVain(), 1);
    }

    /** "Over its road (open or not)" */
    private static void doublesBackOverAClosedRoad() {
        for (int closed = 0; closed < 2; closed++) {
            MapCarrier x = Lands.row(2, 7);
            x.addPlace();
            x.beginErrand(2);
            x.goOn(1);
            if (closed == 1) {
                x.turnRoad(1, 0);
            }
            CHECK.same("8: back", x.goOn(1), 1);
            CHECK.same("18: where it came from", x.whereIs(), 0);
            CHECK.same("21: off the way", x.wayLength(), 0);
            CHECK.same("15: the road is as it was", x.isOpen(0, 0), closed == 0);
            CHECK.same("8: none is left", x.goOn(1), 0);
            counts("both ways", x, 14, 7, 0, 1);
        }
    }

    /** "To the place from which the last exit of the way led, ... and this is off the way then." */
    private static void doublesBackStepByStep() {
        MapCarrier x = Lands.row(9, 1);
        x.addPlace();
        x.beginErrand(9);
        x.goOn(8);
        for (int place = 7; place >= 0; place--) {
            CHECK.same("8: back", x.goOn(1), 1);
            CHECK.same("18: the place before", x.whereIs(), place);
            CHECK.same("21: the way to it is left", x.wayLength(), place);
        }
    }

    /** "It has been tried, and so has that at the other end of its road" */
    private static void bothEndsAreTried() {
        MapCarrier x = Lands.withPlaces(3);
        for (int i = 0; i < 4; i++) {
            x.addRoad(0, 1, i + 1);
        }
        x.beginErrand(2);
        for (int i = 0; i < 4; i++) {
            x.goOn(1);
            CHECK.same("18: over another road", x.whereIs(), 1 - i % 2);
            CHECK.same("22: one end", x.isTried(0, i), true);
            CHECK.same("22: the other end", x.isTried(1, i), true);
            CHECK.same("22: these and no more", triedEnds(x), 2 * (i + 1));
        }
        CHECK.same("8: four back", x.goOn(100), 4);
        counts("each road twice", x, 20, 10, 0, 1);
    }

    /** "Whether the errand that goes on has tried it; false without one." */
    private static void noneIsTriedWithoutAnErrand() {
        MapCarrier x = Lands.row(3, 1);
        CHECK.same("22: before the first", triedEnds(x), 0);
        x.beginErrand(2);
        x.goOn(1);
        CHECK.same("22: it goes on", triedEnds(x), 2);
        x.giveUp();
        CHECK.same("22: given up", triedEnds(x), 0);
        Lands.goTo(x, 2);
        CHECK.same("22: done", triedEnds(x), 0);
        x.addPlace();
        Lands.goTo(x, 3);
        CHECK.same("22: in vain", triedEnds(x), 0);
        x.beginErrand(2);
        CHECK.same("22: done at once", triedEnds(x), 0);
    }

    /** "How many exits the way has; 0 without an errand." */
    private static void noWayLengthWithoutAnErrand() {
        MapCarrier x = Lands.row(5, 1);
        x.beginErrand(4);
        x.goOn(3);
        CHECK.same("21: three", x.wayLength(), 3);
        x.goOn(1);
        CHECK.same("21: done", x.wayLength(), 0);
        x.beginErrand(0);
        x.goOn(3);
        x.giveUp();
        CHECK.same("21: given up", x.wayLength(), 0);
        x.addPlace();
        Lands.goTo(x, 5);
        CHECK.same("21: in vain", x.wayLength(), 0);
    }

    /** "If the place is the goal": there, no further step is made, and none of the other exits is looked at. */
    private static void theGoalIsNotLeft() {
        MapCarrier x = Lands.star();
        Lands.goTo(x, 1);
        x.beginErrand(0);
        CHECK.same("8: one of a hundred", x.goOn(100), 1);
        CHECK.same("18: at the goal", x.whereIs(), 0);
        CHECK.same("23: nothing is remembered at the goal", x.remembered(0, 0), -1);
    }

    /** "An object is used for at most 512 calls": as many miles as can be, asked for by the last one. */
    private static void milesAtThe512thCall() {
        for (int asked = 0; asked < 3; asked++) {
            MapCarrier x = Lands.longest();
            x.sleep(9);
            for (int errand = 0; errand < 241; errand++) {
                x.beginErrand(9);
                x.goOn(100);
            }
            if (asked == 0) {
                CHECK.same("26: the 512th call", x.milesWalked(), 241 * 324);
            } else if (asked == 1) {
                CHECK.same("27: the 512th call", x.milesDoubled(), 241 * 162);
            } else {
                CHECK.sameDouble("33: the 512th call", x.meanMiles(), 324.0);
            }
        }
    }

    /** The same, with as many errands as can be. */
    private static void errandsAtThe512thCall() {
        MapCarrier x = Lands.withPlaces(1);
        for (int errand = 0; errand < 510; errand++) {
            x.beginErrand(0);
        }
        CHECK.same("28: the 512th call", x.errandsDone(), 510);
        MapCarrier y = Lands.withPlaces(3);
        for (int errand = 0; errand < 254; errand++) {
            y.beginErrand(2);
            y.goOn(100);
        }
        CHECK.same("29: the 512th call", y.errandsInVain(), 254);
    }

    private static int triedEnds(MapCarrier x) {
        int tried = 0;
        for (int place = 0; place < x.places(); place++) {
            for (int exit = 0; exit < x.exitsOf(place); exit++) {
                tried += x.isTried(place, exit) ? 1 : 0;
            }
        }
        return tried;
    }

    private static void counts(String what, MapCarrier x, int walked, int doubled, int done, int inVain) {
        CHECK.same("26: milesWalked, " + what, x.milesWalked(), walked);
        CHECK.same("27: milesDoubled, " + what, x.milesDoubled(), doubled);
        CHECK.same("28: errandsDone, " + what, x.errandsDone(), done);
        CHECK.same("29: errandsInVain, " + what, x.errandsInVain(), inVain);
    }
}

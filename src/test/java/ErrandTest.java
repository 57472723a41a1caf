/** Promises 7 to 9, 18, 20 to 22 and 26 to 30: an errand's steps, and what is counted of them. */
public final class ErrandTest {
    private static final Check CHECK = new Check();

    private ErrandTest() {
    }

    public static void main(String[] args) {
        stepByStep();
        rememberedWay();
        toTheSamePlace();
        inVain();
        overClosedRoad();
        giveUp();
        landChangesUnderway();
        longestErrand();
        wrongly();
        CHECK.close();
    }

    private static void stepByStep() {
        MapCarrier x = Lands.fork();
        CHECK.same("7: beginErrand", x.beginErrand(3), 7);
        CHECK.same("20: goal", x.goal(), 3);
        CHECK.same("21: an empty way", x.wayLength(), 0);
        CHECK.same("22: nothing is tried", x.isTried(0, 0), false);
        CHECK.same("8: one step", x.goOn(1), 1);
        standsAt("into the dead end", x, 1, 1, 2, 0);
        CHECK.same("22: the exit is tried", x.isTried(0, 0), true);
        CHECK.same("22: its other end is tried", x.isTried(1, 0), true);
        CHECK.same("22: another is not", x.isTried(0, 1), false);
        CHECK.same("8: doubling back", x.goOn(1), 1);
        standsAt("back", x, 0, 0, 4, 2);
        CHECK.same("20: the errand goes on", x.goal(), 3);
        CHECK.same("8: two of at most two", x.goOn(1), 1);
        standsAt("on", x, 2, 1, 7, 2);
        CHECK.same("8: fewer than at the most", x.goOn(100), 1);
        standsAt("there", x, 3, 0, 11, 2);
        CHECK.same("20: no goal", x.goal(), -1);
        CHECK.same("22: none is tried without an errand", x.isTried(0, 0), false);
        CHECK.same("28: done", x.errandsDone(), 1);
        CHECK.same("29: not in vain", x.errandsInVain(), 0);
        CHECK.same("30: nobody was asked", x.asked(), 0);
    }

    private static void rememberedWay() {
        MapCarrier x = Lands.fork();
        CHECK.same("8: steps of the first errand", Lands.goTo(x, 3), 4);
        CHECK.same("7: the way back", x.beginErrand(0), 7);
        CHECK.same("22: a new errand has tried nothing", x.isTried(0, 1), false);
        CHECK.same("8: steps back", x.goOn(2), 2);
        CHECK.same("28: done twice", x.errandsDone(), 2);
        CHECK.same("8: by what is remembered", Lands.goTo(x, 3), 2);
        CHECK.same("26: no doubling this time", x.milesWalked(), 25);
        CHECK.same("27: as before", x.milesDoubled(), 2);
    }

    private static void toTheSamePlace() {
        MapCarrier x = Lands.withPlaces(1);
        CHECK.same("7: to the same place", x.beginErrand(0), 0);
        CHECK.same("7: it is done at once", x.goal(), -1);
        CHECK.same("28: done", x.errandsDone(), 1);
        CHECK.same("26: no mile", x.milesWalked(), 0);
        CHECK.refuses("8: over already", x, IllegalStateException.class, () -> x.goOn(1));
    }

    private static void inVain() {
        MapCarrier x = Lands.withPlaces(3);
        x.addRoad(0, 1, 6);
        CHECK.same("7: no way", x.beginErrand(2), -1);
        CHECK.same("20: it goes on all the same", x.goal(), 2);
        CHECK.same("8: both steps, and it is not over yet", x.goOn(2), 2);
        CHECK.same("20: not over", x.goal(), 2);
        CHECK.same("29: not yet", x.errandsInVain(), 0);
        CHECK.same("8: in vain without a step", x.goOn(1), 0);
        standsAt("in vain", x, 0, 0, 12, 6);
        CHECK.same("20: over", x.goal(), -1);
        CHECK.same("29: in vain", x.errandsInVain(), 1);
        CHECK.same("28: not done", x.errandsDone(), 0);
        x.beginErrand(2);
        CHECK.same("8: the steps alone are counted", x.goOn(100), 2);
        CHECK.same("29: in vain again", x.errandsInVain(), 2);
        CHECK.same("23: nothing is remembered of it", x.remembered(2, 0), -1);
    }

    private static void overClosedRoad() {
        MapCarrier x = Lands.withPlaces(3);
        x.addRoad(0, 1, 5);
        x.addRoad(1, 2, 1);
        x.beginErrand(2);
        x.goOn(1);
        x.turnRoad(0, 0);
        x.turnRoad(1, 1);
        CHECK.same("8: doubling back over a closed road", x.goOn(1), 1);
        standsAt("doubled over a closed road", x, 0, 0, 10, 5);
        CHECK.same("8: in vain", x.goOn(1), 0);
        CHECK.same("29: in vain", x.errandsInVain(), 1);
    }

    private static void giveUp() {
        MapCarrier x = Lands.fork();
        x.beginErrand(3);
        x.goOn(3);
        CHECK.same("9: giveUp tells the way", x.giveUp(), 1);
        standsAt("given up", x, 2, 0, 7, 2);
        CHECK.same("20: no goal", x.goal(), -1);
        CHECK.same("22: nothing tried", x.isTried(0, 0), false);
        CHECK.same("28: not done", x.errandsDone(), 0);
        CHECK.same("29: not in vain", x.errandsInVain(), 0);
        CHECK.same("23: nothing is remembered", x.remembered(3, 0), -1);
        x.beginErrand(3);
        CHECK.same("9: an empty way", x.giveUp(), 0);
        CHECK.refuses("9: none goes on", x, IllegalStateException.class, () -> x.giveUp());
    }

    private static void landChangesUnderway() {
        MapCarrier x = Lands.fork();
        x.turnRoad(2, 1);
        x.beginErrand(3);
        x.goOn(2);
        x.turnRoad(0, 1);
        x.addRoad(0, 3, 9);
        CHECK.same("22: a new road is not tried", x.isTried(0, 2), false);
        CHECK.same("8: the closed one is not taken", x.goOn(9), 1);
        standsAt("over the new road", x, 3, 0, 13, 2);
        CHECK.same("23: the new exit", x.remembered(3, 0), 2);
    }

    /** As many roads as an errand can take in vain, each there and back. */
    private static void longestErrand() {
        MapCarrier x = Lands.longest();
        CHECK.same("31: would be in vain", x.wouldWalk(9), -1);
        CHECK.same("7: no way", x.beginErrand(9), -1);
        CHECK.same("8: eighteen roads out", x.goOn(18), 18);
        CHECK.same("21: all of them are on the way", x.wayLength(), 18);
        CHECK.same("8: and back", x.goOn(100), 18);
        CHECK.same("26: all miles twice", x.milesWalked(), 36 * 9);
        CHECK.same("27: all miles once", x.milesDoubled(), 18 * 9);
        CHECK.same("29: in vain", x.errandsInVain(), 1);
    }

    private static void wrongly() {
        MapCarrier x = Lands.withPlaces(2);
        x.addRoad(0, 1, 1);
        int[] wrongSteps = {0, 101, -1, Integer.MIN_VALUE, Integer.MAX_VALUE};
        for (int steps : wrongSteps) {
            CHECK.refuses("8: steps, and no errand", x, IllegalArgumentException.class, () -> x.goOn(steps));
        }
        CHECK.refuses("8: no errand", x, IllegalStateException.class, () -> x.goOn(1));
        CHECK.refuses("8: no errand", x, IllegalStateException.class, () -> x.goOn(100));
        int[] wrongPlaces = {-1, 2, 10, Integer.MIN_VALUE, Integer.MAX_VALUE};
        for (int goal : wrongPlaces) {
            CHECK.refuses("7: no such place", x, IndexOutOfBoundsException.class, () -> x.beginErrand(goal));
        }
        x.beginErrand(1);
        CHECK.refuses("7: one goes on", x, IllegalStateException.class, () -> x.beginErrand(1));
        CHECK.refuses("7: one goes on, here", x, IllegalStateException.class, () -> x.beginErrand(0));
        CHECK.refuses("7: one goes on, no such place", x, IndexOutOfBoundsException.class, () -> x.beginErrand(2));
        CHECK.refuses("8: steps", x, IllegalArgumentException.class, () -> x.goOn(101));
        MapCarrier empty = new MapCarrier();
        CHECK.refuses("7: no places", empty, IndexOutOfBoundsException.class, () -> empty.beginErrand(0));
        CHECK.refuses("9: no places", empty, IllegalStateException.class, () -> empty.giveUp());
    }

    private static void standsAt(String what, MapCarrier x, int place, int way, int walked, int doubled) {
        CHECK.same("18: whereIs, " + what, x.whereIs(), place);
        CHECK.same("21: wayLength, " + what, x.wayLength(), way);
        CHECK.same("26: milesWalked, " + what, x.milesWalked(), walked);
        CHECK.same("27: milesDoubled, " + what, x.milesDoubled(), doubled);
    }
}

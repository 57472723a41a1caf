/** Promises 10 and 23 to 25: what is remembered, how it fades, and whether it leads there. */
public final class MemoryTest {
    private static final Check CHECK = new Check();

    private MemoryTest() {
    }

    public static void main(String[] args) {
        strengths();
        sleep();
        anotherExit();
        twiceThroughOnePlace();
        fromTheFirstOn();
        knowsWay();
        knowsNoWayInARing();
        wrongly();
        CHECK.close();
    }

    private static void strengths() {
        MapCarrier x = Lands.fork();
        holds("at first", x, 3, 0, -1, 0);
        Lands.goTo(x, 3);
        holds("once", x, 3, 0, 1, 3);
        holds("once, at the next place", x, 3, 2, 1, 3);
        holds("not in the dead end", x, 3, 1, -1, 0);
        holds("not at the goal", x, 3, 3, -1, 0);
        holds("not for another goal", x, 2, 0, -1, 0);
        int[] due = {6, 9, 9};
        for (int strength : due) {
            Lands.goTo(x, 0);
            Lands.goTo(x, 3);
            holds("again", x, 3, 0, 1, strength);
        }
        holds("the way back", x, 0, 3, 0, 9);
        x.sleep(1);
        holds("a night later", x, 3, 0, 1, 8);
        Lands.goTo(x, 0);
        Lands.goTo(x, 3);
        holds("at most 9", x, 3, 0, 1, 9);
        x.sleep(8);
        holds("eight nights later", x, 3, 0, 1, 1);
        Lands.goTo(x, 0);
        Lands.goTo(x, 3);
        holds("from the weakest on", x, 3, 0, 1, 4);
    }

    private static void sleep() {
        MapCarrier x = Lands.fork();
        CHECK.same("10: nothing to forget", x.sleep(9), 0);
        Lands.goTo(x, 3);
        Lands.goTo(x, 0);
        Lands.goTo(x, 3);
        CHECK.same("10: a night", x.sleep(1), 0);
        holds("a night", x, 3, 0, 1, 5);
        holds("a night, the way back", x, 0, 2, 0, 2);
        CHECK.same("10: two nights", x.sleep(2), 2);
        holds("three nights", x, 3, 0, 1, 3);
        holds("three nights, the way back", x, 0, 2, -1, 0);
        CHECK.same("10: nine nights", x.sleep(9), 2);
        holds("twelve nights", x, 3, 0, -1, 0);
        CHECK.same("10: forgotten once", x.sleep(9), 0);
        int[] wrong = {0, 10, -1, Integer.MIN_VALUE, Integer.MAX_VALUE};
        for (int nights : wrong) {
            CHECK.refuses("10: nights", x, IllegalArgumentException.class, () -> x.sleep(nights));
        }
        nineNightsForgetAll();
    }

    private static void nineNightsForgetAll() {
        MapCarrier x = Lands.fork();
        for (int i = 0; i < 4; i++) {
            Lands.goTo(x, 3);
            Lands.goTo(x, 0);
        }
        holds("the strongest", x, 3, 0, 1, 9);
        CHECK.same("10: eight nights", x.sleep(8), 0);
        holds("eight nights", x, 3, 0, 1, 1);
        CHECK.same("10: the ninth night", x.sleep(1), 4);
        holds("nine nights", x, 3, 0, -1, 0);
    }

    private static void anotherExit() {
        MapCarrier x = Lands.fork();
        x.addRoad(0, 3, 9);
        Lands.goTo(x, 3);
        Lands.goTo(x, 0);
        Lands.goTo(x, 3);
        holds("twice the same", x, 3, 0, 1, 6);
        Lands.goTo(x, 0);
        x.turnRoad(0, 1);
        CHECK.same("8: the closed one is not taken", Lands.goTo(x, 3), 3);
        holds("another in its place", x, 3, 0, 2, 3);
        holds("the rest of the old way", x, 3, 2, 1, 6);
    }

    private static void twiceThroughOnePlace() {
        MapCarrier x = Lands.loop();
        CHECK.same("8: through 1 twice", Lands.goTo(x, 3), 4);
        CHECK.same("26: its miles", x.milesWalked(), 10);
        holds("the later exit", x, 3, 1, 3, 3);
        holds("in the loop", x, 3, 2, 1, 3);
    }

    /** The loop's exit takes the place of the strong one first, which is then a new one again. */
    private static void fromTheFirstOn() {
        MapCarrier x = Lands.loop();
        Lands.goTo(x, 3);
        Lands.goTo(x, 0);
        Lands.goTo(x, 3);
        holds("by what is remembered", x, 3, 1, 3, 6);
        Lands.goTo(x, 0);
        x.beginErrand(3);
        x.turnRoad(1, 3);
        x.goOn(2);
        CHECK.same("18: in the loop", x.whereIs(), 2);
        x.turnRoad(1, 3);
        CHECK.same("8: and out of it", x.goOn(9), 2);
        holds("a new one again", x, 3, 1, 3, 3);
        holds("in the loop, remembered and taken", x, 3, 2, 1, 6);
    }

    private static void knowsWay() {
        MapCarrier x = Lands.fork();
        CHECK.same("25: at the goal itself", x.knowsWay(0), true);
        CHECK.same("25: nothing is remembered", x.knowsWay(3), false);
        Lands.goTo(x, 3);
        CHECK.same("25: at the goal", x.knowsWay(3), true);
        Lands.goTo(x, 0);
        CHECK.same("25: by two exits", x.knowsWay(3), true);
        CHECK.same("25: not to a place on the way", x.knowsWay(2), false);
        x.turnRoad(3, 0);
        CHECK.same("25: one of them is closed", x.knowsWay(3), false);
        x.turnRoad(3, 0);
        x.sleep(9);
        CHECK.same("25: forgotten", x.knowsWay(3), false);
        byNineExits();
    }

    private static void byNineExits() {
        MapCarrier x = Lands.withPlaces(10);
        for (int place = 0; place < 9; place++) {
            x.addRoad(place, place + 1, 1);
        }
        Lands.goTo(x, 9);
        Lands.goTo(x, 0);
        CHECK.same("25: by nine exits", x.knowsWay(9), true);
    }

    private static void knowsNoWayInARing() {
        MapCarrier x = Lands.withPlaces(3);
        x.addRoad(0, 1, 1);
        x.addRoad(0, 2, 1);
        x.addRoad(1, 2, 1);
        x.pay(9);
        x.turnShepherd(0);
        x.turnShepherd(1);
        x.turnRoad(0, 1);
        x.beginErrand(2);
        x.goOn(1);
        x.giveUp();
        x.turnRoad(0, 1);
        x.turnRoad(1, 1);
        x.beginErrand(2);
        x.goOn(1);
        x.giveUp();
        holds("from 0 to 1", x, 2, 0, 0, 3);
        holds("from 1 to 0", x, 2, 1, 0, 3);
        CHECK.same("25: round and round", x.knowsWay(2), false);
    }

    private static void wrongly() {
        MapCarrier x = Lands.withPlaces(2);
        int[] wrong = {-1, 2, 10, Integer.MIN_VALUE, Integer.MAX_VALUE};
        for (int place : wrong) {
            CHECK.refuses("23: no such goal", x, IndexOutOfBoundsException.class, () -> x.remembered(place, 0));
            CHECK.refuses("23: no such place", x, IndexOutOfBoundsException.class, () -> x.remembered(0, place));
            CHECK.refuses("24: no such goal", x, IndexOutOfBoundsException.class, () -> x.strength(place, 0));
            CHECK.refuses("24: no such place", x, IndexOutOfBoundsException.class, () -> x.strength(0, place));
            CHECK.refuses("25: no such place", x, IndexOutOfBoundsException.class, () -> x.knowsWay(place));
        }
        MapCarrier empty = new MapCarrier();
        CHECK.refuses("25: no places", empty, IndexOutOfBoundsException.class, () -> empty.knowsWay(0));
    }

    private static void holds(String what, MapCarrier x, int goal, int place, int exit, int strength) {
        CHECK.same("23: remembered, " + what, x.remembered(goal, place), exit);
        CHECK.same("24: strength, " + what, x.strength(goal, place), strength);
    }
}

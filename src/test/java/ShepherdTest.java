/** Promises 6, 19 and 30, and the shepherds' part in a step of an errand. */
public final class ShepherdTest {
    private static final Check CHECK = new Check();

    private ShepherdTest() {
    }

    public static void main(String[] args) {
        pay();
        tellsTheWay();
        tellsTheSmallestNumber();
        isNotAskedWithoutCoinOrAtTheGoal();
        knowsNoWay();
        tellsATriedExit();
        isAskedOnceAnErrand();
        isAskedStillWhenTurned();
        takesTheStrengthAway();
        CHECK.close();
    }

    private static void pay() {
        MapCarrier x = new MapCarrier();
        CHECK.same("6: one", x.pay(1), 1);
        CHECK.same("6: more", x.pay(97), 98);
        CHECK.same("6: 99", x.pay(1), 99);
        CHECK.same("6: more are lost", x.pay(1), 99);
        CHECK.same("6: many more are lost", x.pay(99), 99);
        CHECK.same("19: coins", x.coins(), 99);
        int[] wrong = {0, 100, -1, Integer.MIN_VALUE, Integer.MAX_VALUE};
        for (int coins : wrong) {
            CHECK.refuses("6: coins", x, IllegalArgumentException.class, () -> x.pay(coins));
        }
        CHECK.same("6: 99 at once", new MapCarrier().pay(99), 99);
    }

    private static void tellsTheWay() {
        MapCarrier x = Lands.fork();
        x.turnShepherd(0);
        x.pay(2);
        x.beginErrand(3);
        x.goOn(1);
        CHECK.same("18: not into the dead end", x.whereIs(), 2);
        asked("at the fork", x, 1, 1);
        holds("told", x, 3, 0, 1, 3);
        x.goOn(9);
        holds("told and walked", x, 3, 0, 1, 6);
        holds("walked", x, 3, 2, 1, 3);
        CHECK.same("26: the shortest way", x.milesWalked(), 7);
        Lands.goTo(x, 0);
        Lands.goTo(x, 3);
        asked("not where it is remembered", x, 1, 1);
    }

    private static void tellsTheSmallestNumber() {
        MapCarrier x = Lands.withPlaces(4);
        x.addRoad(0, 1, 3);
        x.addRoad(0, 2, 4);
        x.addRoad(1, 3, 3);
        x.addRoad(2, 3, 1);
        x.addRoad(0, 3, 5);
        x.turnShepherd(0);
        x.pay(1);
        x.beginErrand(3);
        x.goOn(1);
        holds("of two with five miles", x, 3, 0, 1, 3);
        CHECK.same("18: taken", x.whereIs(), 2);
    }

    private static void isNotAskedWithoutCoinOrAtTheGoal() {
        MapCarrier x = Lands.fork();
        x.turnShepherd(0);
        CHECK.same("8: without a coin", Lands.goTo(x, 3), 4);
        asked("without a coin", x, 0, 0);
        x.pay(5);
        CHECK.same("8: none on the way", Lands.goTo(x, 0), 2);
        asked("at the goal alone", x, 0, 5);
    }

    private static void knowsNoWay() {
        MapCarrier x = Lands.withPlaces(3);
        x.addRoad(0, 1, 1);
        x.addRoad(1, 2, 1);
        x.turnRoad(1, 1);
        x.turnShepherd(0);
        x.pay(1);
        x.beginErrand(2);
        CHECK.same("8: goes on all the same", x.goOn(2), 2);
        asked("paid in vain", x, 1, 0);
        holds("nothing is told", x, 2, 0, -1, 0);
        tellsNoClosedExit();
        MapCarrier alone = Lands.withPlaces(2);
        alone.turnShepherd(0);
        alone.pay(3);
        alone.beginErrand(1);
        CHECK.same("8: no step", alone.goOn(1), 0);
        asked("stays paid", alone, 1, 2);
        CHECK.same("29: in vain", alone.errandsInVain(), 1);
    }

    private static void tellsNoClosedExit() {
        MapCarrier x = Lands.withPlaces(3);
        x.addRoad(0, 1, 1);
        x.addRoad(0, 2, 1);
        x.turnRoad(0, 1);
        x.turnShepherd(0);
        x.pay(1);
        CHECK.same("8: there, back, and over", Lands.goTo(x, 2), 2);
        asked("where the way is closed", x, 1, 0);
        holds("the closed exit is not told", x, 2, 0, -1, 0);
    }

    private static void tellsATriedExit() {
        MapCarrier x = Lands.withPlaces(4);
        x.addRoad(0, 1, 1);
        x.addRoad(0, 2, 1);
        x.addRoad(1, 3, 1);
        x.turnRoad(1, 1);
        x.beginErrand(3);
        x.goOn(2);
        x.turnRoad(1, 1);
        x.turnShepherd(0);
        x.pay(2);
        CHECK.same("8: a step", x.goOn(1), 1);
        CHECK.same("18: the tried one is not taken", x.whereIs(), 2);
        holds("but remembered", x, 3, 0, 0, 3);
        asked("once", x, 1, 1);
        CHECK.same("8: back, and over", x.goOn(9), 1);
        asked("once still", x, 1, 1);
        CHECK.same("29: in vain", x.errandsInVain(), 1);
        holds("stays remembered", x, 3, 0, 0, 3);
    }

    private static void isAskedOnceAnErrand() {
        MapCarrier x = Lands.withPlaces(4);
        x.addRoad(0, 1, 1);
        x.addRoad(0, 2, 1);
        x.turnShepherd(0);
        x.turnShepherd(2);
        x.pay(9);
        Lands.goTo(x, 3);
        asked("each one once", x, 2, 7);
        Lands.goTo(x, 3);
        asked("and in the next errand again", x, 4, 5);
    }

    /** The document does not say it: askedness is held by place, so that a turn and a turn are none. */
    private static void isAskedStillWhenTurned() {
        MapCarrier x = Lands.withPlaces(4);
        x.addRoad(0, 1, 1);
        x.addRoad(0, 2, 1);
        x.turnShepherd(0);
        x.pay(9);
        x.beginErrand(3);
        x.goOn(2);
        x.turnShepherd(0);
        x.turnShepherd(0);
        x.goOn(9);
        asked("once", x, 1, 8);
    }

    private static void takesTheStrengthAway() {
        MapCarrier x = Lands.fork();
        for (int i = 0; i < 4; i++) {
            Lands.goTo(x, 3);
            Lands.goTo(x, 0);
        }
        holds("strong", x, 3, 0, 1, 9);
        x.addRoad(0, 3, 1);
        x.turnRoad(0, 1);
        x.turnShepherd(0);
        x.pay(1);
        x.beginErrand(3);
        x.goOn(1);
        holds("told, taken, walked", x, 3, 0, 2, 6);
        theSameExitAnew();
    }

    /** Remembered and strong, but tried: the shepherd tells it anew with the strength 3. */
    private static void theSameExitAnew() {
        MapCarrier x = Lands.fork();
        for (int i = 0; i < 4; i++) {
            Lands.goTo(x, 3);
            Lands.goTo(x, 0);
        }
        x.beginErrand(3);
        x.goOn(1);
        x.turnRoad(2, 1);
        x.goOn(1);
        CHECK.same("18: back", x.whereIs(), 0);
        x.turnRoad(2, 1);
        x.turnShepherd(0);
        x.pay(1);
        x.goOn(1);
        CHECK.same("18: another one", x.whereIs(), 1);
        holds("anew", x, 3, 0, 1, 3);
        asked("for a coin", x, 1, 0);
    }

    private static void asked(String what, MapCarrier x, int times, int coins) {
        CHECK.same("30: asked, " + what, x.asked(), times);
        CHECK.same("19: coins, " + what, x.coins(), coins);
    }

    private static void holds(String what, MapCarrier x, int goal, int place, int exit, int strength) {
        CHECK.same("23: remembered, " + what, x.remembered(goal, place), exit);
        CHECK.same("24: strength, " + what, x.strength(goal, place), strength);
    }
}

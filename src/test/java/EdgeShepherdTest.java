/** The coins' and the shepherds' boundary cases: promises 6, 19 and 30, and case 2 of a step. */
public final class EdgeShepherdTest {
    private static final Check CHECK = new Check();

    private EdgeShepherdTest() {
    }

    public static void main(String[] args) {
        oneCoinAndNinetyNine();
        moreThanNinetyNineAreLost();
        coinsBeyond();
        noCoin();
        theLastCoin();
        noShepherd();
        askedOnlyWhereNoneIsTaken();
        askedOnceAnErrand();
        notAskedAtTheGoal();
        noWayToTellOf();
        whatWasRememberedStaysWithoutAWay();
        paidInVain();
        threeWhateverWasRemembered();
        threeForTheSameExit();
        theSmallestNumberOfSeveral();
        oneMileShorter();
        byOpenRoads();
        toldButTried();
        theFirstPlaceAndTheLast();
        askedAtThe512thCall();
        CHECK.close();
    }

    /** "Gives the carrier coins": the fewest and the most at once; "0, at first, at most 99". */
    private static void oneCoinAndNinetyNine() {
        MapCarrier x = new MapCarrier();
        CHECK.same("19: none at first", x.coins(), 0);
        CHECK.same("6: one", x.pay(1), 1);
        CHECK.same("19: one", x.coins(), 1);
        CHECK.same("6: 98 more", x.pay(98), 99);
        MapCarrier y = new MapCarrier();
        CHECK.same("6: 99", y.pay(99), 99);
        CHECK.same("19: 99", y.coins(), 99);
    }

    /** "More than 99 are lost." */
    private static void moreThanNinetyNineAreLost() {
        for (int had = 1; had <= 99; had++) {
            for (int more = 1; more <= 99; more++) {
                MapCarrier x = new MapCarrier();
                x.pay(had);
                CHECK.same("6: " + more + " to " + had, x.pay(more), Math.min(99, had + more));
                CHECK.same("19: as told", x.coins(), Math.min(99, had + more));
            }
        }
        MapCarrier x = Lands.withPlaces(2);
        x.turnShepherd(0);
        x.pay(99);
        x.pay(99);
        Lands.goTo(x, 1);
        CHECK.same("19: none was kept beyond 99", x.coins(), 98);
    }

    /** "Throws IllegalArgumentException if coins is not 1 to 99" */
    private static void coinsBeyond() {
        MapCarrier x = new MapCarrier();
        for (int coins : Beyond.range(1, 99)) {
            CHECK.refuses("6: " + coins + " to none", x, IllegalArgumentException.class, () -> x.pay(coins));
        }
        x.pay(50);
        for (int coins : Beyond.range(1, 99)) {
            CHECK.refuses("6: " + coins + " to 50", x, IllegalArgumentException.class, () -> x.pay(coins));
        }
        x.pay(99);
        for (int coins : Beyond.range(1, 99)) {
            CHECK.refuses("6: " + coins + " to 99", x, IllegalArgumentException.class, () -> x.pay(coins));
        }
    }

    /** "And the carrier has a coin": it has none. */
    private static void noCoin() {
        MapCarrier x = Lands.fork();
        x.turnShepherd(0);
        x.beginErrand(3);
        CHECK.same("8: one step", x.goOn(1), 1);
        CHECK.same("18: by the smallest number", x.whereIs(), 1);
        asked("without a coin", x, 0, 0);
        holds("nothing is told", x, 3, 0, -1, 0);
        x.pay(1);
        CHECK.same("8: back, where there is a coin now", x.goOn(2), 2);
        asked("who was not asked before", x, 1, 0);
    }

    /** "This is paid": one coin is enough, for one shepherd. */
    private static void theLastCoin() {
        MapCarrier x = Lands.row(4, 1);
        for (int place = 0; place < 3; place++) {
            x.turnShepherd(place);
        }
        x.pay(1);
        x.beginErrand(3);
        x.goOn(1);
        asked("at 0", x, 1, 0);
        holds("told", x, 3, 0, 0, 3);
        x.goOn(1);
        asked("not at 1", x, 1, 0);
        holds("not told", x, 3, 1, -1, 0);
        x.pay(99);
        x.goOn(1);
        asked("at 2", x, 2, 98);
        holds("told, and taken", x, 3, 2, 1, 6);
    }

    /** "If there is a shepherd at the place": there is none, or none any more. */
    private static void noShepherd() {
        MapCarrier x = Lands.fork();
        x.pay(99);
        x.turnShepherd(1);
        x.turnShepherd(0);
        x.turnShepherd(0);
        x.beginErrand(3);
        x.goOn(1);
        CHECK.same("18: by the smallest number", x.whereIs(), 1);
        asked("where there is none", x, 0, 99);
        x.turnShepherd(0);
        x.goOn(2);
        asked("in the dead end, and where one has come", x, 2, 97);
    }

    /** "Otherwise": not where a remembered exit is taken, but where it is closed or tried. */
    private static void askedOnlyWhereNoneIsTaken() {
        MapCarrier x = Lands.remembering(1);
        x.turnShepherd(0);
        x.pay(9);
        Lands.goTo(x, 2);
        asked("where a weak one is taken", x, 0, 9);
        Lands.goTo(x, 0);
        x.addRoad(0, 2, 9);
        x.turnRoad(0, 0);
        Lands.goTo(x, 2);
        asked("where it is closed", x, 1, 8);
        MapCarrier y = Lands.remembering(9);
        y.turnShepherd(0);
        y.pay(9);
        y.beginErrand(2);
        y.goOn(1);
        asked("where a strong one is taken", y, 0, 9);
        y.turnRoad(1, 1);
        y.goOn(1);
        y.goOn(1);
        asked("where it has been tried", y, 1, 8);
    }

    /** "Who has not been asked": once an errand, and "none, as it begins". */
    private static void askedOnceAnErrand() {
        MapCarrier x = Lands.star();
        x.turnShepherd(0);
        x.pay(9);
        x.beginErrand(5);
        for (int step = 0; step < 8; step++) {
            x.goOn(1);
            asked("at its first step", x, 1, 8);
        }
        x.goOn(1);
        asked("over, in vain", x, 1, 8);
        Lands.goTo(x, 5);
        asked("in the next one", x, 2, 7);
        x.beginErrand(5);
        x.goOn(1);
        x.giveUp();
        asked("in one that was given up", x, 3, 6);
        Lands.goTo(x, 0);
        Lands.goTo(x, 5);
        asked("and in the one behind it", x, 4, 5);
    }

    /** "A step of an errand, at a place that is not the goal" */
    private static void notAskedAtTheGoal() {
        MapCarrier x = Lands.row(2, 1);
        x.turnShepherd(1);
        x.pay(9);
        Lands.goTo(x, 1);
        asked("not at the goal", x, 0, 9);
        x.beginErrand(1);
        asked("nor if it is done at once", x, 0, 9);
        holds("nothing is told there", x, 1, 1, -1, 0);
    }

    /** "If the goal can be reached by open roads": it can't, and nothing is remembered; the coin is paid. */
    private static void noWayToTellOf() {
        MapCarrier x = Lands.row(3, 1);
        x.turnRoad(1, 1);
        x.turnShepherd(0);
        x.pay(2);
        x.beginErrand(2);
        CHECK.same("8: by the smallest number", x.goOn(1), 1);
        asked("in vain", x, 1, 1);
        holds("nothing", x, 2, 0, -1, 0);
        x.turnRoad(1, 1);
        CHECK.same("8: and on", x.goOn(1), 1);
        holds("walked, not told", x, 2, 0, 0, 3);
    }

    /** The same sentence where something was remembered: this stays, whatever its strength is. */
    private static void whatWasRememberedStaysWithoutAWay() {
        for (int strength = 1; strength <= 9; strength++) {
            MapCarrier x = Lands.remembering(strength);
            x.turnRoad(0, 0);
            x.turnShepherd(0);
            x.pay(1);
            x.beginErrand(2);
            CHECK.same("8: no exit is open", x.goOn(1), 0);
            asked("all the same", x, 1, 0);
            holds("as before", x, 2, 0, 0, strength);
        }
    }

    /** "No step is made (a coin that was paid by 2 stays paid)." */
    private static void paidInVain() {
        MapCarrier x = Lands.withPlaces(2);
        x.turnShepherd(0);
        x.pay(2);
        for (int coins = 1; coins >= 0; coins--) {
            x.beginErrand(1);
            CHECK.same("8: no step", x.goOn(1), 0);
            CHECK.same("29: in vain", x.errandsInVain(), 2 - coins);
            asked("and paid", x, 2 - coins, coins);
        }
        x.beginErrand(1);
        CHECK.same("8: no step", x.goOn(1), 0);
        asked("without a coin", x, 2, 0);
        MapCarrier y = Lands.row(2, 1);
        y.addPlace();
        y.beginErrand(2);
        y.goOn(2);
        y.turnShepherd(0);
        y.pay(1);
        CHECK.same("8: all are tried", y.goOn(1), 0);
        asked("by the try that ends it", y, 1, 0);
    }

    /** "It is remembered for this goal there with the strength 3, whatever was remembered there": another exit. */
    private static void threeWhateverWasRemembered() {
        for (int strength = 0; strength <= 9; strength++) {
            MapCarrier x = Lands.remembering(strength);
            x.addRoad(0, 2, 9);
            x.turnRoad(0, 0);
            x.turnShepherd(0);
            x.pay(1);
            x.beginErrand(2);
            // Over, the told exit has 3 more: to look at what was told alone, the goal is moved off behind it.
            x.turnRoad(0, 1);
            x.addPlace();
            x.addRoad(0, 3, 1);
            x.addRoad(3, 2, 1);
            CHECK.same("8: a step", x.goOn(1), 1);
            CHECK.same("18: the told one is taken", x.whereIs(), 3);
            holds("told, in the place of " + strength, x, 2, 0, 2, 3);
            asked("once", x, 1, 0);
        }
    }

    /** The same sentence where the told exit is the one that was remembered, and had been tried. */
    private static void threeForTheSameExit() {
        for (int strength = 1; strength <= 9; strength++) {
            MapCarrier x = Lands.remembering(strength);
            x.beginErrand(2);
            x.goOn(1);
            x.turnRoad(1, 1);
            x.goOn(1);
            x.turnRoad(1, 1);
            x.turnShepherd(0);
            x.pay(1);
            CHECK.same("8: it has been tried", x.goOn(1), 0);
            holds("the same anew, of " + strength, x, 2, 0, 0, 3);
            asked("once", x, 1, 0);
            CHECK.same("29: in vain", x.errandsInVain(), 1);
        }
    }

    /** "The exit with which the shortest way to it by miles begins, of several the smallest number" */
    private static void theSmallestNumberOfSeveral() {
        int[][] miles = {{5, 5, 5, 5}, {6, 5, 5, 5}, {6, 6, 5, 5}, {6, 6, 6, 5}, {5, 6, 6, 5}, {9, 1, 9, 1}};
        int[] due = {0, 1, 2, 3, 0, 1};
        for (int i = 0; i < due.length; i++) {
            MapCarrier x = Lands.withPlaces(3);
            for (int exit = 0; exit < 4; exit++) {
                x.addRoad(0, 1, miles[i][exit]);
            }
            tells("the same place by four roads", x, 1, due[i], 6);
        }
        MapCarrier y = Lands.withPlaces(3);
        y.addRoad(0, 1, 2);
        y.addRoad(1, 2, 2);
        y.addRoad(0, 2, 4);
        tells("two roads, as long as one", y, 2, 0, 3);
        MapCarrier z = Lands.withPlaces(3);
        z.addRoad(0, 2, 4);
        z.addRoad(0, 1, 2);
        z.addRoad(1, 2, 2);
        tells("one road, as long as two", z, 2, 0, 6);
    }

    /** The same sentence where one mile makes the difference, and the number of roads does not. */
    private static void oneMileShorter() {
        MapCarrier x = Lands.withPlaces(10);
        x.addRoad(0, 9, 9);
        for (int place = 0; place < 8; place++) {
            x.addRoad(place, place + 1, 1);
        }
        x.addRoad(8, 9, 1);
        tells("as long by nine roads as by one", x, 9, 0, 6);
        MapCarrier y = Lands.withPlaces(9);
        y.addRoad(0, 8, 9);
        for (int place = 0; place < 8; place++) {
            y.addRoad(place, place + 1, 1);
        }
        tells("one mile shorter by eight roads", y, 8, 1, 3);
    }

    /** "By open roads": neither a closed exit is told nor one whose way is closed farther on. */
    private static void byOpenRoads() {
        MapCarrier x = Lands.withPlaces(3);
        x.addRoad(0, 2, 1);
        x.addRoad(0, 1, 9);
        x.addRoad(1, 2, 9);
        x.turnRoad(2, 0);
        tells("the first exit is closed", x, 2, 1, 3);
        MapCarrier y = Lands.withPlaces(4);
        y.addRoad(0, 1, 1);
        y.addRoad(1, 3, 1);
        y.addRoad(0, 2, 9);
        y.addRoad(2, 3, 9);
        y.turnRoad(3, 0);
        tells("closed farther on", y, 3, 1, 3);
    }

    /** Asks at 0 what exit begins the way to a goal, which one step is made of. */
    private static void tells(String what, MapCarrier x, int goal, int exit, int strength) {
        x.turnShepherd(0);
        x.pay(1);
        x.beginErrand(goal);
        CHECK.same("8: a step, " + what, x.goOn(1), 1);
        CHECK.same("18: taken, " + what, x.whereIs(), x.leadsTo(0, exit));
        CHECK.same("26: over its road, " + what, x.milesWalked(), x.milesOf(0, exit));
        asked(what, x, 1, 0);
        holds(what, x, goal, 0, exit, strength);
    }

    /** "And if it has not been tried, it is taken": it has been, and the smallest other number is taken. */
    private static void toldButTried() {
        MapCarrier x = Lands.star();
        x.addRoad(1, 5, 1);
        x.turnRoad(1, 1);
        x.beginErrand(5);
        x.goOn(2);
        x.turnRoad(1, 1);
        x.turnShepherd(0);
        x.pay(1);
        CHECK.same("8: a step", x.goOn(1), 1);
        CHECK.same("18: by the next number", x.whereIs(), 2);
        holds("told all the same", x, 5, 0, 0, 3);
        asked("once", x, 1, 0);
        CHECK.same("22: it is tried", x.isTried(0, 1), true);
    }

    /** A shepherd at place 0, and one at place 9. */
    private static void theFirstPlaceAndTheLast() {
        MapCarrier x = Lands.row(10, 1);
        x.turnShepherd(0);
        x.turnShepherd(9);
        x.pay(2);
        x.beginErrand(9);
        x.goOn(1);
        asked("at 0", x, 1, 1);
        holds("told at 0", x, 9, 0, 0, 3);
        x.goOn(100);
        asked("not at the goal", x, 1, 1);
        x.beginErrand(0);
        x.goOn(1);
        asked("at 9", x, 2, 0);
        holds("told at 9", x, 0, 9, 0, 3);
    }

    /** "How often shepherds were asked", as often as can be in 512 calls. */
    private static void askedAtThe512thCall() {
        MapCarrier x = Lands.longest();
        for (int place = 0; place < 9; place++) {
            x.turnShepherd(place);
        }
        for (int coins = 0; coins < 20; coins++) {
            x.pay(99);
            for (int errand = 0; errand < 11; errand++) {
                x.beginErrand(9);
                x.goOn(100);
            }
        }
        x.pay(9);
        x.beginErrand(9);
        x.goOn(100);
        for (int i = 0; i < 11; i++) {
            x.sleep(9);
        }
        CHECK.same("30: the 512th call", x.asked(), 20 * 99 + 9);
    }

    private static void asked(String what, MapCarrier x, int times, int coins) {
        CHECK.same("30: asked, " + what, x.asked(), times);
        CHECK.same("19: coins, " + what, x.coins(), coins);
    }

    private static void holds(String what, MapCarrier x, int goal, int place, int exit, int strength) {
        CHECK.same("23: remembered, " + what, x.remembered(goal, place), exit);
        CHECK.same("24: strength, " + what, x.strength(goal, place), strength);
    }
}

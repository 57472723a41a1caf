/** Promises 31 to 34: what would be, the mean and the checksum. */
public final class WouldTest {
    private static final Check CHECK = new Check();

    private WouldTest() {
    }

    public static void main(String[] args) {
        wouldWalk();
        wouldWalkByMemoryAtOnce();
        bestShepherd();
        bestOfTenPlaces();
        bestOfSeveral();
        wrongly();
        meanMiles();
        digest();
        CHECK.close();
    }

    private static void wouldWalk() {
        MapCarrier x = Lands.fork();
        x.addPlace();
        wouldWalk("with the dead end", x, 3, 11);
        wouldWalk("here", x, 0, 0);
        wouldWalk("in vain", x, 4, -1);
        x.turnShepherd(0);
        wouldWalk("without a coin", x, 3, 11);
        x.pay(1);
        wouldWalk("for a coin", x, 3, 7);
        x.turnShepherd(0);
        Lands.goTo(x, 3);
        wouldWalk("back", x, 0, 7);
        Lands.goTo(x, 0);
        wouldWalk("by what is remembered", x, 3, 7);
        x.turnRoad(2, 1);
        wouldWalk("closed", x, 3, -1);
    }

    /** Nothing was asked before that could have left behind what is remembered. */
    private static void wouldWalkByMemoryAtOnce() {
        MapCarrier x = Lands.fork();
        Lands.goTo(x, 3);
        Lands.goTo(x, 0);
        wouldWalk("by what is remembered, the first time", x, 3, 7);
    }

    private static void wouldWalk(String what, MapCarrier x, int goal, int due) {
        String before = Answers.all(x);
        CHECK.same("31: wouldWalk, " + what, x.wouldWalk(goal), due);
        CHECK.sameText("31: nothing is changed, " + what, Answers.all(x), before);
    }

    private static void bestShepherd() {
        MapCarrier x = Lands.fork();
        x.addPlace();
        bestShepherd("without a coin", x, 3, -1);
        x.pay(1);
        bestShepherd("at the fork", x, 3, 0);
        bestShepherd("here", x, 0, -1);
        bestShepherd("in vain all the same", x, 4, -1);
        bestShepherd("nothing to be won", x, 1, -1);
        x.turnShepherd(0);
        bestShepherd("one is there", x, 3, -1);
        x.turnShepherd(0);
        Lands.goTo(x, 3);
        bestShepherd("nothing to be won on the way back", x, 0, -1);
        Lands.goTo(x, 0);
        bestShepherd("remembered", x, 3, -1);
    }

    private static void bestOfTenPlaces() {
        MapCarrier x = Lands.withPlaces(10);
        x.pay(1);
        x.addRoad(0, 9, 1);
        x.addRoad(9, 1, 8);
        x.addRoad(9, 2, 7);
        bestShepherd("at the tenth place", x, 2, 9);
        for (int place = 0; place < 10; place++) {
            x.turnShepherd(place);
        }
        bestShepherd("at none where there is one everywhere", x, 2, -1);
    }

    /** A row of forks with a dead end each: one coin is worth the most at the longest one. */
    private static void bestOfSeveral() {
        MapCarrier x = Lands.withPlaces(8);
        x.addRoad(0, 1, 2);
        x.addRoad(0, 2, 1);
        x.addRoad(2, 3, 5);
        x.addRoad(2, 4, 1);
        x.addRoad(4, 5, 5);
        x.addRoad(4, 6, 1);
        x.pay(1);
        CHECK.same("31: all dead ends", x.wouldWalk(6), 27);
        bestShepherd("of two the smallest number", x, 6, 2);
        x.turnShepherd(2);
        CHECK.same("31: with one", x.wouldWalk(6), 17);
        bestShepherd("the coin is spent at 2", x, 6, -1);
        x.pay(1);
        bestShepherd("with two coins", x, 6, 4);
        x.turnShepherd(4);
        bestShepherd("the coins are spent later: none is left", x, 6, -1);
        x.pay(1);
        bestShepherd("with three coins", x, 6, 0);
    }

    private static void bestShepherd(String what, MapCarrier x, int goal, int due) {
        String before = Answers.all(x);
        CHECK.same("32: bestShepherd, " + what, x.bestShepherd(goal), due);
        CHECK.sameText("32: nothing is changed, " + what, Answers.all(x), before);
    }

    private static void wrongly() {
        MapCarrier x = Lands.fork();
        int[] wrong = {-1, 4, 10, Integer.MIN_VALUE, Integer.MAX_VALUE};
        refuseGoals(x, wrong);
        x.beginErrand(3);
        refuseGoals(x, wrong);
        for (int goal = 0; goal < 4; goal++) {
            int there = goal;
            CHECK.refuses("31: one goes on", x, IllegalStateException.class, () -> x.wouldWalk(there));
            CHECK.refuses("32: one goes on", x, IllegalStateException.class, () -> x.bestShepherd(there));
        }
        refuseGoals(new MapCarrier(), new int[] {0, -1});
    }

    private static void refuseGoals(MapCarrier x, int[] wrong) {
        for (int goal : wrong) {
            CHECK.refuses("31: no such place", x, IndexOutOfBoundsException.class, () -> x.wouldWalk(goal));
            CHECK.refuses("32: no such place", x, IndexOutOfBoundsException.class, () -> x.bestShepherd(goal));
        }
    }

    private static void meanMiles() {
        MapCarrier x = Lands.fork();
        x.addPlace();
        CHECK.sameDouble("33: none yet", x.meanMiles(), 0.0);
        x.beginErrand(3);
        x.goOn(1);
        CHECK.sameDouble("33: none is over", x.meanMiles(), 0.0);
        x.goOn(100);
        CHECK.sameDouble("33: one", x.meanMiles(), 11.0);
        Lands.goTo(x, 4);
        CHECK.sameDouble("33: one done, one in vain", x.meanMiles(), 29.0 / 2.0);
        x.beginErrand(3);
        CHECK.sameDouble("33: one to the same place counts", x.meanMiles(), 29.0 / 3.0);
        x.beginErrand(0);
        x.goOn(1);
        x.giveUp();
        CHECK.sameDouble("33: one given up does not, but its miles", x.meanMiles(), 33.0 / 3.0);
        MapCarrier alone = Lands.withPlaces(2);
        Lands.goTo(alone, 1);
        CHECK.sameDouble("33: in vain alone", alone.meanMiles(), 0.0);
    }

    private static void digest() {
        CHECK.same("34: without places", new MapCarrier().digest(), 1535162927736499151L);
        MapCarrier x = Lands.fork();
        CHECK.same("34: a land", x.digest(), Answers.digest(x));
        x.turnShepherd(2);
        x.pay(5);
        x.beginErrand(3);
        x.goOn(2);
        CHECK.same("34: an errand goes on", x.digest(), Answers.digest(x));
        x.turnRoad(0, 0);
        x.goOn(9);
        CHECK.same("34: and is over", x.digest(), Answers.digest(x));
        x.sleep(1);
        CHECK.same("34: a night", x.digest(), Answers.digest(x));
    }
}

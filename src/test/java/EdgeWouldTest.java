import java.math.BigInteger;

/** The boundary cases of what would be, of the mean and of the checksum: promises 31 to 34. */
public final class EdgeWouldTest {
    private static final Check CHECK = new Check();
    private static final long NOTHING = 1535162927736499151L;

    private EdgeWouldTest() {
    }

    public static void main(String[] args) {
        noMilesAtTheGoal();
        fewestMilesAndMost();
        wouldBeInVain();
        wouldPayTheLastCoin();
        wouldGoByTheWeakestMemory();
        nothingIsChanged();
        noSuchGoal();
        onlyWithoutAnErrand();
        noneWithoutACoin();
        noneWithoutAWay();
        noneWhereOneIsEverywhere();
        besideShepherdsWhoAreThere();
        noneThatIsAsGood();
        noneThatIsWorse();
        oneMileIsEnough();
        theFewestOfSeveral();
        theSmallestNumberOfSeveral();
        theFirstPlaceAndTheLast();
        meanOfNone();
        meanOfOneKind();
        meanThatIsNotWhole();
        checksumOfNothing();
        checksumThatWrapsAround();
        checksumOfEachNumber();
        checksumAtEachState();
        CHECK.close();
    }

    /** "How many miles an errand to it, begun now, would take": to where the carrier is, 0. */
    private static void noMilesAtTheGoal() {
        would("alone", Lands.withPlaces(1), 0, 0, -1);
        MapCarrier x = Lands.full();
        would("at the first place", x, 0, 0, -1);
        Lands.goTo(x, 9);
        x.turnShepherd(9);
        x.pay(1);
        would("at the last place", x, 9, 0, -1);
    }

    /** One mile; nine of the longest roads; and every road of nine places there and back ahead of the goal. */
    private static void fewestMilesAndMost() {
        would("one mile", Lands.row(2, 1), 1, 1, -1);
        would("nine roads", Lands.row(10, 9), 9, 81, -1);
        MapCarrier x = Lands.withPlaces(10);
        x.addRoad(0, 1, 9);
        x.addRoad(0, 9, 9);
        for (int place = 1; place < 8; place++) {
            x.addRoad(place, place + 1, 9);
            x.addRoad(place, place + 1, 9);
        }
        x.addRoad(8, 1, 9);
        would("sixteen roads there and back, and the last", x, 9, 33 * 9, -1);
        x.pay(1);
        would("for a coin", x, 9, 33 * 9, 0);
        CHECK.same("8: it does", Lands.goTo(x, 9), 33);
        CHECK.same("26: as it would", x.milesWalked(), 33 * 9);
    }

    /** "-1 if it would be in vain" */
    private static void wouldBeInVain() {
        would("no exits", Lands.withPlaces(2), 1, -1, -1);
        would("every road twice", Lands.longest(), 9, -1, -1);
        MapCarrier x = Lands.row(10, 1);
        for (int place = 0; place < 9; place++) {
            int exit = place == 0 ? 0 : 1;
            x.turnRoad(place, exit);
            would("a closed road", x, 9, -1, -1);
            x.turnRoad(place, exit);
            would("open", x, 9, 9, -1);
        }
    }

    /** It pays as the errand would: the last coin is spent on the way, and is there still. */
    private static void wouldPayTheLastCoin() {
        MapCarrier x = forks(3, 2, 1);
        for (int place = 0; place < 3; place++) {
            x.turnShepherd(place);
        }
        CHECK.same("31: no coin", x.wouldWalk(3), 6);
        for (int coins = 1; coins <= 4; coins++) {
            x.pay(1);
            CHECK.same("31: coins", x.wouldWalk(3), 6 - Math.min(3, coins));
            CHECK.same("19: none is paid", x.coins(), coins);
            CHECK.same("30: none was asked", x.asked(), 0);
        }
    }

    /** It goes by what is remembered with the strength 1, and no more when this is forgotten. */
    private static void wouldGoByTheWeakestMemory() {
        for (int nights = 1; nights <= 3; nights++) {
            MapCarrier x = Lands.star();
            Lands.goTo(x, 4);
            Lands.goTo(x, 0);
            x.sleep(nights);
            would("after " + nights + " nights", x, 4, nights < 3 ? 4 : 2 * (1 + 2 + 3) + 4, -1);
        }
    }

    /** "(nothing is changed)": what follows is as if it had not been asked. */
    private static void nothingIsChanged() {
        for (int steps = 1; steps <= 8; steps++) {
            MapCarrier asked = readyToGo();
            MapCarrier unasked = readyToGo();
            for (int goal = 0; goal < asked.places(); goal++) {
                asked.wouldWalk(goal);
                asked.bestShepherd(goal);
            }
            CHECK.sameText("31, 32: nothing is changed", Answers.all(asked), Answers.all(unasked));
            asked.beginErrand(6);
            unasked.beginErrand(6);
            CHECK.same("8: as many", asked.goOn(steps), unasked.goOn(steps));
            CHECK.sameText("31, 32: nor later on", Answers.all(asked), Answers.all(unasked));
        }
    }

    private static MapCarrier readyToGo() {
        MapCarrier x = Lands.withPlaces(7);
        x.addRoad(0, 1, 2);
        x.addRoad(0, 2, 1);
        x.addRoad(2, 3, 5);
        x.addRoad(2, 4, 1);
        x.addRoad(4, 5, 5);
        x.addRoad(4, 6, 1);
        x.turnShepherd(0);
        x.turnShepherd(3);
        x.pay(2);
        Lands.goTo(x, 4);
        Lands.goTo(x, 0);
        x.pay(2);
        return x;
    }

    /** "Throws IndexOutOfBoundsException if there is no such place", ahead of "if an errand goes on". */
    private static void noSuchGoal() {
        MapCarrier empty = new MapCarrier();
        refuseGoal("no places", empty, 0, IndexOutOfBoundsException.class);
        for (int goal : Beyond.range(0, 0)) {
            refuseGoal("no places", empty, goal, IndexOutOfBoundsException.class);
        }
        for (int count = 2; count <= 10; count++) {
            MapCarrier x = Lands.row(count, 1);
            for (int goal : Beyond.places(x)) {
                refuseGoal("no such place", x, goal, IndexOutOfBoundsException.class);
            }
            x.beginErrand(count - 1);
            for (int goal : Beyond.places(x)) {
                refuseGoal("no such place, and one goes on", x, goal, IndexOutOfBoundsException.class);
            }
        }
    }

    /** "Throws IllegalStateException if an errand goes on": as it begins, on its way, and no more as it is over. */
    private static void onlyWithoutAnErrand() {
        MapCarrier x = Lands.row(10, 1);
        x.beginErrand(9);
        for (int step = 0; step < 9; step++) {
            for (int goal = 0; goal < 10; goal++) {
                refuseGoal("one goes on", x, goal, IllegalStateException.class);
            }
            x.goOn(1);
        }
        would("it is done", x, 0, 9, -1);
        x.beginErrand(0);
        x.giveUp();
        would("it was given up", x, 0, 9, -1);
    }

    private static void refuseGoal(String what, MapCarrier x, int goal, Class<? extends RuntimeException> due) {
        CHECK.refuses("31: " + goal + ", " + what, x, due, () -> x.wouldWalk(goal));
        CHECK.refuses("32: " + goal + ", " + what, x, due, () -> x.bestShepherd(goal));
    }

    /** "-1 if none lets it be fewer than now": no coin, and then one. */
    private static void noneWithoutACoin() {
        MapCarrier x = Lands.fork();
        would("no coin", x, 3, 11, -1);
        x.pay(1);
        would("a coin", x, 3, 11, 0);
        x.turnShepherd(1);
        would("a coin that is paid in the dead end: better at the fork", x, 3, 11, 0);
        x.turnShepherd(0);
        would("a coin that is paid at the fork", x, 3, 7, -1);
    }

    /** "Or in vain no more": a shepherd opens no road, so that what is in vain stays in vain. */
    private static void noneWithoutAWay() {
        MapCarrier x = Lands.longest();
        x.pay(99);
        would("no exit leads there", x, 9, -1, -1);
        MapCarrier y = Lands.fork();
        y.pay(99);
        y.turnRoad(3, 0);
        would("behind snow", y, 3, -1, -1);
    }

    /** "The place without a shepherd": all have one, or all but one that is of no use. */
    private static void noneWhereOneIsEverywhere() {
        MapCarrier x = forks(9, 2, 1);
        x.pay(1);
        would("nowhere yet", x, 9, 18, 0);
        for (int place = 9; place >= 0; place--) {
            x.turnShepherd(place);
        }
        would("everywhere", x, 9, 17, -1);
        x.turnShepherd(9);
        would("but at the goal", x, 9, 17, -1);
    }

    /** "The place without a shepherd where one would help": one who is at another place or at the goal stops none. */
    private static void besideShepherdsWhoAreThere() {
        for (int there = 1; there <= 9; there++) {
            MapCarrier x = forks(9, 2, 1);
            x.pay(9);
            x.turnShepherd(there);
            int now = there == 9 ? 18 : 17;
            would("one at " + there, x, 9, now, 0);
            x.turnShepherd(0);
            would("one at 0 as well", x, 9, now - 1, there == 1 ? 2 : 1);
        }
    }

    /** "Fewer than now": as many are not fewer. */
    private static void noneThatIsAsGood() {
        MapCarrier x = forks(3, 5, 5);
        x.pay(9);
        would("both roads are as long", x, 3, 15, -1);
        MapCarrier y = forks(3, 4, 5);
        y.pay(9);
        would("the first road is the shorter one", y, 3, 12, -1);
    }

    /** A shepherd who leads the carrier by the shortest way to a dead end helps nothing. */
    private static void noneThatIsWorse() {
        MapCarrier x = Lands.withPlaces(4);
        x.addRoad(0, 3, 5);
        x.addRoad(0, 1, 1);
        x.addRoad(1, 2, 9);
        x.addRoad(1, 3, 1);
        x.pay(1);
        would("now", x, 3, 5, -1);
        x.turnShepherd(0);
        would("with one at 0, whom the coin is paid", x, 3, 20, -1);
        x.pay(1);
        would("with one at 0, it is one at 1 who helps", x, 3, 20, 1);
    }

    /** "Fewer than now": by one mile. */
    private static void oneMileIsEnough() {
        MapCarrier x = forks(1, 2, 1);
        x.pay(1);
        would("one mile of two", x, 1, 2, 0);
        MapCarrier y = forks(1, 9, 8);
        y.pay(1);
        would("one mile of nine", y, 1, 9, 0);
    }

    /** "With whom wouldWalk() tells the fewest miles": at the first, in the midst, at the last. */
    private static void theFewestOfSeveral() {
        for (int best = 0; best < 9; best++) {
            MapCarrier x = Lands.withPlaces(10);
            for (int place = 8; place >= 0; place--) {
                x.addRoad(place, place + 1, place == best ? 9 : 8);
                x.addRoad(place, place + 1, 7);
            }
            x.pay(1);
            would("two miles fewer, not one", x, 9, 73, best);
        }
    }

    /** "Of several the smallest number" */
    private static void theSmallestNumberOfSeveral() {
        MapCarrier x = forks(9, 2, 1);
        x.pay(9);
        for (int place = 0; place < 9; place++) {
            would("as good at all that are left", x, 9, 18 - place, place);
            x.turnShepherd(place);
        }
        would("none is left", x, 9, 9, -1);
        // The way goes through the greater numbers first: it is the number that counts, not the way.
        MapCarrier y = Lands.withPlaces(4);
        int[] way = {0, 3, 2, 1};
        for (int i = 2; i > 0; i--) {
            y.addRoad(way[i], way[i + 1], 2);
            y.addRoad(way[i], way[i + 1], 1);
        }
        y.addRoad(0, 3, 1);
        y.pay(1);
        would("of 3 and 2", y, 1, 5, 2);
    }

    /** Place 0, and place 9. */
    private static void theFirstPlaceAndTheLast() {
        MapCarrier x = forks(9, 2, 1);
        x.pay(1);
        would("the first", x, 9, 18, 0);
        MapCarrier y = Lands.withPlaces(10);
        y.addRoad(0, 9, 1);
        y.addRoad(9, 8, 2);
        y.addRoad(9, 8, 1);
        y.pay(1);
        would("the last", y, 8, 3, 9);
    }

    /** "0 if both are 0", though miles were walked. */
    private static void meanOfNone() {
        CHECK.sameDouble("33: no places", new MapCarrier().meanMiles(), 0.0);
        MapCarrier x = Lands.row(3, 9);
        CHECK.sameDouble("33: no errand", x.meanMiles(), 0.0);
        x.beginErrand(2);
        CHECK.sameDouble("33: begun", x.meanMiles(), 0.0);
        x.goOn(1);
        CHECK.sameDouble("33: on its way", x.meanMiles(), 0.0);
        x.giveUp();
        CHECK.same("26: miles", x.milesWalked(), 9);
        CHECK.sameDouble("33: given up", x.meanMiles(), 0.0);
    }

    /** "Divided by errandsDone() and errandsInVain(), added": one of them is 0, or the miles are. */
    private static void meanOfOneKind() {
        MapCarrier x = Lands.row(2, 9);
        Lands.goTo(x, 1);
        CHECK.sameDouble("33: done alone", x.meanMiles(), 9.0);
        MapCarrier y = Lands.row(2, 9);
        y.addPlace();
        Lands.goTo(y, 2);
        CHECK.sameDouble("33: in vain alone", y.meanMiles(), 18.0);
        MapCarrier z = Lands.withPlaces(2);
        z.beginErrand(0);
        CHECK.sameDouble("33: no miles, done", z.meanMiles(), 0.0);
        Lands.goTo(z, 1);
        CHECK.sameDouble("33: no miles, in vain as well", z.meanMiles(), 0.0);
    }

    /** A mean that is not whole, below 1 and above it. */
    private static void meanThatIsNotWhole() {
        MapCarrier x = Lands.row(2, 1);
        Lands.goTo(x, 1);
        for (int errands = 2; errands <= 9; errands++) {
            x.beginErrand(1);
            CHECK.sameDouble("33: one mile of " + errands, x.meanMiles(), 1.0 / errands);
        }
        x.addPlace();
        Lands.goTo(x, 2);
        CHECK.sameDouble("33: three miles of ten", x.meanMiles(), 0.3);
        Lands.goTo(x, 0);
        CHECK.sameDouble("33: four miles of eleven", x.meanMiles(), 4.0 / 11.0);
    }

    /** "A number d starts with 1873": of an object without places, which does not wrap around yet. */
    private static void checksumOfNothing() {
        MapCarrier x = new MapCarrier();
        CHECK.same("34: no places", x.digest(), NOTHING);
        CHECK.sameText("34: not wrapped", Answers.boundlessDigest(x).toString(), String.valueOf(NOTHING));
        x.pay(99);
        CHECK.same("34: 99 coins", x.digest(), NOTHING + 99L * 31 * 31 * 31 * 31 * 31 * 31 * 31);
    }

    /** "Which wraps around as a 64-bit integer": to numbers below 0 and above it. */
    private static void checksumThatWrapsAround() {
        CHECK.same("34: one place", Lands.withPlaces(1).digest(), 551378051947920464L);
        CHECK.same("34: two places", Lands.withPlaces(2).digest(), -6189264916844847598L);
        CHECK.same("34: the full land", Lands.full().digest(), 4830014759983855870L);
        for (int count = 1; count <= 10; count++) {
            BigInteger boundless = Answers.boundlessDigest(Lands.row(count, 9));
            CHECK.same("34: beyond 64 bits", boundless.bitLength() > 64, true);
            CHECK.same("34: wrapped", Lands.row(count, 9).digest(), boundless.longValue());
        }
    }

    /** "For each of the following numbers": a change of one of them alone changes it by this one's share. */
    private static void checksumOfEachNumber() {
        MapCarrier x = Lands.remembering(9);
        // Of the three places and four exits, and of the nine pairs of a goal and a place.
        int behind = 3 * 2 + 4 * 4 + 9 * 2;
        long before = x.digest();
        x.pay(1);
        CHECK.same("34: a coin", x.digest() - before, power(7 + behind));
        before = x.digest();
        x.beginErrand(0);
        CHECK.same("34: an errand done", x.digest() - before, power(2 + behind));
        before = x.digest();
        x.turnShepherd(2);
        CHECK.same("34: a shepherd", x.digest() - before, power(1 + 4 + 18));
        before = x.digest();
        x.turnRoad(1, 1);
        CHECK.same("34: a closed road", x.digest() - before, -power(1 + 6 + 18) - power(1 + 18));
        before = x.digest();
        x.sleep(1);
        CHECK.same("34: strengths, for 0 at 1 and 2, and for 2 at 0 and 1", x.digest() - before,
            -power(14) - power(12) - power(4) - power(2));
    }

    /** At each state of an errand, with goals and tried exits, and with -1 for what is not. */
    private static void checksumAtEachState() {
        MapCarrier x = Lands.full();
        same(x);
        x.turnShepherd(0);
        x.turnShepherd(9);
        x.pay(99);
        x.beginErrand(5);
        same(x);
        for (int step = 0; step < 20 && x.goal() != -1; step++) {
            x.goOn(1);
            same(x);
        }
        x.turnRoad(0, 3);
        x.beginErrand(0);
        x.goOn(2);
        same(x);
        x.giveUp();
        same(x);
        x.sleep(9);
        same(x);
    }

    private static void same(MapCarrier x) {
        CHECK.same("34: digest", x.digest(), Answers.boundlessDigest(x).longValue());
    }

    private static long power(int exponent) {
        return BigInteger.valueOf(31).pow(exponent).longValue();
    }

    /** Places in a row, where two roads lead on, the first exit's and the second's miles long, ahead of those back. */
    private static MapCarrier forks(int roads, int first, int second) {
        MapCarrier x = Lands.withPlaces(roads + 1);
        for (int place = roads - 1; place >= 0; place--) {
            x.addRoad(place, place + 1, first);
            x.addRoad(place, place + 1, second);
        }
        return x;
    }

    private static void would(String what, MapCarrier x, int goal, int miles, int best) {
        String before = Answers.all(x);
        CHECK.same("31: wouldWalk, " + what, x.wouldWalk(goal), miles);
        CHECK.sameText("31: nothing is changed, " + what, Answers.all(x), before);
        CHECK.same("32: bestShepherd, " + what, x.bestShepherd(goal), best);
        CHECK.sameText("32: nothing is changed, " + what, Answers.all(x), before);
    }
}

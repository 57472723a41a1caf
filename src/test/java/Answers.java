import java.math.BigInteger;
import java.util.ArrayList;
import java.util.List;

/** Asks an object for all that it tells without being changed. */
final class Answers {
    private Answers() {
    }

    /** The answers of all that can be asked, in one text. */
    static String all(MapCarrier x) {
        StringBuilder text = new StringBuilder();
        text.append(digested(x)).append(" digest ").append(x.digest()).append(" mean ").append(x.meanMiles());
        for (int goal = 0; goal < x.places(); goal++) {
            text.append(" knows ").append(x.knowsWay(goal));
            for (int place = 0; place < x.places(); place++) {
                text.append(' ').append(x.distance(goal, place));
            }
        }
        return text.toString();
    }

    /** The checksum as the document tells it, from the other answers. */
    static long digest(MapCarrier x) {
        long d = 1873;
        for (long number : digested(x)) {
            d = d * 31 + number;
        }
        return d;
    }

    /** The checksum without any wrap-around. */
    static BigInteger boundlessDigest(MapCarrier x) {
        BigInteger d = BigInteger.valueOf(1873);
        for (long number : digested(x)) {
            d = d.multiply(BigInteger.valueOf(31)).add(BigInteger.valueOf(number));
        }
        return d;
    }

    /** The numbers of which the checksum is made, in their order. */
    static List<Long> digested(MapCarrier x) {
        List<Long> numbers = new ArrayList<>();
        int[] first = {x.places(), x.whereIs(), x.coins(), x.goal(), x.wayLength(), x.milesWalked(),
            x.milesDoubled(), x.errandsDone(), x.errandsInVain(), x.asked()};
        for (int number : first) {
            numbers.add((long) number);
        }
        for (int place = 0; place < x.places(); place++) {
            addPlace(numbers, x, place);
        }
        for (int goal = 0; goal < x.places(); goal++) {
            for (int place = 0; place < x.places(); place++) {
                numbers.add((long) x.remembered(goal, place));
                numbers.add((long) x.strength(goal, place));
            }
        }
        return numbers;
    }

    private static void addPlace(List<Long> numbers, MapCarrier x, int place) {
        numbers.add(x.hasShepherd(place) ? 1L : 0L);
        numbers.add((long) x.exitsOf(place));
        for (int exit = 0; exit < x.exitsOf(place); exit++) {
            numbers.add((long) x.leadsTo(place, exit));
            numbers.add((long) x.milesOf(place, exit));
            numbers.add(x.isOpen(place, exit) ? 1L : 0L);
            numbers.add(x.isTried(place, exit) ? 1L : 0L);
        }
    }
}

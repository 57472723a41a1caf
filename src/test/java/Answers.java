/** Asks an object for all that it tells without being changed. */
final class Answers {
    private Answers() {
    }

    /** The answers of all that can be asked, in one text. */
    static String all(MapCarrier x) {
        StringBuilder text = new StringBuilder();
        text.append("digest ").append(x.digest()).append(" mean ").append(x.meanMiles());
        for (int goal = 0; goal < x.places(); goal++) {
            text.append(" knows ").append(x.knowsWay(goal));
            for (int place = 0; place < x.places(); place++) {
                text.append(' ').append(x.distance(goal, place));
            }
        }
        return text.toString();
    }

    /** The checksum as the document tells it, from the other answers. */
    static long digest(MapCarrier x) {
        long d = 1873;
        long[] first = {x.places(), x.whereIs(), x.coins(), x.goal(), x.wayLength(), x.milesWalked(),
            x.milesDoubled(), x.errandsDone(), x.errandsInVain(), x.asked()};
        for (long number : first) {
            d = d * 31 + number;
        }
        for (int place = 0; place < x.places(); place++) {
            d = d * 31 + (x.hasShepherd(place) ? 1 : 0);
            d = d * 31 + x.exitsOf(place);
            for (int exit = 0; exit < x.exitsOf(place); exit++) {
                d = d * 31 + x.leadsTo(place, exit);
                d = d * 31 + x.milesOf(place, exit);
                d = d * 31 + (x.isOpen(place, exit) ? 1 : 0);
                d = d * 31 + (x.isTried(place, exit) ? 1 : 0);
            }
        }
        for (int goal = 0; goal < x.places(); goal++) {
            for (int place = 0; place < x.places(); place++) {
                d = d * 31 + x.remembered(goal, place);
                d = d * 31 + x.strength(goal, place);
            }
        }
        return d;
    }
}

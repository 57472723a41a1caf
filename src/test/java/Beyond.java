/** Numbers that are not taken: the first ones beyond what is, and far ones, up to the smallest and the largest int. */
final class Beyond {
    private Beyond() {
    }

    /** Beyond least to most, which are 0 to 255: among them what a cast to byte or short would bring back inside. */
    static int[] range(int least, int most) {
        return new int[] {least - 1, most + 1, least - 2, most + 2, least - 10, most + 10, least - 256, least + 256,
            least - 65536, least + 65536, most - 65536, most + 65536, -1000000000, 1000000000, 1 << 30, -(1 << 30),
            Integer.MIN_VALUE, Integer.MAX_VALUE, Integer.MIN_VALUE + 1, Integer.MAX_VALUE - 1};
    }

    /** Numbers of no place of this land. */
    static int[] places(MapCarrier x) {
        return range(0, x.places() - 1);
    }

    /** Numbers of no exit of this place, which there is. */
    static int[] exits(MapCarrier x, int place) {
        return range(0, x.exitsOf(place) - 1);
    }
}

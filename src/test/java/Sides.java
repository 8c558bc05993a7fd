/** Where the bows of the sides are: 0 the row 0, 1 the column 11, 2 the row 11, 3 the column 0. */
final class Sides {
    private Sides() {
    }

    static int columnOf(int side, int along) {
        return side == 1 ? 11 : side == 3 ? 0 : along;
    }

    static int rowOf(int side, int along) {
        return side == 0 ? 0 : side == 2 ? 11 : along;
    }
}

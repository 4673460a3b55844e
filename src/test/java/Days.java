/** Lets days go by. */
final class Days {
    private Days() {
    }

    static void pass(TributeFleet x, int days) {
        for (int i = 0; i < days; i++) {
            x.day();
        }
    }
}

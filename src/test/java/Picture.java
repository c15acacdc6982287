/** What an object answers to all that can be asked without changing it, as a text. */
final class Picture {
    private final StringBuilder text = new StringBuilder();

    private Picture() {
    }

    /** Some 70 calls: an object of 512 calls bears six of them. */
    static String ofAll(ApartCost x) {
        Picture picture = new Picture();
        picture.found(x);
        picture.others(x);
        picture.add("proved", x.proved() ? 1 : 0);
        picture.add("states", x.states());
        picture.add("bound", x.bound());
        return picture.text.toString();
    }

    /** What was found by run() and stations() alone. */
    static String ofFound(ApartCost x) {
        Picture picture = new Picture();
        picture.found(x);
        return picture.text.toString();
    }

    private void found(ApartCost x) {
        for (int k = -1; k <= 10; k++) {
            add("step", x.step(k));
            add("station", x.station(k));
        }
        for (int k = -1; k <= 12; k++) {
            add("stops", x.stops(k));
            add("gain", x.gain(k));
        }
    }

    private void others(ApartCost x) {
        for (int k = -1; k <= 10; k++) {
            add("other", x.other(k));
        }
    }

    private void add(String call, long answer) {
        text.append(call).append(' ').append(answer).append(", ");
    }
}

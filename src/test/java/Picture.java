/** What an object answers, as a text; all of it takes 285 calls, so that some 220 are left for the case itself. */
final class Picture {
    private final StringBuilder text = new StringBuilder();

    static String of(WheelDocks docks) {
        return ofCycles(docks) + ofRiders(docks) + ofStations(docks);
    }

    static String ofCycles(WheelDocks docks) {
        Picture picture = new Picture();
        for (int cycle = 0; cycle < 30; cycle++) {
            picture.row("cycle " + cycle);
            for (int what = 0; what < 4; what++) {
                picture.answer(docks.cycle(cycle, what));
            }
        }
        return picture.text.toString();
    }

    static String ofRiders(WheelDocks docks) {
        Picture picture = new Picture();
        for (int rider = 0; rider < 10; rider++) {
            picture.row("rider " + rider);
            for (int what = 0; what < 5; what++) {
                picture.answer(docks.rider(rider, what));
            }
        }
        picture.row("odd");
        picture.answer(docks.odd());
        picture.row("agrees " + docks.agrees());
        return picture.text.toString();
    }

    static String ofStations(WheelDocks docks) {
        Picture picture = new Picture();
        for (int station = 0; station < 8; station++) {
            picture.row("station " + station);
            for (int what = 0; what < 5; what++) {
                picture.answer(docks.station(station, what));
            }
            picture.answer(docks.nearest(station));
            for (int other = 0; other < 8; other++) {
                picture.answer(docks.way(station, other));
            }
        }
        picture.row("plan");
        picture.answer(docks.plan());
        return picture.text.toString();
    }

    private void row(String name) {
        text.append("; ").append(name).append(':');
    }

    private void answer(int value) {
        text.append(' ').append(value);
    }
}

/** Compares all that two objects tell of what is so. */
final class Agree {
    static void alike(String what, BetweenThem x, BetweenThem y) {
        for (int i = 0; i < 5; i++) {
            Check.due(what + ": count " + i, x.count(i), y.count(i));
        }
        for (int i = 0; i < 6; i++) {
            Check.due(what + ": now " + i, x.now(i), y.now(i));
        }
        int walkers = Math.min(x.count(0), y.count(0));
        int dogs = Math.min(x.count(1), y.count(1));
        for (int w = 0; w < walkers; w++) {
            for (int i = 0; i < 7; i++) {
                Check.due(what + ": walker " + w + " " + i, x.walker(w, i), y.walker(w, i));
            }
            for (int v = 0; v < walkers; v++) {
                Check.due(what + ": said " + w + " " + v, x.said(w, v), y.said(w, v));
            }
        }
        for (int d = 0; d < dogs; d++) {
            for (int i = 0; i < 7; i++) {
                Check.due(what + ": dog " + d + " " + i, x.dog(d, i), y.dog(d, i));
            }
            for (int k = -1; k < 21; k++) {
                Check.due(what + ": turned " + d + " " + k, x.turned(d, k), y.turned(d, k));
                Check.due(what + ": turnedAt " + d + " " + k, x.turnedAt(d, k), y.turnedAt(d, k));
            }
            Check.due(what + ": next " + d, x.next(d), y.next(d));
        }
    }

    private Agree() {
    }
}

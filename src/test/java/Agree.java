/** Compares all that two objects tell of what is so. */
final class Agree {
    static void alike(String what, BetweenThem x, BetweenThem y) {
        for (int i = 0; i < 5; i++) {
            Check.due(what + ": count " + i, x.count(i), y.count(i));
        }
        for (int i = 0; i < 6; i++) {
            Check.due(what + ": now " + i, x.now(i), y.now(i));
        }
        int walkers = Math.min(x.count(0), y.count(0));
        int dogs = Math.min(x.count(1), y.count(1));
        for (int w = 0; w < walkers; w++) {
            for (int i = 0; i < 7; i++) {
                Check.due(what + ": walker " + w + " " + i, x.walker(w, i), y.walker(w, i));
            }
            for (int v = 0; v < walkers; v++) {
                Check.due(what + ": said " + w + " " + v, x.said(w, v), y.said(w, v));
            }
        }
        for (int d = 0; d < dogs; d++) {
            for (int i = 0; i < 7; i++) {
                Check.due(what + ": dog " + d + " " + i, x.dog(d, i), y.dog(d, i));
            }
            for (int k = -1; k < 21; k++) {
                Check.due(what + ": turned " + d + " " + k, x.turned(d, k), y.turned(d, k));
                Check.due(what + ": turnedAt " + d + " " + k, x.turnedAt(d, k), y.turnedAt(d, k));
            }
            Check.due(what + ": next " + d, x.next(d), y.next(d));
        }
    }

    /** What the latest calls told, the SENTENCE and all that can be undone: nothing is left to undo then. */
    static void alikeToTheLast(String what, BetweenThem x, BetweenThem y) {
        Check.due(what + ": tape", x.count(5), y.count(5));
        Check.due(what + ": fault", x.fault(), y.fault());
        for (int i = 0; i < 4; i++) {
            Check.due(what + ": logged " + i, x.logged(i), y.logged(i));
        }
        for (int k = -1; k < 6; k++) {
            Check.due(what + ": told " + k, x.told(k), y.told(k));
        }
        for (int i = 0; i < 9; i++) {
            Check.due(what + ": undo", x.undo(), y.undo());
            Check.due(what + ": undone, second", x.now(0), y.now(0));
            Check.due(what + ": undone, walking", x.now(4), y.now(4));
        }
        for (int k = 0; k < 2; k++) {
            Check.due(what + ": image " + k, x.restore(k), y.restore(k));
            Check.due(what + ": restored, second", x.now(0), y.now(0));
        }
    }

    private Agree() {
    }
}

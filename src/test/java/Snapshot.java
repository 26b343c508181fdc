/** All that can be read from an object without changing it, as one line. */
final class Snapshot {
    private Snapshot() {
    }

    static String of(StandIns x) {
        StringBuilder s = new StringBuilder("about");
        for (int what = 0; what <= 7; what++) {
            s.append(' ').append(x.about(what));
        }
        s.append(" | settings");
        for (int what = 0; what <= 4; what++) {
            s.append(' ').append(x.setting(what));
        }
        for (int r = 0; r < x.about(0); r++) {
            s.append(" | role ").append(r).append(':');
            for (int what = 0; what <= 4; what++) {
                s.append(' ').append(x.role(r, what));
            }
        }
        for (int p = 0; p < x.about(1); p++) {
            s.append(" | player ").append(p).append(':');
            for (int what = 0; what <= 5; what++) {
                s.append(' ').append(x.player(p, what));
            }
            for (int r = 0; r < x.about(0); r++) {
                s.append(" (").append(x.both(p, r, 0)).append(' ').append(x.both(p, r, 1));
                s.append(' ').append(x.both(p, r, 2)).append(')');
            }
        }
        return s.append(" | strength ").append(x.strength()).append(" text ").append(x.errorPosition()).toString();
    }
}

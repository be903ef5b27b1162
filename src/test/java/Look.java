/** All that can be asked of a bench without changing it, as one text (small benches: few calls). */
final class Look {
    private Look() {
    }

    static String at(KnobBench x) {
        StringBuilder s = new StringBuilder();
        for (int what = 0; what <= 5; what++) {
            s.append(x.count(what)).append(' ');
        }
        s.append("| ").append(x.book()).append(' ').append(x.best(0)).append(' ').append(x.best(1));
        for (int setting = 0; setting < x.count(1); setting++) {
            s.append(" | ").append(x.allowed(setting)).append(' ').append(x.worth(setting));
            s.append(' ').append(x.bound(setting, 0)).append(' ').append(x.bound(setting, 1));
        }
        s.append(" || ");
        for (int i = 0; i < x.count(3); i++) {
            s.append(x.read(i, 1)).append(':').append(x.read(i, 0)).append(' ');
        }
        for (int what = 0; what <= 2; what++) {
            s.append("| ").append(x.left(what));
        }
        return s.toString();
    }
}
